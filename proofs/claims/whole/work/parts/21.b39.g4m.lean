set_option maxHeartbeats 4000000 in
set_option maxRecDepth 100000 in
/-- ClassMillModel.wanted -/
theorem vm_wanted (l : Launch) (dC : Nat → ClassId) (dI : Nat → Nat → Nat) (sz : Nat) (h0 : Nat) (zs : (List Value)) (a1 : Int32) (v98 : Int32) (qf100 : Nat) (qf102 : Nat) (qf104 : Nat) (qf105 : Nat) (v117 : Int32) (qf118 : Nat) (qf119 : Nat) (v120 : Int32) (qf127 : Nat) (qf128 : Nat) (v129 : Int32) (v130 : Int32) (v131 : Int32) (v132 : Int32) (v134 : Int32) (v136 : Int32) (qf137 : Nat) (cf100 : ClassId) (f100 : (Nat → Int32)) (cf128 : ClassId) (f128 : (Nat → Int32)) (cf127 : ClassId) (f127 : (Nat → Int32)) (cf104 : ClassId) (f104 : (Nat → Int32)) (cf102 : ClassId) (f102 : (Nat → Int32)) (cf118 : ClassId) (f118 : (Nat → Int32)) (cf119 : ClassId) (f119 : (Nat → Int32)) (cf105 : ClassId) (f105 : (Nat → Int32)) (cf137 : ClassId) (f137 : (Nat → Int32)) (nS477 : Nat) (fS477 : (Nat → Int32)) (hS477 : Nat) (qS477 : Nat) (tS477 : String) (nf : Nat) (r0 : Int32) (o118 : (Nat → Int32)) (o119 : (Nat → Int32)) (o127 : (Nat → Int32)) (o128 : (Nat → Int32)) (o137 : (Nat → Int32)) (w117 : Int32) (w120 : Int32) (w131 : Int32) (hlen : zs.length = 155) (hf98 : zs[98]? = some (.int v98)) (hf100 : zs[100]? = some (.ref qf100)) (hf102 : zs[102]? = some (.ref qf102)) (hf104 : zs[104]? = some (.ref qf104)) (hf105 : zs[105]? = some (.ref qf105)) (hf117 : zs[117]? = some (.int v117)) (hf118 : zs[118]? = some (.ref qf118)) (hf119 : zs[119]? = some (.ref qf119)) (hf120 : zs[120]? = some (.int v120)) (hf127 : zs[127]? = some (.ref qf127)) (hf128 : zs[128]? = some (.ref qf128)) (hf129 : zs[129]? = some (.int v129)) (hf130 : zs[130]? = some (.int v130)) (hf131 : zs[131]? = some (.int v131)) (hf132 : zs[132]? = some (.int v132)) (hf134 : zs[134]? = some (.int v134)) (hf136 : zs[136]? = some (.int v136)) (hf137 : zs[137]? = some (.ref qf137)) (hsp : sp_vm_wanted nf a1 v98 v117 v120 v129 v130 v131 v132 v134 v136 f100 f128 f127 f104 f102 f118 f119 f105 f137 nS477 fS477 = some (r0, o118, o119, o127, o128, o137, w117, w120, w131)) : Met l yX13_wanted (.code yX13_wanted cX13_wanted 5 (some .boolean) :: VS_h9) ({ frames := 12, cells := 0, slots := 0, locals := 276 }) (va_Pc [.ref h0, .int a1] (fun U => U.heap.size = sz ∧ va_P (dC, dI) vwCl [(h0, .inr (13, zs)), (qf100, .inl (cf100, 48000, .inl f100)), (qf128, .inl (cf128, 31, .inl f128)), (qf127, .inl (cf127, 30, .inl f127)), (qf104, .inl (cf104, 8, .inl f104)), (qf102, .inl (cf102, 2048, .inl f102)), (qf118, .inl (cf118, 2100, .inl f118)), (qf119, .inl (cf119, 2100, .inl f119)), (qf105, .inl (cf105, 8, .inl f105)), (qf137, .inl (cf137, 6, .inl f137))] U.heap ∧ va_K (dC, dI) vwCl [(cf100, .int), (cf128, .int), (cf127, .int), (cf104, .int), (cf102, .int), (cf118, .int), (cf119, .int), (cf105, .int), (cf137, .int)] U ∧ va_D (fun _ => True) [(h0, .inr (13, zs)), (qf100, .inl (cf100, 48000, .inl f100)), (qf128, .inl (cf128, 31, .inl f128)), (qf127, .inl (cf127, 30, .inl f127)), (qf104, .inl (cf104, 8, .inl f104)), (qf102, .inl (cf102, 2048, .inl f102)), (qf118, .inl (cf118, 2100, .inl f118)), (qf119, .inl (cf119, 2100, .inl f119)), (qf105, .inl (cf105, 8, .inl f105)), (qf137, .inl (cf137, 6, .inl f137))] ∧ pz_W nS477 fS477 hS477 qS477 (va_A [(h0, .inr (13, zs)), (qf100, .inl (cf100, 48000, .inl f100)), (qf128, .inl (cf128, 31, .inl f128)), (qf127, .inl (cf127, 30, .inl f127)), (qf104, .inl (cf104, 8, .inl f104)), (qf102, .inl (cf102, 2048, .inl f102)), (qf118, .inl (cf118, 2100, .inl f118)), (qf119, .inl (cf119, 2100, .inl f119)), (qf105, .inl (cf105, 8, .inl f105)), (qf137, .inl (cf137, 6, .inl f137))] sz) U U.heap ∧ vk_R RX13 477 tS477 hS477 U)) (va_Qi (fun (r : Int32) (u : (List Value)) => match u with | (zo1) => (r0 = r ∧ (r0 = 0 ∨ r0 = 1)) ∧ zo1.length = 155 ∧ (∀ j : Nat, j ≠ 117 → j ≠ 120 → j ≠ 131 → zo1[j]? = zs[j]?) ∧ zo1[117]? = some (.int w117) ∧ zo1[120]? = some (.int w120) ∧ zo1[131]? = some (.int w131)) (fun (u : (List Value)) (t : State) => match u with | (zo1) => va_P (dC, dI) vwCl [(h0, .inr (13, zo1)), (qf100, .inl (cf100, 48000, .inl f100)), (qf128, .inl (cf128, 31, .inl o128)), (qf127, .inl (cf127, 30, .inl o127)), (qf104, .inl (cf104, 8, .inl f104)), (qf102, .inl (cf102, 2048, .inl f102)), (qf118, .inl (cf118, 2100, .inl o118)), (qf119, .inl (cf119, 2100, .inl o119)), (qf105, .inl (cf105, 8, .inl f105)), (qf137, .inl (cf137, 6, .inl o137))] t.heap ∧ va_K (dC, dI) vwCl [(cf100, .int), (cf128, .int), (cf127, .int), (cf104, .int), (cf102, .int), (cf118, .int), (cf119, .int), (cf105, .int), (cf137, .int)] t ∧ va_D (va_A [(h0, .inr (13, zs)), (qf100, .inl (cf100, 48000, .inl f100)), (qf128, .inl (cf128, 31, .inl f128)), (qf127, .inl (cf127, 30, .inl f127)), (qf104, .inl (cf104, 8, .inl f104)), (qf102, .inl (cf102, 2048, .inl f102)), (qf118, .inl (cf118, 2100, .inl f118)), (qf119, .inl (cf119, 2100, .inl f119)), (qf105, .inl (cf105, 8, .inl f105)), (qf137, .inl (cf137, 6, .inl f137))] sz) [(h0, .inr (13, zo1)), (qf100, .inl (cf100, 48000, .inl f100)), (qf128, .inl (cf128, 31, .inl o128)), (qf127, .inl (cf127, 30, .inl o127)), (qf104, .inl (cf104, 8, .inl f104)), (qf102, .inl (cf102, 2048, .inl f102)), (qf118, .inl (cf118, 2100, .inl o118)), (qf119, .inl (cf119, 2100, .inl o119)), (qf105, .inl (cf105, 8, .inl f105)), (qf137, .inl (cf137, 6, .inl o137))]) (va_A [(h0, .inr (13, zs)), (qf100, .inl (cf100, 48000, .inl f100)), (qf128, .inl (cf128, 31, .inl f128)), (qf127, .inl (cf127, 30, .inl f127)), (qf104, .inl (cf104, 8, .inl f104)), (qf102, .inl (cf102, 2048, .inl f102)), (qf118, .inl (cf118, 2100, .inl f118)), (qf119, .inl (cf119, 2100, .inl f119)), (qf105, .inl (cf105, 8, .inl f105)), (qf137, .inl (cf137, 6, .inl f137))] sz)) 0 0 (va_A [(h0, .inr (13, zs)), (qf100, .inl (cf100, 48000, .inl f100)), (qf128, .inl (cf128, 31, .inl f128)), (qf127, .inl (cf127, 30, .inl f127)), (qf104, .inl (cf104, 8, .inl f104)), (qf102, .inl (cf102, 2048, .inl f102)), (qf118, .inl (cf118, 2100, .inl f118)), (qf119, .inl (cf119, 2100, .inl f119)), (qf105, .inl (cf105, 8, .inl f105)), (qf137, .inl (cf137, 6, .inl f137))] sz) := by
  refine Met.ofW (cc := cX13_wanted) (maxL := 5) (ret := (some .boolean)) (by decide) rfl ?_
  intro p e s m args below meth c s₁ B hml hv
  obtain ⟨rfl, hsz, hP, hK, hD0, hZWS477, hZRS477⟩ := hv
  have hx := B.exec
  have hb := B.bytes
  have hr := B.returns
  have hts := atoms_spec (ws := (.code yX13_wanted cX13_wanted 5 (some .boolean) :: VS_h9)) B.pre
  replace hts := fun w (h : w ∈ VS_h9) => hts w (List.mem_cons_of_mem _ h)
  have hown : s.vm.findClass RX13 = some m.cls := findClass_of_methodNamed B.named
  have hlocks := B.notSynchronized
  subst hsz
  have hD := hD0.self (sz := s.heap.size)
  generalize hAe : va_A [(h0, .inr (13, zs)), (qf100, .inl (cf100, 48000, .inl f100)), (qf128, .inl (cf128, 31, .inl f128)), (qf127, .inl (cf127, 30, .inl f127)), (qf104, .inl (cf104, 8, .inl f104)), (qf102, .inl (cf102, 2048, .inl f102)), (qf118, .inl (cf118, 2100, .inl f118)), (qf119, .inl (cf119, 2100, .inl f119)), (qf105, .inl (cf105, 8, .inl f105)), (qf137, .inl (cf137, 6, .inl f137))] s.heap.size = A at hD hZWS477 ⊢
  have hA : ∀ q : Nat, s.heap.size ≤ q → A q := fun q h => by rw [← hAe]; exact Or.inr h
  have hP : va_P (dC, dI) vwCl [(h0, .inr (13, zs)), (qf100, .inl (cf100, 48000, .inl f100)), (qf128, .inl (cf128, 31, .inl f128)), (qf127, .inl (cf127, 30, .inl f127)), (qf104, .inl (cf104, 8, .inl f104)), (qf102, .inl (cf102, 2048, .inl f102)), (qf118, .inl (cf118, 2100, .inl f118)), (qf119, .inl (cf119, 2100, .inl f119)), (qf105, .inl (cf105, 8, .inl f105)), (qf137, .inl (cf137, 6, .inl f137))] s.heap := hP
  have hl := lv_entry ([.ref h0, .int a1]) (n := 5) (Nat.le_of_ble_eq_true rfl)
  rw [lg_entry_eq]
  generalize (lg_sl ([.ref h0, .int a1]) ++ List.replicate (5 - (lg_sl ([.ref h0, .int a1])).length) Slot.unset).toArray = ls at hl ⊢
  have hl : lv_has ls 5 [(0, .ref h0), (1, .int a1)] := hl
  obtain ⟨H, hH⟩ : ∃ H : Heap, s.heap = H := ⟨_, rfl⟩
  rw [hH] at hP ⊢
  have hS : va_S A s.heap H [] := by rw [← hH]; exact va_S.rf
  obtain ⟨locs, hlo⟩ : ∃ locs : List Loc, locs = [] := ⟨_, rfl⟩
  rw [← hlo] at hS ⊢
  have hrs0 : ∀ j : Nat, j ≠ 117 → j ≠ 120 → j ≠ 131 → zs[j]? = zs[j]? := fun _ _ _ _  => rfl
  unfold sp_vm_wanted at hsp
  refine jn_use (α := Heap × List Loc × Array Slot × List Value × (Nat → Int32) × (Nat → Int32) × (Nat → Int32) × (Nat → Int32) × (Nat → Int32) × Int32 × Int32 × Int32) (fun x9 => x9.1) (fun x9 => x9.2.1) (fun x9 => F0 m 1642 x9.2.2.1 []) (fun x9 => match x9 with | (H, locs, ls, z1642, g118_1642, g119_1642, g127_1642, g128_1642, g137_1642, x117_1642, x120_1642, x131_1642) => lv_has ls 5 [(0, .ref h0)] ∧ va_S A s.heap H locs ∧ va_D A [(h0, .inr (13, z1642)), (qf100, .inl (cf100, 48000, .inl f100)), (qf128, .inl (cf128, 31, .inl g128_1642)), (qf127, .inl (cf127, 30, .inl g127_1642)), (qf104, .inl (cf104, 8, .inl f104)), (qf102, .inl (cf102, 2048, .inl f102)), (qf118, .inl (cf118, 2100, .inl g118_1642)), (qf119, .inl (cf119, 2100, .inl g119_1642)), (qf105, .inl (cf105, 8, .inl f105)), (qf137, .inl (cf137, 6, .inl g137_1642))] ∧ va_P (dC, dI) vwCl [(h0, .inr (13, z1642)), (qf100, .inl (cf100, 48000, .inl f100)), (qf128, .inl (cf128, 31, .inl g128_1642)), (qf127, .inl (cf127, 30, .inl g127_1642)), (qf104, .inl (cf104, 8, .inl f104)), (qf102, .inl (cf102, 2048, .inl f102)), (qf118, .inl (cf118, 2100, .inl g118_1642)), (qf119, .inl (cf119, 2100, .inl g119_1642)), (qf105, .inl (cf105, 8, .inl f105)), (qf137, .inl (cf137, 6, .inl g137_1642))] H ∧ z1642[98]? = some (.int v98) ∧ z1642[100]? = some (.ref qf100) ∧ z1642[102]? = some (.ref qf102) ∧ z1642[104]? = some (.ref qf104) ∧ z1642[105]? = some (.ref qf105) ∧ z1642[117]? = some (.int x117_1642) ∧ z1642[118]? = some (.ref qf118) ∧ z1642[119]? = some (.ref qf119) ∧ z1642[120]? = some (.int x120_1642) ∧ z1642[127]? = some (.ref qf127) ∧ z1642[128]? = some (.ref qf128) ∧ z1642[129]? = some (.int v129) ∧ z1642[130]? = some (.int v130) ∧ z1642[131]? = some (.int x131_1642) ∧ z1642[132]? = some (.int v132) ∧ z1642[134]? = some (.int v134) ∧ z1642[136]? = some (.int v136) ∧ z1642[137]? = some (.ref qf137) ∧ z1642.length = 155 ∧ (∀ j : Nat, j ≠ 117 → j ≠ 120 → j ≠ 131 → z1642[j]? = zs[j]?) ∧ jn_vm_wanted_1642 nf a1 v98 v117 v120 v129 v130 v131 v132 v134 v136 f100 f128 f127 f104 f102 f118 f119 f105 f137 nS477 fS477 g118_1642 g119_1642 g127_1642 g128_1642 g137_1642 x117_1642 x120_1642 x131_1642 = some (r0, o118, o119, o127, o128, o137, w117, w120, w131)) ?_ ?_
  · intro x9 hJ9
    obtain ⟨H, locs, ls, z1642, g118_1642, g119_1642, g127_1642, g128_1642, g137_1642, x117_1642, x120_1642, x131_1642⟩ := x9
    obtain ⟨hl, hS, hD, hP, hfh_1642_98, hfh_1642_100, hfh_1642_102, hfh_1642_104, hfh_1642_105, hfh_1642_117, hfh_1642_118, hfh_1642_119, hfh_1642_120, hfh_1642_127, hfh_1642_128, hfh_1642_129, hfh_1642_130, hfh_1642_131, hfh_1642_132, hfh_1642_134, hfh_1642_136, hfh_1642_137, hlh_1642, hrh_1642, hsp⟩ := hJ9
    replace hl : lv_has ls 5 [(0, .ref h0)] := hl
    replace hS : va_S A s.heap H locs := hS
    replace hD : va_D A [(h0, .inr (13, z1642)), (qf100, .inl (cf100, 48000, .inl f100)), (qf128, .inl (cf128, 31, .inl g128_1642)), (qf127, .inl (cf127, 30, .inl g127_1642)), (qf104, .inl (cf104, 8, .inl f104)), (qf102, .inl (cf102, 2048, .inl f102)), (qf118, .inl (cf118, 2100, .inl g118_1642)), (qf119, .inl (cf119, 2100, .inl g119_1642)), (qf105, .inl (cf105, 8, .inl f105)), (qf137, .inl (cf137, 6, .inl g137_1642))] := hD
    replace hP : va_P (dC, dI) vwCl [(h0, .inr (13, z1642)), (qf100, .inl (cf100, 48000, .inl f100)), (qf128, .inl (cf128, 31, .inl g128_1642)), (qf127, .inl (cf127, 30, .inl g127_1642)), (qf104, .inl (cf104, 8, .inl f104)), (qf102, .inl (cf102, 2048, .inl f102)), (qf118, .inl (cf118, 2100, .inl g118_1642)), (qf119, .inl (cf119, 2100, .inl g119_1642)), (qf105, .inl (cf105, 8, .inl f105)), (qf137, .inl (cf137, 6, .inl g137_1642))] H := hP
    replace hsp : jn_vm_wanted_1642 nf a1 v98 v117 v120 v129 v130 v131 v132 v134 v136 f100 f128 f127 f104 f102 f118 f119 f105 f137 nS477 fS477 g118_1642 g119_1642 g127_1642 g128_1642 g137_1642 x117_1642 x120_1642 x131_1642 = some (r0, o118, o119, o127, o128, o137, w117, w120, w131) := hsp
    show W _ _ _ _ _ _ _ _ _ _ H locs _ _ _ (F0 m 1642 ls [])
    unfold jn_vm_wanted_1642 at hsp
    try dsimp only at hsp
    refine lv_aload_n hx hb dX13_wanted_1642 rfl (lv_at hl 0 rfl) ?_
    obtain ⟨⟨u68_0, u68_1⟩, hu_68, hsp⟩ := ox_bind hsp
    try dsimp only at hsp
    have hPc := hP.sub (ws' := [(h0, .inr (13, z1642)), (qf128, .inl (cf128, 31, .inl g128_1642))]) [0, 2] rfl
    have hDc := hD.sub (ws' := [(h0, .inr (13, z1642)), (qf128, .inl (cf128, 31, .inl g128_1642))]) [0, 2] (by decide) rfl
    have hKc := hK.sub (tys' := [(cf128, .int)]) [1] rfl
    have hFc := va_free (wc := [(h0, .inr (13, z1642)), (qf128, .inl (cf128, 31, .inl g128_1642))]) hD hS hA [0, 2] rfl
    refine va_calli (va_runV (As := []) (rest := []) ⟨hx, hb, hml, hown, hts⟩ (tm_pullThing l dC dI H.size h0 z1642 qf128 x131_1642 cf128 g128_1642 nf u68_0 u68_1 hlh_1642 hfh_1642_128 hfh_1642_131 hu_68) (cwV 0 hts gv_h9_71 rfl rfl rfl (by decide +kernel) ⟨Nat.le_of_ble_eq_true rfl, Nat.le_of_ble_eq_true rfl⟩) ⟨fun a U g mk q => by obtain ⟨q0, q1, qP, qK, qD⟩ := q; exact ⟨q0, q1, qP, va_K.moved (u := U) (U := U.calling g mk a) (Vm.Alike.refl U.vm) qK, qD⟩, va_recv hKc hPc (ci := 13) (q0 := 0) rfl rfl, fun U hU hW => ⟨rfl, by rw [hU], by rw [hU]; exact hPc, va_K.moved hW.alike hKc, hDc.weaken (fun _ _ _ _ => trivial)⟩⟩ rfl rfl hl.1 rfl (lv_room (Nat.le_of_ble_eq_true rfl)) dX13_wanted_1643 ⟨Nat.le_of_ble_eq_true rfl, Nat.le_of_ble_eq_true rfl⟩) hS (fun q _ h => hFc q h) hFc ?_
    clear hS
    intro r_371 u t H1 locs ht hvm hw hB hz1 hk1 hS
    obtain ⟨z_68, rfl⟩ : ∃ z, z = u := ⟨_, rfl⟩
    obtain ⟨hP1, hK1, hD1⟩ := hB
    rw [ht] at hP1
    have hK1 := va_K.moved hvm.symm hK1
    try dsimp only at hw
    have hPD := va_join (wr := [(qf100, .inl (cf100, 48000, .inl f100)), (qf127, .inl (cf127, 30, .inl g127_1642)), (qf104, .inl (cf104, 8, .inl f104)), (qf102, .inl (cf102, 2048, .inl f102)), (qf118, .inl (cf118, 2100, .inl g118_1642)), (qf119, .inl (cf119, 2100, .inl g119_1642)), (qf105, .inl (cf105, 8, .inl f105)), (qf137, .inl (cf137, 6, .inl g137_1642))]) (w1 := [(h0, .inr (13, z_68)), (qf128, .inl (cf128, 31, .inl g128_1642))]) hP hD [0, 2] [1, 3, 4, 5, 6, 7, 8, 9] rfl rfl (by decide) (by decide) hk1 hFc hP1 hD1
    clear hP hD
    obtain ⟨hP, hD⟩ := hPD
    replace hK := (hK.sub (tys' := [(cf100, .int), (cf127, .int), (cf104, .int), (cf102, .int), (cf118, .int), (cf119, .int), (cf105, .int), (cf137, .int)]) [0, 2, 3, 4, 5, 6, 7, 8] rfl).app hK1
    clear hPc hDc hKc hFc hP1 hK1 hD1 hz1 hk1 ht hvm
    generalize H1 = H at hP hS ⊢
    replace hP : va_P (dC, dI) vwCl [(qf100, .inl (cf100, 48000, .inl f100)), (qf127, .inl (cf127, 30, .inl g127_1642)), (qf104, .inl (cf104, 8, .inl f104)), (qf102, .inl (cf102, 2048, .inl f102)), (qf118, .inl (cf118, 2100, .inl g118_1642)), (qf119, .inl (cf119, 2100, .inl g119_1642)), (qf105, .inl (cf105, 8, .inl f105)), (qf137, .inl (cf137, 6, .inl g137_1642)), (h0, .inr (13, z_68)), (qf128, .inl (cf128, 31, .inl g128_1642))] H := hP
    replace hD : va_D A [(qf100, .inl (cf100, 48000, .inl f100)), (qf127, .inl (cf127, 30, .inl g127_1642)), (qf104, .inl (cf104, 8, .inl f104)), (qf102, .inl (cf102, 2048, .inl f102)), (qf118, .inl (cf118, 2100, .inl g118_1642)), (qf119, .inl (cf119, 2100, .inl g119_1642)), (qf105, .inl (cf105, 8, .inl f105)), (qf137, .inl (cf137, 6, .inl g137_1642)), (h0, .inr (13, z_68)), (qf128, .inl (cf128, 31, .inl g128_1642))] := hD
    replace hK : va_K (dC, dI) vwCl [(cf100, .int), (cf127, .int), (cf104, .int), (cf102, .int), (cf118, .int), (cf119, .int), (cf105, .int), (cf137, .int), (cf128, .int)] s := hK
    obtain ⟨hwa_68, hln_68, hre_68, hch_68_131⟩ := hw
    have hfk_68_98 : z_68[98]? = some (.int v98) := (hre_68 98 (by decide)).trans (hfh_1642_98)
    have hfk_68_100 : z_68[100]? = some (.ref qf100) := (hre_68 100 (by decide)).trans (hfh_1642_100)
    have hfk_68_102 : z_68[102]? = some (.ref qf102) := (hre_68 102 (by decide)).trans (hfh_1642_102)
    have hfk_68_104 : z_68[104]? = some (.ref qf104) := (hre_68 104 (by decide)).trans (hfh_1642_104)
    have hfk_68_105 : z_68[105]? = some (.ref qf105) := (hre_68 105 (by decide)).trans (hfh_1642_105)
    have hfk_68_117 : z_68[117]? = some (.int x117_1642) := (hre_68 117 (by decide)).trans (hfh_1642_117)
    have hfk_68_118 : z_68[118]? = some (.ref qf118) := (hre_68 118 (by decide)).trans (hfh_1642_118)
    have hfk_68_119 : z_68[119]? = some (.ref qf119) := (hre_68 119 (by decide)).trans (hfh_1642_119)
    have hfk_68_120 : z_68[120]? = some (.int x120_1642) := (hre_68 120 (by decide)).trans (hfh_1642_120)
    have hfk_68_127 : z_68[127]? = some (.ref qf127) := (hre_68 127 (by decide)).trans (hfh_1642_127)
    have hfk_68_128 : z_68[128]? = some (.ref qf128) := (hre_68 128 (by decide)).trans (hfh_1642_128)
    have hfk_68_129 : z_68[129]? = some (.int v129) := (hre_68 129 (by decide)).trans (hfh_1642_129)
    have hfk_68_130 : z_68[130]? = some (.int v130) := (hre_68 130 (by decide)).trans (hfh_1642_130)
    have hfk_68_132 : z_68[132]? = some (.int v132) := (hre_68 132 (by decide)).trans (hfh_1642_132)
    have hfk_68_134 : z_68[134]? = some (.int v134) := (hre_68 134 (by decide)).trans (hfh_1642_134)
    have hfk_68_136 : z_68[136]? = some (.int v136) := (hre_68 136 (by decide)).trans (hfh_1642_136)
    have hfk_68_137 : z_68[137]? = some (.ref qf137) := (hre_68 137 (by decide)).trans (hfh_1642_137)
    have hrq_68 : ∀ j : Nat, j ≠ 117 → j ≠ 120 → j ≠ 131 → z_68[j]? = zs[j]? := fun j g117 g120 g131 => (hre_68 j g131).trans (hrh_1642 j g117 g120 g131)
    obtain ⟨rfl, hz_68⟩ := hwa_68
    rcases hz_68 with rfl | rfl
    · rw [if_pos rfl] at hsp
      refine lv_if_eq (tgt := 1661) hx hb dX13_wanted_1646 (by decide) (fun c_372 => ?_) (fun c_372 => (show False by revert c_372; decide).elim)
      refine lv_iconst (v := 0) hx hb dX13_wanted_1661 (by decide) ?_
      have hr0 := Option.some.inj hsp
      clear hsp
      obtain ⟨hq0, hr1⟩ := Prod.mk.inj hr0
      clear hr0
      obtain ⟨hq1, hr2⟩ := Prod.mk.inj hr1
      clear hr1
      obtain ⟨hq2, hr3⟩ := Prod.mk.inj hr2
      clear hr2
      obtain ⟨hq3, hr4⟩ := Prod.mk.inj hr3
      clear hr3
      obtain ⟨hq4, hr5⟩ := Prod.mk.inj hr4
      clear hr4
      obtain ⟨hq5, hr6⟩ := Prod.mk.inj hr5
      clear hr5
      obtain ⟨hq6, hr7⟩ := Prod.mk.inj hr6
      clear hr6
      obtain ⟨hq7, hr8⟩ := Prod.mk.inj hr7
      clear hr7
      subst hq0
      subst hq1
      subst hq2
      subst hq3
      subst hq4
      subst hq5
      subst hq6
      subst hq7
      subst hr8
      have hP9 := hP.sub (ws' := [(h0, .inr (13, z_68)), (qf100, .inl (cf100, 48000, .inl f100)), (qf128, .inl (cf128, 31, .inl g128_1642)), (qf127, .inl (cf127, 30, .inl g127_1642)), (qf104, .inl (cf104, 8, .inl f104)), (qf102, .inl (cf102, 2048, .inl f102)), (qf118, .inl (cf118, 2100, .inl g118_1642)), (qf119, .inl (cf119, 2100, .inl g119_1642)), (qf105, .inl (cf105, 8, .inl f105)), (qf137, .inl (cf137, 6, .inl g137_1642))]) [8, 0, 9, 1, 2, 3, 4, 5, 6, 7] rfl
      have hD9 := hD.sub (ws' := [(h0, .inr (13, z_68)), (qf100, .inl (cf100, 48000, .inl f100)), (qf128, .inl (cf128, 31, .inl g128_1642)), (qf127, .inl (cf127, 30, .inl g127_1642)), (qf104, .inl (cf104, 8, .inl f104)), (qf102, .inl (cf102, 2048, .inl f102)), (qf118, .inl (cf118, 2100, .inl g118_1642)), (qf119, .inl (cf119, 2100, .inl g119_1642)), (qf105, .inl (cf105, 8, .inl f105)), (qf137, .inl (cf137, 6, .inl g137_1642))]) [8, 0, 9, 1, 2, 3, 4, 5, 6, 7] (by decide) rfl
      have hK9 := hK.sub (tys' := [(cf100, .int), (cf128, .int), (cf127, .int), (cf104, .int), (cf102, .int), (cf118, .int), (cf119, .int), (cf105, .int), (cf137, .int)]) [0, 8, 1, 2, 3, 4, 5, 6, 7] rfl
      exact W.zret hx hb hr (by decide) (fun t ht hW => ⟨⟨(0), (z_68), rfl, ⟨⟨rfl, Or.inl rfl⟩, hln_68, hrq_68, hfk_68_117, hfk_68_120, hch_68_131⟩, by rw [ht]; exact hP9, va_K.moved hW.alike hK9, hD9⟩, hS.F ht⟩) hS.2.2 dX13_wanted_1662
    · rw [if_neg (by decide)] at hsp
      refine lv_if_eq (tgt := 1661) hx hb dX13_wanted_1646 (by decide) (fun c_373 => (show False by revert c_373; decide).elim) (fun c_373 => ?_)
      refine lv_aload_n hx hb dX13_wanted_1649 rfl (lv_at hl 0 rfl) ?_
      refine lv_iconst (v := 1) hx hb dX13_wanted_1650 (by decide) ?_
      obtain ⟨⟨u69_0, g969_1, u69_2⟩, hu_69, hsp⟩ := ox_bind hsp
      try dsimp only at hsp
      have hPc := hP.sub (ws' := [(h0, .inr (13, z_68)), (qf128, .inl (cf128, 31, .inl g128_1642))]) [8, 9] rfl
      have hDc := hD.sub (ws' := [(h0, .inr (13, z_68)), (qf128, .inl (cf128, 31, .inl g128_1642))]) [8, 9] (by decide) rfl
      have hKc := hK.sub (tys' := [(cf128, .int)]) [8] rfl
      have hFc := va_free (wc := [(h0, .inr (13, z_68)), (qf128, .inl (cf128, 31, .inl g128_1642))]) hD hS hA [8, 9] rfl
      refine va_calli (va_runV (As := [.int 1]) (rest := []) ⟨hx, hb, hml, hown, hts⟩ (tm_comesBack l dC dI H.size h0 z_68 1 qf128 v130 u68_1 cf128 g128_1642 nf u69_0 g969_1 u69_2 hln_68 hfk_68_128 hfk_68_130 hch_68_131 hu_69) (cwV 1 hts gv_h9_69 rfl rfl rfl (by decide +kernel) ⟨Nat.le_of_ble_eq_true rfl, Nat.le_of_ble_eq_true rfl⟩) ⟨fun a U g mk q => by obtain ⟨q0, q1, qP, qK, qD⟩ := q; exact ⟨q0, q1, qP, va_K.moved (u := U) (U := U.calling g mk a) (Vm.Alike.refl U.vm) qK, qD⟩, va_recv hKc hPc (ci := 13) (q0 := 0) rfl rfl, fun U hU hW => ⟨rfl, by rw [hU], by rw [hU]; exact hPc, va_K.moved hW.alike hKc, hDc.weaken (fun _ _ _ _ => trivial)⟩⟩ rfl rfl hl.1 rfl (lv_room (Nat.le_of_ble_eq_true rfl)) dX13_wanted_1651 ⟨Nat.le_of_ble_eq_true rfl, Nat.le_of_ble_eq_true rfl⟩) hS (fun q _ h => hFc q h) hFc ?_
      clear hS
      intro r_374 u t H1 locs ht hvm hw hB hz1 hk1 hS
      obtain ⟨z_69, rfl⟩ : ∃ z, z = u := ⟨_, rfl⟩
      obtain ⟨hP1, hK1, hD1⟩ := hB
      rw [ht] at hP1
      have hK1 := va_K.moved hvm.symm hK1
      try dsimp only at hw
      have hPD := va_join (wr := [(qf100, .inl (cf100, 48000, .inl f100)), (qf127, .inl (cf127, 30, .inl g127_1642)), (qf104, .inl (cf104, 8, .inl f104)), (qf102, .inl (cf102, 2048, .inl f102)), (qf118, .inl (cf118, 2100, .inl g118_1642)), (qf119, .inl (cf119, 2100, .inl g119_1642)), (qf105, .inl (cf105, 8, .inl f105)), (qf137, .inl (cf137, 6, .inl g137_1642))]) (w1 := [(h0, .inr (13, z_69)), (qf128, .inl (cf128, 31, .inl g969_1))]) hP hD [8, 9] [0, 1, 2, 3, 4, 5, 6, 7] rfl rfl (by decide) (by decide) hk1 hFc hP1 hD1
      clear hP hD
      obtain ⟨hP, hD⟩ := hPD
      replace hK := (hK.sub (tys' := [(cf100, .int), (cf127, .int), (cf104, .int), (cf102, .int), (cf118, .int), (cf119, .int), (cf105, .int), (cf137, .int)]) [0, 1, 2, 3, 4, 5, 6, 7] rfl).app hK1
      clear hPc hDc hKc hFc hP1 hK1 hD1 hz1 hk1 ht hvm
      generalize H1 = H at hP hS ⊢
      replace hP : va_P (dC, dI) vwCl [(qf100, .inl (cf100, 48000, .inl f100)), (qf127, .inl (cf127, 30, .inl g127_1642)), (qf104, .inl (cf104, 8, .inl f104)), (qf102, .inl (cf102, 2048, .inl f102)), (qf118, .inl (cf118, 2100, .inl g118_1642)), (qf119, .inl (cf119, 2100, .inl g119_1642)), (qf105, .inl (cf105, 8, .inl f105)), (qf137, .inl (cf137, 6, .inl g137_1642)), (h0, .inr (13, z_69)), (qf128, .inl (cf128, 31, .inl g969_1))] H := hP
      replace hD : va_D A [(qf100, .inl (cf100, 48000, .inl f100)), (qf127, .inl (cf127, 30, .inl g127_1642)), (qf104, .inl (cf104, 8, .inl f104)), (qf102, .inl (cf102, 2048, .inl f102)), (qf118, .inl (cf118, 2100, .inl g118_1642)), (qf119, .inl (cf119, 2100, .inl g119_1642)), (qf105, .inl (cf105, 8, .inl f105)), (qf137, .inl (cf137, 6, .inl g137_1642)), (h0, .inr (13, z_69)), (qf128, .inl (cf128, 31, .inl g969_1))] := hD
      replace hK : va_K (dC, dI) vwCl [(cf100, .int), (cf127, .int), (cf104, .int), (cf102, .int), (cf118, .int), (cf119, .int), (cf105, .int), (cf137, .int), (cf128, .int)] s := hK
      obtain ⟨hwa_69, hln_69, hre_69, hch_69_131⟩ := hw
      have hfk_69_98 : z_69[98]? = some (.int v98) := (hre_69 98 (by decide)).trans (hfk_68_98)
      have hfk_69_100 : z_69[100]? = some (.ref qf100) := (hre_69 100 (by decide)).trans (hfk_68_100)
      have hfk_69_102 : z_69[102]? = some (.ref qf102) := (hre_69 102 (by decide)).trans (hfk_68_102)
      have hfk_69_104 : z_69[104]? = some (.ref qf104) := (hre_69 104 (by decide)).trans (hfk_68_104)
      have hfk_69_105 : z_69[105]? = some (.ref qf105) := (hre_69 105 (by decide)).trans (hfk_68_105)
      have hfk_69_117 : z_69[117]? = some (.int x117_1642) := (hre_69 117 (by decide)).trans (hfk_68_117)
      have hfk_69_118 : z_69[118]? = some (.ref qf118) := (hre_69 118 (by decide)).trans (hfk_68_118)
      have hfk_69_119 : z_69[119]? = some (.ref qf119) := (hre_69 119 (by decide)).trans (hfk_68_119)
      have hfk_69_120 : z_69[120]? = some (.int x120_1642) := (hre_69 120 (by decide)).trans (hfk_68_120)
      have hfk_69_127 : z_69[127]? = some (.ref qf127) := (hre_69 127 (by decide)).trans (hfk_68_127)
      have hfk_69_128 : z_69[128]? = some (.ref qf128) := (hre_69 128 (by decide)).trans (hfk_68_128)
      have hfk_69_129 : z_69[129]? = some (.int v129) := (hre_69 129 (by decide)).trans (hfk_68_129)
      have hfk_69_130 : z_69[130]? = some (.int v130) := (hre_69 130 (by decide)).trans (hfk_68_130)
      have hfk_69_132 : z_69[132]? = some (.int v132) := (hre_69 132 (by decide)).trans (hfk_68_132)
      have hfk_69_134 : z_69[134]? = some (.int v134) := (hre_69 134 (by decide)).trans (hfk_68_134)
      have hfk_69_136 : z_69[136]? = some (.int v136) := (hre_69 136 (by decide)).trans (hfk_68_136)
      have hfk_69_137 : z_69[137]? = some (.ref qf137) := (hre_69 137 (by decide)).trans (hfk_68_137)
      have hrq_69 : ∀ j : Nat, j ≠ 117 → j ≠ 120 → j ≠ 131 → z_69[j]? = zs[j]? := fun j g117 g120 g131 => (hre_69 j g131).trans (hrq_68 j g117 g120 g131)
      obtain ⟨rfl, hz_69⟩ := hwa_69
      rcases hz_69 with rfl | rfl
      · rw [if_pos rfl] at hsp
        refine lv_if_eq (tgt := 1661) hx hb dX13_wanted_1654 (by decide) (fun c_375 => ?_) (fun c_375 => (show False by revert c_375; decide).elim)
        refine lv_iconst (v := 0) hx hb dX13_wanted_1661 (by decide) ?_
        have hr0 := Option.some.inj hsp
        clear hsp
        obtain ⟨hq0, hr1⟩ := Prod.mk.inj hr0
        clear hr0
        obtain ⟨hq1, hr2⟩ := Prod.mk.inj hr1
        clear hr1
        obtain ⟨hq2, hr3⟩ := Prod.mk.inj hr2
        clear hr2
        obtain ⟨hq3, hr4⟩ := Prod.mk.inj hr3
        clear hr3
        obtain ⟨hq4, hr5⟩ := Prod.mk.inj hr4
        clear hr4
        obtain ⟨hq5, hr6⟩ := Prod.mk.inj hr5
        clear hr5
        obtain ⟨hq6, hr7⟩ := Prod.mk.inj hr6
        clear hr6
        obtain ⟨hq7, hr8⟩ := Prod.mk.inj hr7
        clear hr7
        subst hq0
        subst hq1
        subst hq2
        subst hq3
        subst hq4
        subst hq5
        subst hq6
        subst hq7
        subst hr8
        have hP9 := hP.sub (ws' := [(h0, .inr (13, z_69)), (qf100, .inl (cf100, 48000, .inl f100)), (qf128, .inl (cf128, 31, .inl g969_1)), (qf127, .inl (cf127, 30, .inl g127_1642)), (qf104, .inl (cf104, 8, .inl f104)), (qf102, .inl (cf102, 2048, .inl f102)), (qf118, .inl (cf118, 2100, .inl g118_1642)), (qf119, .inl (cf119, 2100, .inl g119_1642)), (qf105, .inl (cf105, 8, .inl f105)), (qf137, .inl (cf137, 6, .inl g137_1642))]) [8, 0, 9, 1, 2, 3, 4, 5, 6, 7] rfl
        have hD9 := hD.sub (ws' := [(h0, .inr (13, z_69)), (qf100, .inl (cf100, 48000, .inl f100)), (qf128, .inl (cf128, 31, .inl g969_1)), (qf127, .inl (cf127, 30, .inl g127_1642)), (qf104, .inl (cf104, 8, .inl f104)), (qf102, .inl (cf102, 2048, .inl f102)), (qf118, .inl (cf118, 2100, .inl g118_1642)), (qf119, .inl (cf119, 2100, .inl g119_1642)), (qf105, .inl (cf105, 8, .inl f105)), (qf137, .inl (cf137, 6, .inl g137_1642))]) [8, 0, 9, 1, 2, 3, 4, 5, 6, 7] (by decide) rfl
        have hK9 := hK.sub (tys' := [(cf100, .int), (cf128, .int), (cf127, .int), (cf104, .int), (cf102, .int), (cf118, .int), (cf119, .int), (cf105, .int), (cf137, .int)]) [0, 8, 1, 2, 3, 4, 5, 6, 7] rfl
        exact W.zret hx hb hr (by decide) (fun t ht hW => ⟨⟨(0), (z_69), rfl, ⟨⟨rfl, Or.inl rfl⟩, hln_69, hrq_69, hfk_69_117, hfk_69_120, hch_69_131⟩, by rw [ht]; exact hP9, va_K.moved hW.alike hK9, hD9⟩, hS.F ht⟩) hS.2.2 dX13_wanted_1662
      · rw [if_neg (by decide)] at hsp
        refine lv_if_eq (tgt := 1661) hx hb dX13_wanted_1654 (by decide) (fun c_376 => (show False by revert c_376; decide).elim) (fun c_376 => ?_)
        refine lv_iconst (v := 1) hx hb dX13_wanted_1657 (by decide) ?_
        refine lv_goto (tgt := 1662) hx hb dX13_wanted_1658 (by decide) ?_
        have hr0 := Option.some.inj hsp
        clear hsp
        obtain ⟨hq0, hr1⟩ := Prod.mk.inj hr0
        clear hr0
        obtain ⟨hq1, hr2⟩ := Prod.mk.inj hr1
        clear hr1
        obtain ⟨hq2, hr3⟩ := Prod.mk.inj hr2
        clear hr2
        obtain ⟨hq3, hr4⟩ := Prod.mk.inj hr3
        clear hr3
        obtain ⟨hq4, hr5⟩ := Prod.mk.inj hr4
        clear hr4
        obtain ⟨hq5, hr6⟩ := Prod.mk.inj hr5
        clear hr5
        obtain ⟨hq6, hr7⟩ := Prod.mk.inj hr6
        clear hr6
        obtain ⟨hq7, hr8⟩ := Prod.mk.inj hr7
        clear hr7
        subst hq0
        subst hq1
        subst hq2
        subst hq3
        subst hq4
        subst hq5
        subst hq6
        subst hq7
        subst hr8
        have hP9 := hP.sub (ws' := [(h0, .inr (13, z_69)), (qf100, .inl (cf100, 48000, .inl f100)), (qf128, .inl (cf128, 31, .inl g969_1)), (qf127, .inl (cf127, 30, .inl g127_1642)), (qf104, .inl (cf104, 8, .inl f104)), (qf102, .inl (cf102, 2048, .inl f102)), (qf118, .inl (cf118, 2100, .inl g118_1642)), (qf119, .inl (cf119, 2100, .inl g119_1642)), (qf105, .inl (cf105, 8, .inl f105)), (qf137, .inl (cf137, 6, .inl g137_1642))]) [8, 0, 9, 1, 2, 3, 4, 5, 6, 7] rfl
        have hD9 := hD.sub (ws' := [(h0, .inr (13, z_69)), (qf100, .inl (cf100, 48000, .inl f100)), (qf128, .inl (cf128, 31, .inl g969_1)), (qf127, .inl (cf127, 30, .inl g127_1642)), (qf104, .inl (cf104, 8, .inl f104)), (qf102, .inl (cf102, 2048, .inl f102)), (qf118, .inl (cf118, 2100, .inl g118_1642)), (qf119, .inl (cf119, 2100, .inl g119_1642)), (qf105, .inl (cf105, 8, .inl f105)), (qf137, .inl (cf137, 6, .inl g137_1642))]) [8, 0, 9, 1, 2, 3, 4, 5, 6, 7] (by decide) rfl
        have hK9 := hK.sub (tys' := [(cf100, .int), (cf128, .int), (cf127, .int), (cf104, .int), (cf102, .int), (cf118, .int), (cf119, .int), (cf105, .int), (cf137, .int)]) [0, 8, 1, 2, 3, 4, 5, 6, 7] rfl
        exact W.zret hx hb hr (by decide) (fun t ht hW => ⟨⟨(1), (z_69), rfl, ⟨⟨rfl, Or.inr rfl⟩, hln_69, hrq_69, hfk_69_117, hfk_69_120, hch_69_131⟩, by rw [ht]; exact hP9, va_K.moved hW.alike hK9, hD9⟩, hS.F ht⟩) hS.2.2 dX13_wanted_1662
  intro hj_1642
  refine jn_use (α := Heap × List Loc × Array Slot × List Value × Int32 × Int32 × (Nat → Int32) × (Nat → Int32) × (Nat → Int32) × (Nat → Int32) × (Nat → Int32) × Int32 × Int32 × Int32) (fun x9 => x9.1) (fun x9 => x9.2.1) (fun x9 => F0 m 1480 x9.2.2.1 []) (fun x9 => match x9 with | (H, locs, ls, z1480, l2_1480, l3_1480, g118_1480, g119_1480, g127_1480, g128_1480, g137_1480, x117_1480, x120_1480, x131_1480) => lv_has ls 5 [(0, .ref h0), (2, .int l2_1480), (3, .int l3_1480)] ∧ va_S A s.heap H locs ∧ va_D A [(h0, .inr (13, z1480)), (qf100, .inl (cf100, 48000, .inl f100)), (qf128, .inl (cf128, 31, .inl g128_1480)), (qf127, .inl (cf127, 30, .inl g127_1480)), (qf104, .inl (cf104, 8, .inl f104)), (qf102, .inl (cf102, 2048, .inl f102)), (qf118, .inl (cf118, 2100, .inl g118_1480)), (qf119, .inl (cf119, 2100, .inl g119_1480)), (qf105, .inl (cf105, 8, .inl f105)), (qf137, .inl (cf137, 6, .inl g137_1480))] ∧ va_P (dC, dI) vwCl [(h0, .inr (13, z1480)), (qf100, .inl (cf100, 48000, .inl f100)), (qf128, .inl (cf128, 31, .inl g128_1480)), (qf127, .inl (cf127, 30, .inl g127_1480)), (qf104, .inl (cf104, 8, .inl f104)), (qf102, .inl (cf102, 2048, .inl f102)), (qf118, .inl (cf118, 2100, .inl g118_1480)), (qf119, .inl (cf119, 2100, .inl g119_1480)), (qf105, .inl (cf105, 8, .inl f105)), (qf137, .inl (cf137, 6, .inl g137_1480))] H ∧ z1480[98]? = some (.int v98) ∧ z1480[100]? = some (.ref qf100) ∧ z1480[102]? = some (.ref qf102) ∧ z1480[104]? = some (.ref qf104) ∧ z1480[105]? = some (.ref qf105) ∧ z1480[117]? = some (.int x117_1480) ∧ z1480[118]? = some (.ref qf118) ∧ z1480[119]? = some (.ref qf119) ∧ z1480[120]? = some (.int x120_1480) ∧ z1480[127]? = some (.ref qf127) ∧ z1480[128]? = some (.ref qf128) ∧ z1480[129]? = some (.int v129) ∧ z1480[130]? = some (.int v130) ∧ z1480[131]? = some (.int x131_1480) ∧ z1480[132]? = some (.int v132) ∧ z1480[134]? = some (.int v134) ∧ z1480[136]? = some (.int v136) ∧ z1480[137]? = some (.ref qf137) ∧ z1480.length = 155 ∧ (∀ j : Nat, j ≠ 117 → j ≠ 120 → j ≠ 131 → z1480[j]? = zs[j]?) ∧ jn_vm_wanted_1480 nf a1 v98 v117 v120 v129 v130 v131 v132 v134 v136 f100 f128 f127 f104 f102 f118 f119 f105 f137 nS477 fS477 l2_1480 l3_1480 g118_1480 g119_1480 g127_1480 g128_1480 g137_1480 x117_1480 x120_1480 x131_1480 = some (r0, o118, o119, o127, o128, o137, w117, w120, w131)) ?_ ?_
  · intro x9 hJ9
    obtain ⟨H, locs, ls, z1480, l2_1480, l3_1480, g118_1480, g119_1480, g127_1480, g128_1480, g137_1480, x117_1480, x120_1480, x131_1480⟩ := x9
    obtain ⟨hl, hS, hD, hP, hfh_1480_98, hfh_1480_100, hfh_1480_102, hfh_1480_104, hfh_1480_105, hfh_1480_117, hfh_1480_118, hfh_1480_119, hfh_1480_120, hfh_1480_127, hfh_1480_128, hfh_1480_129, hfh_1480_130, hfh_1480_131, hfh_1480_132, hfh_1480_134, hfh_1480_136, hfh_1480_137, hlh_1480, hrh_1480, hsp⟩ := hJ9
    replace hl : lv_has ls 5 [(0, .ref h0), (2, .int l2_1480), (3, .int l3_1480)] := hl
    replace hS : va_S A s.heap H locs := hS
    replace hD : va_D A [(h0, .inr (13, z1480)), (qf100, .inl (cf100, 48000, .inl f100)), (qf128, .inl (cf128, 31, .inl g128_1480)), (qf127, .inl (cf127, 30, .inl g127_1480)), (qf104, .inl (cf104, 8, .inl f104)), (qf102, .inl (cf102, 2048, .inl f102)), (qf118, .inl (cf118, 2100, .inl g118_1480)), (qf119, .inl (cf119, 2100, .inl g119_1480)), (qf105, .inl (cf105, 8, .inl f105)), (qf137, .inl (cf137, 6, .inl g137_1480))] := hD
    replace hP : va_P (dC, dI) vwCl [(h0, .inr (13, z1480)), (qf100, .inl (cf100, 48000, .inl f100)), (qf128, .inl (cf128, 31, .inl g128_1480)), (qf127, .inl (cf127, 30, .inl g127_1480)), (qf104, .inl (cf104, 8, .inl f104)), (qf102, .inl (cf102, 2048, .inl f102)), (qf118, .inl (cf118, 2100, .inl g118_1480)), (qf119, .inl (cf119, 2100, .inl g119_1480)), (qf105, .inl (cf105, 8, .inl f105)), (qf137, .inl (cf137, 6, .inl g137_1480))] H := hP
    replace hsp : jn_vm_wanted_1480 nf a1 v98 v117 v120 v129 v130 v131 v132 v134 v136 f100 f128 f127 f104 f102 f118 f119 f105 f137 nS477 fS477 l2_1480 l3_1480 g118_1480 g119_1480 g127_1480 g128_1480 g137_1480 x117_1480 x120_1480 x131_1480 = some (r0, o118, o119, o127, o128, o137, w117, w120, w131) := hsp
    show W _ _ _ _ _ _ _ _ _ _ H locs _ _ _ (F0 m 1480 ls [])
    unfold jn_vm_wanted_1480 at hsp
    try dsimp only at hsp
    refine lv_aload_n hx hb dX13_wanted_1480 rfl (lv_at hl 0 rfl) ?_
    refine lv_iload_n hx hb dX13_wanted_1481 rfl (lv_at hl 2 rfl) ?_
    refine lv_iload_n hx hb dX13_wanted_1482 rfl (lv_at hl 1 rfl) ?_
    refine lv_sipush (v := 184) hx hb dX13_wanted_1483 (by decide) ?_
    refine lv_icmp_ne (tgt := 1493) hx hb dX13_wanted_1486 (by decide) (fun c_368 => ?_) (fun c_368 => ?_)
    · rw [if_neg c_368] at hsp
      refine lv_iconst (v := 0) hx hb dX13_wanted_1493 (by decide) ?_
      obtain ⟨⟨u66_0, g966_1, g966_2, g966_3, g966_4, u66_5, u66_6, u66_7⟩, hu_66, hsp⟩ := ox_bind hsp
      try dsimp only at hsp
      have hPc := hP.sub (ws' := [(h0, .inr (13, z1480)), (qf102, .inl (cf102, 2048, .inl f102)), (qf100, .inl (cf100, 48000, .inl f100)), (qf104, .inl (cf104, 8, .inl f104)), (qf118, .inl (cf118, 2100, .inl g118_1480)), (qf119, .inl (cf119, 2100, .inl g119_1480)), (qf128, .inl (cf128, 31, .inl g128_1480)), (qf105, .inl (cf105, 8, .inl f105)), (qf137, .inl (cf137, 6, .inl g137_1480))]) [0, 5, 1, 4, 6, 7, 2, 8, 9] rfl
      have hDc := hD.sub (ws' := [(h0, .inr (13, z1480)), (qf102, .inl (cf102, 2048, .inl f102)), (qf100, .inl (cf100, 48000, .inl f100)), (qf104, .inl (cf104, 8, .inl f104)), (qf118, .inl (cf118, 2100, .inl g118_1480)), (qf119, .inl (cf119, 2100, .inl g119_1480)), (qf128, .inl (cf128, 31, .inl g128_1480)), (qf105, .inl (cf105, 8, .inl f105)), (qf137, .inl (cf137, 6, .inl g137_1480))]) [0, 5, 1, 4, 6, 7, 2, 8, 9] (by decide) rfl
      have hKc := hK.sub (tys' := [(cf102, .int), (cf100, .int), (cf104, .int), (cf118, .int), (cf119, .int), (cf128, .int), (cf105, .int), (cf137, .int)]) [4, 0, 3, 5, 6, 1, 7, 8] rfl
      have hFc := va_free (wc := [(h0, .inr (13, z1480)), (qf102, .inl (cf102, 2048, .inl f102)), (qf100, .inl (cf100, 48000, .inl f100)), (qf104, .inl (cf104, 8, .inl f104)), (qf118, .inl (cf118, 2100, .inl g118_1480)), (qf119, .inl (cf119, 2100, .inl g119_1480)), (qf128, .inl (cf128, 31, .inl g128_1480)), (qf105, .inl (cf105, 8, .inl f105)), (qf137, .inl (cf137, 6, .inl g137_1480))]) hD hS hA [0, 5, 1, 4, 6, 7, 2, 8, 9] rfl
      refine va_calli (va_runV (As := [.int l3_1480, .int 0]) (rest := []) ⟨hx, hb, hml, hown, hts⟩ (vm_calls l dC dI H.size h0 z1480 l3_1480 0 v98 qf100 qf102 qf104 qf105 x117_1480 qf118 qf119 x120_1480 qf128 v130 x131_1480 v132 qf137 cf102 f102 cf100 f100 cf104 f104 cf118 g118_1480 cf119 g119_1480 cf128 g128_1480 cf105 f105 cf137 g137_1480 nS477 fS477 hS477 qS477 tS477 nf u66_0 g966_1 g966_2 g966_3 g966_4 u66_5 u66_6 u66_7 hlh_1480 hfh_1480_98 hfh_1480_100 hfh_1480_102 hfh_1480_104 hfh_1480_105 hfh_1480_117 hfh_1480_118 hfh_1480_119 hfh_1480_120 hfh_1480_128 hfh_1480_130 hfh_1480_131 hfh_1480_132 hfh_1480_137 hu_66) (cwV 2 hts gv_h9_126 rfl rfl rfl (by decide +kernel) ⟨Nat.le_of_ble_eq_true rfl, Nat.le_of_ble_eq_true rfl⟩) ⟨fun a U g mk q => by obtain ⟨q0, q1, qP, qK, qD, qhZWS477, qhZRS477⟩ := q; exact ⟨q0, q1, qP, va_K.moved (u := U) (U := U.calling g mk a) (Vm.Alike.refl U.vm) qK, qD, pz_W.moved (u := U) (U := U.calling g mk a) (Vm.Alike.refl U.vm) qhZWS477, vk_R.same rfl qhZRS477⟩, va_recv hKc hPc (ci := 13) (q0 := 0) rfl rfl, fun U hU hW => ⟨rfl, by rw [hU], by rw [hU]; exact hPc, va_K.moved hW.alike hKc, hDc.weaken (fun _ _ _ _ => trivial), by rw [hU]; exact ((pz_W.moved hW.alike hZWS477).kept hS.2.1).narrow hFc, vk_R.warm hW hZRS477⟩⟩ rfl rfl hl.1 rfl (lv_room (Nat.le_of_ble_eq_true rfl)) dX13_wanted_1494 ⟨Nat.le_of_ble_eq_true rfl, Nat.le_of_ble_eq_true rfl⟩) hS (fun q _ h => hFc q h) hFc ?_
      clear hS
      intro r_369 u t H1 locs ht hvm hw hB hz1 hk1 hS
      obtain ⟨z_66, rfl⟩ : ∃ z, z = u := ⟨_, rfl⟩
      obtain ⟨hP1, hK1, hD1⟩ := hB
      rw [ht] at hP1
      have hK1 := va_K.moved hvm.symm hK1
      try dsimp only at hw
      have hPD := va_join (wr := [(qf127, .inl (cf127, 30, .inl g127_1480))]) (w1 := [(h0, .inr (13, z_66)), (qf102, .inl (cf102, 2048, .inl f102)), (qf100, .inl (cf100, 48000, .inl f100)), (qf104, .inl (cf104, 8, .inl f104)), (qf118, .inl (cf118, 2100, .inl g966_1)), (qf119, .inl (cf119, 2100, .inl g966_2)), (qf128, .inl (cf128, 31, .inl g966_3)), (qf105, .inl (cf105, 8, .inl f105)), (qf137, .inl (cf137, 6, .inl g966_4))]) hP hD [0, 5, 1, 4, 6, 7, 2, 8, 9] [3] rfl rfl (by decide) (by decide) hk1 hFc hP1 hD1
      clear hP hD
      obtain ⟨hP, hD⟩ := hPD
      replace hK := (hK.sub (tys' := [(cf127, .int)]) [2] rfl).app hK1
      clear hPc hDc hKc hFc hP1 hK1 hD1 hz1 hk1 ht hvm
      generalize H1 = H at hP hS ⊢
      replace hP : va_P (dC, dI) vwCl [(qf127, .inl (cf127, 30, .inl g127_1480)), (h0, .inr (13, z_66)), (qf102, .inl (cf102, 2048, .inl f102)), (qf100, .inl (cf100, 48000, .inl f100)), (qf104, .inl (cf104, 8, .inl f104)), (qf118, .inl (cf118, 2100, .inl g966_1)), (qf119, .inl (cf119, 2100, .inl g966_2)), (qf128, .inl (cf128, 31, .inl g966_3)), (qf105, .inl (cf105, 8, .inl f105)), (qf137, .inl (cf137, 6, .inl g966_4))] H := hP
      replace hD : va_D A [(qf127, .inl (cf127, 30, .inl g127_1480)), (h0, .inr (13, z_66)), (qf102, .inl (cf102, 2048, .inl f102)), (qf100, .inl (cf100, 48000, .inl f100)), (qf104, .inl (cf104, 8, .inl f104)), (qf118, .inl (cf118, 2100, .inl g966_1)), (qf119, .inl (cf119, 2100, .inl g966_2)), (qf128, .inl (cf128, 31, .inl g966_3)), (qf105, .inl (cf105, 8, .inl f105)), (qf137, .inl (cf137, 6, .inl g966_4))] := hD
      replace hK : va_K (dC, dI) vwCl [(cf127, .int), (cf102, .int), (cf100, .int), (cf104, .int), (cf118, .int), (cf119, .int), (cf128, .int), (cf105, .int), (cf137, .int)] s := hK
      obtain ⟨hwa_66, hln_66, hre_66, hch_66_117, hch_66_120, hch_66_131⟩ := hw
      have hfk_66_98 : z_66[98]? = some (.int v98) := (hre_66 98 (by decide) (by decide) (by decide)).trans (hfh_1480_98)
      have hfk_66_100 : z_66[100]? = some (.ref qf100) := (hre_66 100 (by decide) (by decide) (by decide)).trans (hfh_1480_100)
      have hfk_66_102 : z_66[102]? = some (.ref qf102) := (hre_66 102 (by decide) (by decide) (by decide)).trans (hfh_1480_102)
      have hfk_66_104 : z_66[104]? = some (.ref qf104) := (hre_66 104 (by decide) (by decide) (by decide)).trans (hfh_1480_104)
      have hfk_66_105 : z_66[105]? = some (.ref qf105) := (hre_66 105 (by decide) (by decide) (by decide)).trans (hfh_1480_105)
      have hfk_66_118 : z_66[118]? = some (.ref qf118) := (hre_66 118 (by decide) (by decide) (by decide)).trans (hfh_1480_118)
      have hfk_66_119 : z_66[119]? = some (.ref qf119) := (hre_66 119 (by decide) (by decide) (by decide)).trans (hfh_1480_119)
      have hfk_66_127 : z_66[127]? = some (.ref qf127) := (hre_66 127 (by decide) (by decide) (by decide)).trans (hfh_1480_127)
      have hfk_66_128 : z_66[128]? = some (.ref qf128) := (hre_66 128 (by decide) (by decide) (by decide)).trans (hfh_1480_128)
      have hfk_66_129 : z_66[129]? = some (.int v129) := (hre_66 129 (by decide) (by decide) (by decide)).trans (hfh_1480_129)
      have hfk_66_130 : z_66[130]? = some (.int v130) := (hre_66 130 (by decide) (by decide) (by decide)).trans (hfh_1480_130)
      have hfk_66_132 : z_66[132]? = some (.int v132) := (hre_66 132 (by decide) (by decide) (by decide)).trans (hfh_1480_132)
      have hfk_66_134 : z_66[134]? = some (.int v134) := (hre_66 134 (by decide) (by decide) (by decide)).trans (hfh_1480_134)
      have hfk_66_136 : z_66[136]? = some (.int v136) := (hre_66 136 (by decide) (by decide) (by decide)).trans (hfh_1480_136)
      have hfk_66_137 : z_66[137]? = some (.ref qf137) := (hre_66 137 (by decide) (by decide) (by decide)).trans (hfh_1480_137)
      have hrq_66 : ∀ j : Nat, j ≠ 117 → j ≠ 120 → j ≠ 131 → z_66[j]? = zs[j]? := fun j g117 g120 g131 => (hre_66 j g117 g120 g131).trans (hrh_1480 j g117 g120 g131)
      obtain ⟨rfl, hz_66⟩ := hwa_66
      rcases hz_66 with rfl | rfl
      · rw [if_pos rfl] at hsp
        have hr0 := Option.some.inj hsp
        clear hsp
        obtain ⟨hq0, hr1⟩ := Prod.mk.inj hr0
        clear hr0
        obtain ⟨hq1, hr2⟩ := Prod.mk.inj hr1
        clear hr1
        obtain ⟨hq2, hr3⟩ := Prod.mk.inj hr2
        clear hr2
        obtain ⟨hq3, hr4⟩ := Prod.mk.inj hr3
        clear hr3
        obtain ⟨hq4, hr5⟩ := Prod.mk.inj hr4
        clear hr4
        obtain ⟨hq5, hr6⟩ := Prod.mk.inj hr5
        clear hr5
        obtain ⟨hq6, hr7⟩ := Prod.mk.inj hr6
        clear hr6
        obtain ⟨hq7, hr8⟩ := Prod.mk.inj hr7
        clear hr7
        subst hq0
        subst hq1
        subst hq2
        subst hq3
        subst hq4
        subst hq5
        subst hq6
        subst hq7
        subst hr8
        have hP9 := hP.sub (ws' := [(h0, .inr (13, z_66)), (qf100, .inl (cf100, 48000, .inl f100)), (qf128, .inl (cf128, 31, .inl g966_3)), (qf127, .inl (cf127, 30, .inl g127_1480)), (qf104, .inl (cf104, 8, .inl f104)), (qf102, .inl (cf102, 2048, .inl f102)), (qf118, .inl (cf118, 2100, .inl g966_1)), (qf119, .inl (cf119, 2100, .inl g966_2)), (qf105, .inl (cf105, 8, .inl f105)), (qf137, .inl (cf137, 6, .inl g966_4))]) [1, 3, 7, 0, 4, 2, 5, 6, 8, 9] rfl
        have hD9 := hD.sub (ws' := [(h0, .inr (13, z_66)), (qf100, .inl (cf100, 48000, .inl f100)), (qf128, .inl (cf128, 31, .inl g966_3)), (qf127, .inl (cf127, 30, .inl g127_1480)), (qf104, .inl (cf104, 8, .inl f104)), (qf102, .inl (cf102, 2048, .inl f102)), (qf118, .inl (cf118, 2100, .inl g966_1)), (qf119, .inl (cf119, 2100, .inl g966_2)), (qf105, .inl (cf105, 8, .inl f105)), (qf137, .inl (cf137, 6, .inl g966_4))]) [1, 3, 7, 0, 4, 2, 5, 6, 8, 9] (by decide) rfl
        have hK9 := hK.sub (tys' := [(cf100, .int), (cf128, .int), (cf127, .int), (cf104, .int), (cf102, .int), (cf118, .int), (cf119, .int), (cf105, .int), (cf137, .int)]) [2, 6, 0, 3, 1, 4, 5, 7, 8] rfl
        exact W.zret hx hb hr (by decide) (fun t ht hW => ⟨⟨(0), (z_66), rfl, ⟨⟨rfl, Or.inl rfl⟩, hln_66, hrq_66, hch_66_117, hch_66_120, hch_66_131⟩, by rw [ht]; exact hP9, va_K.moved hW.alike hK9, hD9⟩, hS.F ht⟩) hS.2.2 dX13_wanted_1497
      · rw [if_neg (by decide)] at hsp
        have hr0 := Option.some.inj hsp
        clear hsp
        obtain ⟨hq0, hr1⟩ := Prod.mk.inj hr0
        clear hr0
        obtain ⟨hq1, hr2⟩ := Prod.mk.inj hr1
        clear hr1
        obtain ⟨hq2, hr3⟩ := Prod.mk.inj hr2
        clear hr2
        obtain ⟨hq3, hr4⟩ := Prod.mk.inj hr3
        clear hr3
        obtain ⟨hq4, hr5⟩ := Prod.mk.inj hr4
        clear hr4
        obtain ⟨hq5, hr6⟩ := Prod.mk.inj hr5
        clear hr5
        obtain ⟨hq6, hr7⟩ := Prod.mk.inj hr6
        clear hr6
        obtain ⟨hq7, hr8⟩ := Prod.mk.inj hr7
        clear hr7
        subst hq0
        subst hq1
        subst hq2
        subst hq3
        subst hq4
        subst hq5
        subst hq6
        subst hq7
        subst hr8
        have hP9 := hP.sub (ws' := [(h0, .inr (13, z_66)), (qf100, .inl (cf100, 48000, .inl f100)), (qf128, .inl (cf128, 31, .inl g966_3)), (qf127, .inl (cf127, 30, .inl g127_1480)), (qf104, .inl (cf104, 8, .inl f104)), (qf102, .inl (cf102, 2048, .inl f102)), (qf118, .inl (cf118, 2100, .inl g966_1)), (qf119, .inl (cf119, 2100, .inl g966_2)), (qf105, .inl (cf105, 8, .inl f105)), (qf137, .inl (cf137, 6, .inl g966_4))]) [1, 3, 7, 0, 4, 2, 5, 6, 8, 9] rfl
        have hD9 := hD.sub (ws' := [(h0, .inr (13, z_66)), (qf100, .inl (cf100, 48000, .inl f100)), (qf128, .inl (cf128, 31, .inl g966_3)), (qf127, .inl (cf127, 30, .inl g127_1480)), (qf104, .inl (cf104, 8, .inl f104)), (qf102, .inl (cf102, 2048, .inl f102)), (qf118, .inl (cf118, 2100, .inl g966_1)), (qf119, .inl (cf119, 2100, .inl g966_2)), (qf105, .inl (cf105, 8, .inl f105)), (qf137, .inl (cf137, 6, .inl g966_4))]) [1, 3, 7, 0, 4, 2, 5, 6, 8, 9] (by decide) rfl
        have hK9 := hK.sub (tys' := [(cf100, .int), (cf128, .int), (cf127, .int), (cf104, .int), (cf102, .int), (cf118, .int), (cf119, .int), (cf105, .int), (cf137, .int)]) [2, 6, 0, 3, 1, 4, 5, 7, 8] rfl
        exact W.zret hx hb hr (by decide) (fun t ht hW => ⟨⟨(1), (z_66), rfl, ⟨⟨rfl, Or.inr rfl⟩, hln_66, hrq_66, hch_66_117, hch_66_120, hch_66_131⟩, by rw [ht]; exact hP9, va_K.moved hW.alike hK9, hD9⟩, hS.F ht⟩) hS.2.2 dX13_wanted_1497
    · rw [if_pos c_368] at hsp
      refine lv_iconst (v := 1) hx hb dX13_wanted_1489 (by decide) ?_
      refine lv_goto (tgt := 1494) hx hb dX13_wanted_1490 (by decide) ?_
      obtain ⟨⟨u67_0, g967_1, g967_2, g967_3, g967_4, u67_5, u67_6, u67_7⟩, hu_67, hsp⟩ := ox_bind hsp
      try dsimp only at hsp
      have hPc := hP.sub (ws' := [(h0, .inr (13, z1480)), (qf102, .inl (cf102, 2048, .inl f102)), (qf100, .inl (cf100, 48000, .inl f100)), (qf104, .inl (cf104, 8, .inl f104)), (qf118, .inl (cf118, 2100, .inl g118_1480)), (qf119, .inl (cf119, 2100, .inl g119_1480)), (qf128, .inl (cf128, 31, .inl g128_1480)), (qf105, .inl (cf105, 8, .inl f105)), (qf137, .inl (cf137, 6, .inl g137_1480))]) [0, 5, 1, 4, 6, 7, 2, 8, 9] rfl
      have hDc := hD.sub (ws' := [(h0, .inr (13, z1480)), (qf102, .inl (cf102, 2048, .inl f102)), (qf100, .inl (cf100, 48000, .inl f100)), (qf104, .inl (cf104, 8, .inl f104)), (qf118, .inl (cf118, 2100, .inl g118_1480)), (qf119, .inl (cf119, 2100, .inl g119_1480)), (qf128, .inl (cf128, 31, .inl g128_1480)), (qf105, .inl (cf105, 8, .inl f105)), (qf137, .inl (cf137, 6, .inl g137_1480))]) [0, 5, 1, 4, 6, 7, 2, 8, 9] (by decide) rfl
      have hKc := hK.sub (tys' := [(cf102, .int), (cf100, .int), (cf104, .int), (cf118, .int), (cf119, .int), (cf128, .int), (cf105, .int), (cf137, .int)]) [4, 0, 3, 5, 6, 1, 7, 8] rfl
      have hFc := va_free (wc := [(h0, .inr (13, z1480)), (qf102, .inl (cf102, 2048, .inl f102)), (qf100, .inl (cf100, 48000, .inl f100)), (qf104, .inl (cf104, 8, .inl f104)), (qf118, .inl (cf118, 2100, .inl g118_1480)), (qf119, .inl (cf119, 2100, .inl g119_1480)), (qf128, .inl (cf128, 31, .inl g128_1480)), (qf105, .inl (cf105, 8, .inl f105)), (qf137, .inl (cf137, 6, .inl g137_1480))]) hD hS hA [0, 5, 1, 4, 6, 7, 2, 8, 9] rfl
      refine va_calli (va_runV (As := [.int l3_1480, .int 1]) (rest := []) ⟨hx, hb, hml, hown, hts⟩ (vm_calls l dC dI H.size h0 z1480 l3_1480 1 v98 qf100 qf102 qf104 qf105 x117_1480 qf118 qf119 x120_1480 qf128 v130 x131_1480 v132 qf137 cf102 f102 cf100 f100 cf104 f104 cf118 g118_1480 cf119 g119_1480 cf128 g128_1480 cf105 f105 cf137 g137_1480 nS477 fS477 hS477 qS477 tS477 nf u67_0 g967_1 g967_2 g967_3 g967_4 u67_5 u67_6 u67_7 hlh_1480 hfh_1480_98 hfh_1480_100 hfh_1480_102 hfh_1480_104 hfh_1480_105 hfh_1480_117 hfh_1480_118 hfh_1480_119 hfh_1480_120 hfh_1480_128 hfh_1480_130 hfh_1480_131 hfh_1480_132 hfh_1480_137 hu_67) (cwV 2 hts gv_h9_126 rfl rfl rfl (by decide +kernel) ⟨Nat.le_of_ble_eq_true rfl, Nat.le_of_ble_eq_true rfl⟩) ⟨fun a U g mk q => by obtain ⟨q0, q1, qP, qK, qD, qhZWS477, qhZRS477⟩ := q; exact ⟨q0, q1, qP, va_K.moved (u := U) (U := U.calling g mk a) (Vm.Alike.refl U.vm) qK, qD, pz_W.moved (u := U) (U := U.calling g mk a) (Vm.Alike.refl U.vm) qhZWS477, vk_R.same rfl qhZRS477⟩, va_recv hKc hPc (ci := 13) (q0 := 0) rfl rfl, fun U hU hW => ⟨rfl, by rw [hU], by rw [hU]; exact hPc, va_K.moved hW.alike hKc, hDc.weaken (fun _ _ _ _ => trivial), by rw [hU]; exact ((pz_W.moved hW.alike hZWS477).kept hS.2.1).narrow hFc, vk_R.warm hW hZRS477⟩⟩ rfl rfl hl.1 rfl (lv_room (Nat.le_of_ble_eq_true rfl)) dX13_wanted_1494 ⟨Nat.le_of_ble_eq_true rfl, Nat.le_of_ble_eq_true rfl⟩) hS (fun q _ h => hFc q h) hFc ?_
      clear hS
      intro r_370 u t H1 locs ht hvm hw hB hz1 hk1 hS
      obtain ⟨z_67, rfl⟩ : ∃ z, z = u := ⟨_, rfl⟩
      obtain ⟨hP1, hK1, hD1⟩ := hB
      rw [ht] at hP1
      have hK1 := va_K.moved hvm.symm hK1
      try dsimp only at hw
      have hPD := va_join (wr := [(qf127, .inl (cf127, 30, .inl g127_1480))]) (w1 := [(h0, .inr (13, z_67)), (qf102, .inl (cf102, 2048, .inl f102)), (qf100, .inl (cf100, 48000, .inl f100)), (qf104, .inl (cf104, 8, .inl f104)), (qf118, .inl (cf118, 2100, .inl g967_1)), (qf119, .inl (cf119, 2100, .inl g967_2)), (qf128, .inl (cf128, 31, .inl g967_3)), (qf105, .inl (cf105, 8, .inl f105)), (qf137, .inl (cf137, 6, .inl g967_4))]) hP hD [0, 5, 1, 4, 6, 7, 2, 8, 9] [3] rfl rfl (by decide) (by decide) hk1 hFc hP1 hD1
      clear hP hD
      obtain ⟨hP, hD⟩ := hPD
      replace hK := (hK.sub (tys' := [(cf127, .int)]) [2] rfl).app hK1
      clear hPc hDc hKc hFc hP1 hK1 hD1 hz1 hk1 ht hvm
      generalize H1 = H at hP hS ⊢
      replace hP : va_P (dC, dI) vwCl [(qf127, .inl (cf127, 30, .inl g127_1480)), (h0, .inr (13, z_67)), (qf102, .inl (cf102, 2048, .inl f102)), (qf100, .inl (cf100, 48000, .inl f100)), (qf104, .inl (cf104, 8, .inl f104)), (qf118, .inl (cf118, 2100, .inl g967_1)), (qf119, .inl (cf119, 2100, .inl g967_2)), (qf128, .inl (cf128, 31, .inl g967_3)), (qf105, .inl (cf105, 8, .inl f105)), (qf137, .inl (cf137, 6, .inl g967_4))] H := hP
      replace hD : va_D A [(qf127, .inl (cf127, 30, .inl g127_1480)), (h0, .inr (13, z_67)), (qf102, .inl (cf102, 2048, .inl f102)), (qf100, .inl (cf100, 48000, .inl f100)), (qf104, .inl (cf104, 8, .inl f104)), (qf118, .inl (cf118, 2100, .inl g967_1)), (qf119, .inl (cf119, 2100, .inl g967_2)), (qf128, .inl (cf128, 31, .inl g967_3)), (qf105, .inl (cf105, 8, .inl f105)), (qf137, .inl (cf137, 6, .inl g967_4))] := hD
      replace hK : va_K (dC, dI) vwCl [(cf127, .int), (cf102, .int), (cf100, .int), (cf104, .int), (cf118, .int), (cf119, .int), (cf128, .int), (cf105, .int), (cf137, .int)] s := hK
      obtain ⟨hwa_67, hln_67, hre_67, hch_67_117, hch_67_120, hch_67_131⟩ := hw
      have hfk_67_98 : z_67[98]? = some (.int v98) := (hre_67 98 (by decide) (by decide) (by decide)).trans (hfh_1480_98)
      have hfk_67_100 : z_67[100]? = some (.ref qf100) := (hre_67 100 (by decide) (by decide) (by decide)).trans (hfh_1480_100)
      have hfk_67_102 : z_67[102]? = some (.ref qf102) := (hre_67 102 (by decide) (by decide) (by decide)).trans (hfh_1480_102)
      have hfk_67_104 : z_67[104]? = some (.ref qf104) := (hre_67 104 (by decide) (by decide) (by decide)).trans (hfh_1480_104)
      have hfk_67_105 : z_67[105]? = some (.ref qf105) := (hre_67 105 (by decide) (by decide) (by decide)).trans (hfh_1480_105)
      have hfk_67_118 : z_67[118]? = some (.ref qf118) := (hre_67 118 (by decide) (by decide) (by decide)).trans (hfh_1480_118)
      have hfk_67_119 : z_67[119]? = some (.ref qf119) := (hre_67 119 (by decide) (by decide) (by decide)).trans (hfh_1480_119)
      have hfk_67_127 : z_67[127]? = some (.ref qf127) := (hre_67 127 (by decide) (by decide) (by decide)).trans (hfh_1480_127)
      have hfk_67_128 : z_67[128]? = some (.ref qf128) := (hre_67 128 (by decide) (by decide) (by decide)).trans (hfh_1480_128)
      have hfk_67_129 : z_67[129]? = some (.int v129) := (hre_67 129 (by decide) (by decide) (by decide)).trans (hfh_1480_129)
      have hfk_67_130 : z_67[130]? = some (.int v130) := (hre_67 130 (by decide) (by decide) (by decide)).trans (hfh_1480_130)
      have hfk_67_132 : z_67[132]? = some (.int v132) := (hre_67 132 (by decide) (by decide) (by decide)).trans (hfh_1480_132)
      have hfk_67_134 : z_67[134]? = some (.int v134) := (hre_67 134 (by decide) (by decide) (by decide)).trans (hfh_1480_134)
      have hfk_67_136 : z_67[136]? = some (.int v136) := (hre_67 136 (by decide) (by decide) (by decide)).trans (hfh_1480_136)
      have hfk_67_137 : z_67[137]? = some (.ref qf137) := (hre_67 137 (by decide) (by decide) (by decide)).trans (hfh_1480_137)
      have hrq_67 : ∀ j : Nat, j ≠ 117 → j ≠ 120 → j ≠ 131 → z_67[j]? = zs[j]? := fun j g117 g120 g131 => (hre_67 j g117 g120 g131).trans (hrh_1480 j g117 g120 g131)
      obtain ⟨rfl, hz_67⟩ := hwa_67
      rcases hz_67 with rfl | rfl
      · rw [if_pos rfl] at hsp
        have hr0 := Option.some.inj hsp
        clear hsp
        obtain ⟨hq0, hr1⟩ := Prod.mk.inj hr0
        clear hr0
        obtain ⟨hq1, hr2⟩ := Prod.mk.inj hr1
        clear hr1
        obtain ⟨hq2, hr3⟩ := Prod.mk.inj hr2
        clear hr2
        obtain ⟨hq3, hr4⟩ := Prod.mk.inj hr3
        clear hr3
        obtain ⟨hq4, hr5⟩ := Prod.mk.inj hr4
        clear hr4
        obtain ⟨hq5, hr6⟩ := Prod.mk.inj hr5
        clear hr5
        obtain ⟨hq6, hr7⟩ := Prod.mk.inj hr6
        clear hr6
        obtain ⟨hq7, hr8⟩ := Prod.mk.inj hr7
        clear hr7
        subst hq0
        subst hq1
        subst hq2
        subst hq3
        subst hq4
        subst hq5
        subst hq6
        subst hq7
        subst hr8
        have hP9 := hP.sub (ws' := [(h0, .inr (13, z_67)), (qf100, .inl (cf100, 48000, .inl f100)), (qf128, .inl (cf128, 31, .inl g967_3)), (qf127, .inl (cf127, 30, .inl g127_1480)), (qf104, .inl (cf104, 8, .inl f104)), (qf102, .inl (cf102, 2048, .inl f102)), (qf118, .inl (cf118, 2100, .inl g967_1)), (qf119, .inl (cf119, 2100, .inl g967_2)), (qf105, .inl (cf105, 8, .inl f105)), (qf137, .inl (cf137, 6, .inl g967_4))]) [1, 3, 7, 0, 4, 2, 5, 6, 8, 9] rfl
        have hD9 := hD.sub (ws' := [(h0, .inr (13, z_67)), (qf100, .inl (cf100, 48000, .inl f100)), (qf128, .inl (cf128, 31, .inl g967_3)), (qf127, .inl (cf127, 30, .inl g127_1480)), (qf104, .inl (cf104, 8, .inl f104)), (qf102, .inl (cf102, 2048, .inl f102)), (qf118, .inl (cf118, 2100, .inl g967_1)), (qf119, .inl (cf119, 2100, .inl g967_2)), (qf105, .inl (cf105, 8, .inl f105)), (qf137, .inl (cf137, 6, .inl g967_4))]) [1, 3, 7, 0, 4, 2, 5, 6, 8, 9] (by decide) rfl
        have hK9 := hK.sub (tys' := [(cf100, .int), (cf128, .int), (cf127, .int), (cf104, .int), (cf102, .int), (cf118, .int), (cf119, .int), (cf105, .int), (cf137, .int)]) [2, 6, 0, 3, 1, 4, 5, 7, 8] rfl
        exact W.zret hx hb hr (by decide) (fun t ht hW => ⟨⟨(0), (z_67), rfl, ⟨⟨rfl, Or.inl rfl⟩, hln_67, hrq_67, hch_67_117, hch_67_120, hch_67_131⟩, by rw [ht]; exact hP9, va_K.moved hW.alike hK9, hD9⟩, hS.F ht⟩) hS.2.2 dX13_wanted_1497
      · rw [if_neg (by decide)] at hsp
        have hr0 := Option.some.inj hsp
        clear hsp
        obtain ⟨hq0, hr1⟩ := Prod.mk.inj hr0
        clear hr0
        obtain ⟨hq1, hr2⟩ := Prod.mk.inj hr1
        clear hr1
        obtain ⟨hq2, hr3⟩ := Prod.mk.inj hr2
        clear hr2
        obtain ⟨hq3, hr4⟩ := Prod.mk.inj hr3
        clear hr3
        obtain ⟨hq4, hr5⟩ := Prod.mk.inj hr4
        clear hr4
        obtain ⟨hq5, hr6⟩ := Prod.mk.inj hr5
        clear hr5
        obtain ⟨hq6, hr7⟩ := Prod.mk.inj hr6
        clear hr6
        obtain ⟨hq7, hr8⟩ := Prod.mk.inj hr7
        clear hr7
        subst hq0
        subst hq1
        subst hq2
        subst hq3
        subst hq4
        subst hq5
        subst hq6
        subst hq7
        subst hr8
        have hP9 := hP.sub (ws' := [(h0, .inr (13, z_67)), (qf100, .inl (cf100, 48000, .inl f100)), (qf128, .inl (cf128, 31, .inl g967_3)), (qf127, .inl (cf127, 30, .inl g127_1480)), (qf104, .inl (cf104, 8, .inl f104)), (qf102, .inl (cf102, 2048, .inl f102)), (qf118, .inl (cf118, 2100, .inl g967_1)), (qf119, .inl (cf119, 2100, .inl g967_2)), (qf105, .inl (cf105, 8, .inl f105)), (qf137, .inl (cf137, 6, .inl g967_4))]) [1, 3, 7, 0, 4, 2, 5, 6, 8, 9] rfl
        have hD9 := hD.sub (ws' := [(h0, .inr (13, z_67)), (qf100, .inl (cf100, 48000, .inl f100)), (qf128, .inl (cf128, 31, .inl g967_3)), (qf127, .inl (cf127, 30, .inl g127_1480)), (qf104, .inl (cf104, 8, .inl f104)), (qf102, .inl (cf102, 2048, .inl f102)), (qf118, .inl (cf118, 2100, .inl g967_1)), (qf119, .inl (cf119, 2100, .inl g967_2)), (qf105, .inl (cf105, 8, .inl f105)), (qf137, .inl (cf137, 6, .inl g967_4))]) [1, 3, 7, 0, 4, 2, 5, 6, 8, 9] (by decide) rfl
        have hK9 := hK.sub (tys' := [(cf100, .int), (cf128, .int), (cf127, .int), (cf104, .int), (cf102, .int), (cf118, .int), (cf119, .int), (cf105, .int), (cf137, .int)]) [2, 6, 0, 3, 1, 4, 5, 7, 8] rfl
        exact W.zret hx hb hr (by decide) (fun t ht hW => ⟨⟨(1), (z_67), rfl, ⟨⟨rfl, Or.inr rfl⟩, hln_67, hrq_67, hch_67_117, hch_67_120, hch_67_131⟩, by rw [ht]; exact hP9, va_K.moved hW.alike hK9, hD9⟩, hS.F ht⟩) hS.2.2 dX13_wanted_1497
  intro hj_1480
  refine jn_use (α := Heap × List Loc × Array Slot × List Value × (Nat → Int32) × (Nat → Int32) × (Nat → Int32) × (Nat → Int32) × (Nat → Int32) × Int32 × Int32 × Int32) (fun x9 => x9.1) (fun x9 => x9.2.1) (fun x9 => F0 m 1239 x9.2.2.1 []) (fun x9 => match x9 with | (H, locs, ls, z1239, g118_1239, g119_1239, g127_1239, g128_1239, g137_1239, x117_1239, x120_1239, x131_1239) => lv_has ls 5 [(0, .ref h0)] ∧ va_S A s.heap H locs ∧ va_D A [(h0, .inr (13, z1239)), (qf100, .inl (cf100, 48000, .inl f100)), (qf128, .inl (cf128, 31, .inl g128_1239)), (qf127, .inl (cf127, 30, .inl g127_1239)), (qf104, .inl (cf104, 8, .inl f104)), (qf102, .inl (cf102, 2048, .inl f102)), (qf118, .inl (cf118, 2100, .inl g118_1239)), (qf119, .inl (cf119, 2100, .inl g119_1239)), (qf105, .inl (cf105, 8, .inl f105)), (qf137, .inl (cf137, 6, .inl g137_1239))] ∧ va_P (dC, dI) vwCl [(h0, .inr (13, z1239)), (qf100, .inl (cf100, 48000, .inl f100)), (qf128, .inl (cf128, 31, .inl g128_1239)), (qf127, .inl (cf127, 30, .inl g127_1239)), (qf104, .inl (cf104, 8, .inl f104)), (qf102, .inl (cf102, 2048, .inl f102)), (qf118, .inl (cf118, 2100, .inl g118_1239)), (qf119, .inl (cf119, 2100, .inl g119_1239)), (qf105, .inl (cf105, 8, .inl f105)), (qf137, .inl (cf137, 6, .inl g137_1239))] H ∧ z1239[98]? = some (.int v98) ∧ z1239[100]? = some (.ref qf100) ∧ z1239[102]? = some (.ref qf102) ∧ z1239[104]? = some (.ref qf104) ∧ z1239[105]? = some (.ref qf105) ∧ z1239[117]? = some (.int x117_1239) ∧ z1239[118]? = some (.ref qf118) ∧ z1239[119]? = some (.ref qf119) ∧ z1239[120]? = some (.int x120_1239) ∧ z1239[127]? = some (.ref qf127) ∧ z1239[128]? = some (.ref qf128) ∧ z1239[129]? = some (.int v129) ∧ z1239[130]? = some (.int v130) ∧ z1239[131]? = some (.int x131_1239) ∧ z1239[132]? = some (.int v132) ∧ z1239[134]? = some (.int v134) ∧ z1239[136]? = some (.int v136) ∧ z1239[137]? = some (.ref qf137) ∧ z1239.length = 155 ∧ (∀ j : Nat, j ≠ 117 → j ≠ 120 → j ≠ 131 → z1239[j]? = zs[j]?) ∧ jn_vm_wanted_1239 nf a1 v98 v117 v120 v129 v130 v131 v132 v134 v136 f100 f128 f127 f104 f102 f118 f119 f105 f137 nS477 fS477 g118_1239 g119_1239 g127_1239 g128_1239 g137_1239 x117_1239 x120_1239 x131_1239 = some (r0, o118, o119, o127, o128, o137, w117, w120, w131)) ?_ ?_
  · intro x9 hJ9
    obtain ⟨H, locs, ls, z1239, g118_1239, g119_1239, g127_1239, g128_1239, g137_1239, x117_1239, x120_1239, x131_1239⟩ := x9
    obtain ⟨hl, hS, hD, hP, hfh_1239_98, hfh_1239_100, hfh_1239_102, hfh_1239_104, hfh_1239_105, hfh_1239_117, hfh_1239_118, hfh_1239_119, hfh_1239_120, hfh_1239_127, hfh_1239_128, hfh_1239_129, hfh_1239_130, hfh_1239_131, hfh_1239_132, hfh_1239_134, hfh_1239_136, hfh_1239_137, hlh_1239, hrh_1239, hsp⟩ := hJ9
    replace hl : lv_has ls 5 [(0, .ref h0)] := hl
    replace hS : va_S A s.heap H locs := hS
    replace hD : va_D A [(h0, .inr (13, z1239)), (qf100, .inl (cf100, 48000, .inl f100)), (qf128, .inl (cf128, 31, .inl g128_1239)), (qf127, .inl (cf127, 30, .inl g127_1239)), (qf104, .inl (cf104, 8, .inl f104)), (qf102, .inl (cf102, 2048, .inl f102)), (qf118, .inl (cf118, 2100, .inl g118_1239)), (qf119, .inl (cf119, 2100, .inl g119_1239)), (qf105, .inl (cf105, 8, .inl f105)), (qf137, .inl (cf137, 6, .inl g137_1239))] := hD
    replace hP : va_P (dC, dI) vwCl [(h0, .inr (13, z1239)), (qf100, .inl (cf100, 48000, .inl f100)), (qf128, .inl (cf128, 31, .inl g128_1239)), (qf127, .inl (cf127, 30, .inl g127_1239)), (qf104, .inl (cf104, 8, .inl f104)), (qf102, .inl (cf102, 2048, .inl f102)), (qf118, .inl (cf118, 2100, .inl g118_1239)), (qf119, .inl (cf119, 2100, .inl g119_1239)), (qf105, .inl (cf105, 8, .inl f105)), (qf137, .inl (cf137, 6, .inl g137_1239))] H := hP
    replace hsp : jn_vm_wanted_1239 nf a1 v98 v117 v120 v129 v130 v131 v132 v134 v136 f100 f128 f127 f104 f102 f118 f119 f105 f137 nS477 fS477 g118_1239 g119_1239 g127_1239 g128_1239 g137_1239 x117_1239 x120_1239 x131_1239 = some (r0, o118, o119, o127, o128, o137, w117, w120, w131) := hsp
    show W _ _ _ _ _ _ _ _ _ _ H locs _ _ _ (F0 m 1239 ls [])
    unfold jn_vm_wanted_1239 at hsp
    try dsimp only at hsp
    refine lv_aload_n hx hb dX13_wanted_1239 rfl (lv_at hl 0 rfl) ?_
    obtain ⟨⟨u64_0, u64_1⟩, hu_64, hsp⟩ := ox_bind hsp
    try dsimp only at hsp
    have hPc := hP.sub (ws' := [(h0, .inr (13, z1239)), (qf128, .inl (cf128, 31, .inl g128_1239))]) [0, 2] rfl
    have hDc := hD.sub (ws' := [(h0, .inr (13, z1239)), (qf128, .inl (cf128, 31, .inl g128_1239))]) [0, 2] (by decide) rfl
    have hKc := hK.sub (tys' := [(cf128, .int)]) [1] rfl
    have hFc := va_free (wc := [(h0, .inr (13, z1239)), (qf128, .inl (cf128, 31, .inl g128_1239))]) hD hS hA [0, 2] rfl
    refine va_calli (va_runV (As := []) (rest := []) ⟨hx, hb, hml, hown, hts⟩ (tm_pullThing l dC dI H.size h0 z1239 qf128 x131_1239 cf128 g128_1239 nf u64_0 u64_1 hlh_1239 hfh_1239_128 hfh_1239_131 hu_64) (cwV 0 hts gv_h9_71 rfl rfl rfl (by decide +kernel) ⟨Nat.le_of_ble_eq_true rfl, Nat.le_of_ble_eq_true rfl⟩) ⟨fun a U g mk q => by obtain ⟨q0, q1, qP, qK, qD⟩ := q; exact ⟨q0, q1, qP, va_K.moved (u := U) (U := U.calling g mk a) (Vm.Alike.refl U.vm) qK, qD⟩, va_recv hKc hPc (ci := 13) (q0 := 0) rfl rfl, fun U hU hW => ⟨rfl, by rw [hU], by rw [hU]; exact hPc, va_K.moved hW.alike hKc, hDc.weaken (fun _ _ _ _ => trivial)⟩⟩ rfl rfl hl.1 rfl (lv_room (Nat.le_of_ble_eq_true rfl)) dX13_wanted_1240 ⟨Nat.le_of_ble_eq_true rfl, Nat.le_of_ble_eq_true rfl⟩) hS (fun q _ h => hFc q h) hFc ?_
    clear hS
    intro r_362 u t H1 locs ht hvm hw hB hz1 hk1 hS
    obtain ⟨z_64, rfl⟩ : ∃ z, z = u := ⟨_, rfl⟩
    obtain ⟨hP1, hK1, hD1⟩ := hB
    rw [ht] at hP1
    have hK1 := va_K.moved hvm.symm hK1
    try dsimp only at hw
    have hPD := va_join (wr := [(qf100, .inl (cf100, 48000, .inl f100)), (qf127, .inl (cf127, 30, .inl g127_1239)), (qf104, .inl (cf104, 8, .inl f104)), (qf102, .inl (cf102, 2048, .inl f102)), (qf118, .inl (cf118, 2100, .inl g118_1239)), (qf119, .inl (cf119, 2100, .inl g119_1239)), (qf105, .inl (cf105, 8, .inl f105)), (qf137, .inl (cf137, 6, .inl g137_1239))]) (w1 := [(h0, .inr (13, z_64)), (qf128, .inl (cf128, 31, .inl g128_1239))]) hP hD [0, 2] [1, 3, 4, 5, 6, 7, 8, 9] rfl rfl (by decide) (by decide) hk1 hFc hP1 hD1
    clear hP hD
    obtain ⟨hP, hD⟩ := hPD
    replace hK := (hK.sub (tys' := [(cf100, .int), (cf127, .int), (cf104, .int), (cf102, .int), (cf118, .int), (cf119, .int), (cf105, .int), (cf137, .int)]) [0, 2, 3, 4, 5, 6, 7, 8] rfl).app hK1
    clear hPc hDc hKc hFc hP1 hK1 hD1 hz1 hk1 ht hvm
    generalize H1 = H at hP hS ⊢
    replace hP : va_P (dC, dI) vwCl [(qf100, .inl (cf100, 48000, .inl f100)), (qf127, .inl (cf127, 30, .inl g127_1239)), (qf104, .inl (cf104, 8, .inl f104)), (qf102, .inl (cf102, 2048, .inl f102)), (qf118, .inl (cf118, 2100, .inl g118_1239)), (qf119, .inl (cf119, 2100, .inl g119_1239)), (qf105, .inl (cf105, 8, .inl f105)), (qf137, .inl (cf137, 6, .inl g137_1239)), (h0, .inr (13, z_64)), (qf128, .inl (cf128, 31, .inl g128_1239))] H := hP
    replace hD : va_D A [(qf100, .inl (cf100, 48000, .inl f100)), (qf127, .inl (cf127, 30, .inl g127_1239)), (qf104, .inl (cf104, 8, .inl f104)), (qf102, .inl (cf102, 2048, .inl f102)), (qf118, .inl (cf118, 2100, .inl g118_1239)), (qf119, .inl (cf119, 2100, .inl g119_1239)), (qf105, .inl (cf105, 8, .inl f105)), (qf137, .inl (cf137, 6, .inl g137_1239)), (h0, .inr (13, z_64)), (qf128, .inl (cf128, 31, .inl g128_1239))] := hD
    replace hK : va_K (dC, dI) vwCl [(cf100, .int), (cf127, .int), (cf104, .int), (cf102, .int), (cf118, .int), (cf119, .int), (cf105, .int), (cf137, .int), (cf128, .int)] s := hK
    obtain ⟨hwa_64, hln_64, hre_64, hch_64_131⟩ := hw
    have hfk_64_98 : z_64[98]? = some (.int v98) := (hre_64 98 (by decide)).trans (hfh_1239_98)
    have hfk_64_100 : z_64[100]? = some (.ref qf100) := (hre_64 100 (by decide)).trans (hfh_1239_100)
    have hfk_64_102 : z_64[102]? = some (.ref qf102) := (hre_64 102 (by decide)).trans (hfh_1239_102)
    have hfk_64_104 : z_64[104]? = some (.ref qf104) := (hre_64 104 (by decide)).trans (hfh_1239_104)
    have hfk_64_105 : z_64[105]? = some (.ref qf105) := (hre_64 105 (by decide)).trans (hfh_1239_105)
    have hfk_64_117 : z_64[117]? = some (.int x117_1239) := (hre_64 117 (by decide)).trans (hfh_1239_117)
    have hfk_64_118 : z_64[118]? = some (.ref qf118) := (hre_64 118 (by decide)).trans (hfh_1239_118)
    have hfk_64_119 : z_64[119]? = some (.ref qf119) := (hre_64 119 (by decide)).trans (hfh_1239_119)
    have hfk_64_120 : z_64[120]? = some (.int x120_1239) := (hre_64 120 (by decide)).trans (hfh_1239_120)
    have hfk_64_127 : z_64[127]? = some (.ref qf127) := (hre_64 127 (by decide)).trans (hfh_1239_127)
    have hfk_64_128 : z_64[128]? = some (.ref qf128) := (hre_64 128 (by decide)).trans (hfh_1239_128)
    have hfk_64_129 : z_64[129]? = some (.int v129) := (hre_64 129 (by decide)).trans (hfh_1239_129)
    have hfk_64_130 : z_64[130]? = some (.int v130) := (hre_64 130 (by decide)).trans (hfh_1239_130)
    have hfk_64_132 : z_64[132]? = some (.int v132) := (hre_64 132 (by decide)).trans (hfh_1239_132)
    have hfk_64_134 : z_64[134]? = some (.int v134) := (hre_64 134 (by decide)).trans (hfh_1239_134)
    have hfk_64_136 : z_64[136]? = some (.int v136) := (hre_64 136 (by decide)).trans (hfh_1239_136)
    have hfk_64_137 : z_64[137]? = some (.ref qf137) := (hre_64 137 (by decide)).trans (hfh_1239_137)
    have hrq_64 : ∀ j : Nat, j ≠ 117 → j ≠ 120 → j ≠ 131 → z_64[j]? = zs[j]? := fun j g117 g120 g131 => (hre_64 j g131).trans (hrh_1239 j g117 g120 g131)
    obtain ⟨rfl, hz_64⟩ := hwa_64
    rcases hz_64 with rfl | rfl
    · rw [if_pos rfl] at hsp
      refine lv_if_eq (tgt := 1257) hx hb dX13_wanted_1243 (by decide) (fun c_363 => ?_) (fun c_363 => (show False by revert c_363; decide).elim)
      refine lv_iconst (v := 0) hx hb dX13_wanted_1257 (by decide) ?_
      have hr0 := Option.some.inj hsp
      clear hsp
      obtain ⟨hq0, hr1⟩ := Prod.mk.inj hr0
      clear hr0
      obtain ⟨hq1, hr2⟩ := Prod.mk.inj hr1
      clear hr1
      obtain ⟨hq2, hr3⟩ := Prod.mk.inj hr2
      clear hr2
      obtain ⟨hq3, hr4⟩ := Prod.mk.inj hr3
      clear hr3
      obtain ⟨hq4, hr5⟩ := Prod.mk.inj hr4
      clear hr4
      obtain ⟨hq5, hr6⟩ := Prod.mk.inj hr5
      clear hr5
      obtain ⟨hq6, hr7⟩ := Prod.mk.inj hr6
      clear hr6
      obtain ⟨hq7, hr8⟩ := Prod.mk.inj hr7
      clear hr7
      subst hq0
      subst hq1
      subst hq2
      subst hq3
      subst hq4
      subst hq5
      subst hq6
      subst hq7
      subst hr8
      have hP9 := hP.sub (ws' := [(h0, .inr (13, z_64)), (qf100, .inl (cf100, 48000, .inl f100)), (qf128, .inl (cf128, 31, .inl g128_1239)), (qf127, .inl (cf127, 30, .inl g127_1239)), (qf104, .inl (cf104, 8, .inl f104)), (qf102, .inl (cf102, 2048, .inl f102)), (qf118, .inl (cf118, 2100, .inl g118_1239)), (qf119, .inl (cf119, 2100, .inl g119_1239)), (qf105, .inl (cf105, 8, .inl f105)), (qf137, .inl (cf137, 6, .inl g137_1239))]) [8, 0, 9, 1, 2, 3, 4, 5, 6, 7] rfl
      have hD9 := hD.sub (ws' := [(h0, .inr (13, z_64)), (qf100, .inl (cf100, 48000, .inl f100)), (qf128, .inl (cf128, 31, .inl g128_1239)), (qf127, .inl (cf127, 30, .inl g127_1239)), (qf104, .inl (cf104, 8, .inl f104)), (qf102, .inl (cf102, 2048, .inl f102)), (qf118, .inl (cf118, 2100, .inl g118_1239)), (qf119, .inl (cf119, 2100, .inl g119_1239)), (qf105, .inl (cf105, 8, .inl f105)), (qf137, .inl (cf137, 6, .inl g137_1239))]) [8, 0, 9, 1, 2, 3, 4, 5, 6, 7] (by decide) rfl
      have hK9 := hK.sub (tys' := [(cf100, .int), (cf128, .int), (cf127, .int), (cf104, .int), (cf102, .int), (cf118, .int), (cf119, .int), (cf105, .int), (cf137, .int)]) [0, 8, 1, 2, 3, 4, 5, 6, 7] rfl
      exact W.zret hx hb hr (by decide) (fun t ht hW => ⟨⟨(0), (z_64), rfl, ⟨⟨rfl, Or.inl rfl⟩, hln_64, hrq_64, hfk_64_117, hfk_64_120, hch_64_131⟩, by rw [ht]; exact hP9, va_K.moved hW.alike hK9, hD9⟩, hS.F ht⟩) hS.2.2 dX13_wanted_1258
    · rw [if_neg (by decide)] at hsp
      refine lv_if_eq (tgt := 1257) hx hb dX13_wanted_1243 (by decide) (fun c_364 => (show False by revert c_364; decide).elim) (fun c_364 => ?_)
      refine lv_aload_n hx hb dX13_wanted_1246 rfl (lv_at hl 0 rfl) ?_
      obtain ⟨⟨u65_0, u65_1⟩, hu_65, hsp⟩ := ox_bind hsp
      try dsimp only at hsp
      have hPc := hP.sub (ws' := [(h0, .inr (13, z_64)), (qf128, .inl (cf128, 31, .inl g128_1239))]) [8, 9] rfl
      have hDc := hD.sub (ws' := [(h0, .inr (13, z_64)), (qf128, .inl (cf128, 31, .inl g128_1239))]) [8, 9] (by decide) rfl
      have hKc := hK.sub (tys' := [(cf128, .int)]) [8] rfl
      have hFc := va_free (wc := [(h0, .inr (13, z_64)), (qf128, .inl (cf128, 31, .inl g128_1239))]) hD hS hA [8, 9] rfl
      refine va_calli (va_runV (As := []) (rest := []) ⟨hx, hb, hml, hown, hts⟩ (tm_pullThing l dC dI H.size h0 z_64 qf128 u64_1 cf128 g128_1239 nf u65_0 u65_1 hln_64 hfk_64_128 hch_64_131 hu_65) (cwV 0 hts gv_h9_71 rfl rfl rfl (by decide +kernel) ⟨Nat.le_of_ble_eq_true rfl, Nat.le_of_ble_eq_true rfl⟩) ⟨fun a U g mk q => by obtain ⟨q0, q1, qP, qK, qD⟩ := q; exact ⟨q0, q1, qP, va_K.moved (u := U) (U := U.calling g mk a) (Vm.Alike.refl U.vm) qK, qD⟩, va_recv hKc hPc (ci := 13) (q0 := 0) rfl rfl, fun U hU hW => ⟨rfl, by rw [hU], by rw [hU]; exact hPc, va_K.moved hW.alike hKc, hDc.weaken (fun _ _ _ _ => trivial)⟩⟩ rfl rfl hl.1 rfl (lv_room (Nat.le_of_ble_eq_true rfl)) dX13_wanted_1247 ⟨Nat.le_of_ble_eq_true rfl, Nat.le_of_ble_eq_true rfl⟩) hS (fun q _ h => hFc q h) hFc ?_
      clear hS
      intro r_365 u t H1 locs ht hvm hw hB hz1 hk1 hS
      obtain ⟨z_65, rfl⟩ : ∃ z, z = u := ⟨_, rfl⟩
      obtain ⟨hP1, hK1, hD1⟩ := hB
      rw [ht] at hP1
      have hK1 := va_K.moved hvm.symm hK1
      try dsimp only at hw
      have hPD := va_join (wr := [(qf100, .inl (cf100, 48000, .inl f100)), (qf127, .inl (cf127, 30, .inl g127_1239)), (qf104, .inl (cf104, 8, .inl f104)), (qf102, .inl (cf102, 2048, .inl f102)), (qf118, .inl (cf118, 2100, .inl g118_1239)), (qf119, .inl (cf119, 2100, .inl g119_1239)), (qf105, .inl (cf105, 8, .inl f105)), (qf137, .inl (cf137, 6, .inl g137_1239))]) (w1 := [(h0, .inr (13, z_65)), (qf128, .inl (cf128, 31, .inl g128_1239))]) hP hD [8, 9] [0, 1, 2, 3, 4, 5, 6, 7] rfl rfl (by decide) (by decide) hk1 hFc hP1 hD1
      clear hP hD
      obtain ⟨hP, hD⟩ := hPD
      replace hK := (hK.sub (tys' := [(cf100, .int), (cf127, .int), (cf104, .int), (cf102, .int), (cf118, .int), (cf119, .int), (cf105, .int), (cf137, .int)]) [0, 1, 2, 3, 4, 5, 6, 7] rfl).app hK1
      clear hPc hDc hKc hFc hP1 hK1 hD1 hz1 hk1 ht hvm
      generalize H1 = H at hP hS ⊢
      replace hP : va_P (dC, dI) vwCl [(qf100, .inl (cf100, 48000, .inl f100)), (qf127, .inl (cf127, 30, .inl g127_1239)), (qf104, .inl (cf104, 8, .inl f104)), (qf102, .inl (cf102, 2048, .inl f102)), (qf118, .inl (cf118, 2100, .inl g118_1239)), (qf119, .inl (cf119, 2100, .inl g119_1239)), (qf105, .inl (cf105, 8, .inl f105)), (qf137, .inl (cf137, 6, .inl g137_1239)), (h0, .inr (13, z_65)), (qf128, .inl (cf128, 31, .inl g128_1239))] H := hP
      replace hD : va_D A [(qf100, .inl (cf100, 48000, .inl f100)), (qf127, .inl (cf127, 30, .inl g127_1239)), (qf104, .inl (cf104, 8, .inl f104)), (qf102, .inl (cf102, 2048, .inl f102)), (qf118, .inl (cf118, 2100, .inl g118_1239)), (qf119, .inl (cf119, 2100, .inl g119_1239)), (qf105, .inl (cf105, 8, .inl f105)), (qf137, .inl (cf137, 6, .inl g137_1239)), (h0, .inr (13, z_65)), (qf128, .inl (cf128, 31, .inl g128_1239))] := hD
      replace hK : va_K (dC, dI) vwCl [(cf100, .int), (cf127, .int), (cf104, .int), (cf102, .int), (cf118, .int), (cf119, .int), (cf105, .int), (cf137, .int), (cf128, .int)] s := hK
      obtain ⟨hwa_65, hln_65, hre_65, hch_65_131⟩ := hw
      have hfk_65_98 : z_65[98]? = some (.int v98) := (hre_65 98 (by decide)).trans (hfk_64_98)
      have hfk_65_100 : z_65[100]? = some (.ref qf100) := (hre_65 100 (by decide)).trans (hfk_64_100)
      have hfk_65_102 : z_65[102]? = some (.ref qf102) := (hre_65 102 (by decide)).trans (hfk_64_102)
      have hfk_65_104 : z_65[104]? = some (.ref qf104) := (hre_65 104 (by decide)).trans (hfk_64_104)
      have hfk_65_105 : z_65[105]? = some (.ref qf105) := (hre_65 105 (by decide)).trans (hfk_64_105)
      have hfk_65_117 : z_65[117]? = some (.int x117_1239) := (hre_65 117 (by decide)).trans (hfk_64_117)
      have hfk_65_118 : z_65[118]? = some (.ref qf118) := (hre_65 118 (by decide)).trans (hfk_64_118)
      have hfk_65_119 : z_65[119]? = some (.ref qf119) := (hre_65 119 (by decide)).trans (hfk_64_119)
      have hfk_65_120 : z_65[120]? = some (.int x120_1239) := (hre_65 120 (by decide)).trans (hfk_64_120)
      have hfk_65_127 : z_65[127]? = some (.ref qf127) := (hre_65 127 (by decide)).trans (hfk_64_127)
      have hfk_65_128 : z_65[128]? = some (.ref qf128) := (hre_65 128 (by decide)).trans (hfk_64_128)
      have hfk_65_129 : z_65[129]? = some (.int v129) := (hre_65 129 (by decide)).trans (hfk_64_129)
      have hfk_65_130 : z_65[130]? = some (.int v130) := (hre_65 130 (by decide)).trans (hfk_64_130)
      have hfk_65_132 : z_65[132]? = some (.int v132) := (hre_65 132 (by decide)).trans (hfk_64_132)
      have hfk_65_134 : z_65[134]? = some (.int v134) := (hre_65 134 (by decide)).trans (hfk_64_134)
      have hfk_65_136 : z_65[136]? = some (.int v136) := (hre_65 136 (by decide)).trans (hfk_64_136)
      have hfk_65_137 : z_65[137]? = some (.ref qf137) := (hre_65 137 (by decide)).trans (hfk_64_137)
      have hrq_65 : ∀ j : Nat, j ≠ 117 → j ≠ 120 → j ≠ 131 → z_65[j]? = zs[j]? := fun j g117 g120 g131 => (hre_65 j g131).trans (hrq_64 j g117 g120 g131)
      obtain ⟨rfl, hz_65⟩ := hwa_65
      rcases hz_65 with rfl | rfl
      · rw [if_pos rfl] at hsp
        refine lv_if_eq (tgt := 1257) hx hb dX13_wanted_1250 (by decide) (fun c_366 => ?_) (fun c_366 => (show False by revert c_366; decide).elim)
        refine lv_iconst (v := 0) hx hb dX13_wanted_1257 (by decide) ?_
        have hr0 := Option.some.inj hsp
        clear hsp
        obtain ⟨hq0, hr1⟩ := Prod.mk.inj hr0
        clear hr0
        obtain ⟨hq1, hr2⟩ := Prod.mk.inj hr1
        clear hr1
        obtain ⟨hq2, hr3⟩ := Prod.mk.inj hr2
        clear hr2
        obtain ⟨hq3, hr4⟩ := Prod.mk.inj hr3
        clear hr3
        obtain ⟨hq4, hr5⟩ := Prod.mk.inj hr4
        clear hr4
        obtain ⟨hq5, hr6⟩ := Prod.mk.inj hr5
        clear hr5
        obtain ⟨hq6, hr7⟩ := Prod.mk.inj hr6
        clear hr6
        obtain ⟨hq7, hr8⟩ := Prod.mk.inj hr7
        clear hr7
        subst hq0
        subst hq1
        subst hq2
        subst hq3
        subst hq4
        subst hq5
        subst hq6
        subst hq7
        subst hr8
        have hP9 := hP.sub (ws' := [(h0, .inr (13, z_65)), (qf100, .inl (cf100, 48000, .inl f100)), (qf128, .inl (cf128, 31, .inl g128_1239)), (qf127, .inl (cf127, 30, .inl g127_1239)), (qf104, .inl (cf104, 8, .inl f104)), (qf102, .inl (cf102, 2048, .inl f102)), (qf118, .inl (cf118, 2100, .inl g118_1239)), (qf119, .inl (cf119, 2100, .inl g119_1239)), (qf105, .inl (cf105, 8, .inl f105)), (qf137, .inl (cf137, 6, .inl g137_1239))]) [8, 0, 9, 1, 2, 3, 4, 5, 6, 7] rfl
        have hD9 := hD.sub (ws' := [(h0, .inr (13, z_65)), (qf100, .inl (cf100, 48000, .inl f100)), (qf128, .inl (cf128, 31, .inl g128_1239)), (qf127, .inl (cf127, 30, .inl g127_1239)), (qf104, .inl (cf104, 8, .inl f104)), (qf102, .inl (cf102, 2048, .inl f102)), (qf118, .inl (cf118, 2100, .inl g118_1239)), (qf119, .inl (cf119, 2100, .inl g119_1239)), (qf105, .inl (cf105, 8, .inl f105)), (qf137, .inl (cf137, 6, .inl g137_1239))]) [8, 0, 9, 1, 2, 3, 4, 5, 6, 7] (by decide) rfl
        have hK9 := hK.sub (tys' := [(cf100, .int), (cf128, .int), (cf127, .int), (cf104, .int), (cf102, .int), (cf118, .int), (cf119, .int), (cf105, .int), (cf137, .int)]) [0, 8, 1, 2, 3, 4, 5, 6, 7] rfl
        exact W.zret hx hb hr (by decide) (fun t ht hW => ⟨⟨(0), (z_65), rfl, ⟨⟨rfl, Or.inl rfl⟩, hln_65, hrq_65, hfk_65_117, hfk_65_120, hch_65_131⟩, by rw [ht]; exact hP9, va_K.moved hW.alike hK9, hD9⟩, hS.F ht⟩) hS.2.2 dX13_wanted_1258
      · rw [if_neg (by decide)] at hsp
        refine lv_if_eq (tgt := 1257) hx hb dX13_wanted_1250 (by decide) (fun c_367 => (show False by revert c_367; decide).elim) (fun c_367 => ?_)
        refine lv_iconst (v := 1) hx hb dX13_wanted_1253 (by decide) ?_
        refine lv_goto (tgt := 1258) hx hb dX13_wanted_1254 (by decide) ?_
        have hr0 := Option.some.inj hsp
        clear hsp
        obtain ⟨hq0, hr1⟩ := Prod.mk.inj hr0
        clear hr0
        obtain ⟨hq1, hr2⟩ := Prod.mk.inj hr1
        clear hr1
        obtain ⟨hq2, hr3⟩ := Prod.mk.inj hr2
        clear hr2
        obtain ⟨hq3, hr4⟩ := Prod.mk.inj hr3
        clear hr3
        obtain ⟨hq4, hr5⟩ := Prod.mk.inj hr4
        clear hr4
        obtain ⟨hq5, hr6⟩ := Prod.mk.inj hr5
        clear hr5
        obtain ⟨hq6, hr7⟩ := Prod.mk.inj hr6
        clear hr6
        obtain ⟨hq7, hr8⟩ := Prod.mk.inj hr7
        clear hr7
        subst hq0
        subst hq1
        subst hq2
        subst hq3
        subst hq4
        subst hq5
        subst hq6
        subst hq7
        subst hr8
        have hP9 := hP.sub (ws' := [(h0, .inr (13, z_65)), (qf100, .inl (cf100, 48000, .inl f100)), (qf128, .inl (cf128, 31, .inl g128_1239)), (qf127, .inl (cf127, 30, .inl g127_1239)), (qf104, .inl (cf104, 8, .inl f104)), (qf102, .inl (cf102, 2048, .inl f102)), (qf118, .inl (cf118, 2100, .inl g118_1239)), (qf119, .inl (cf119, 2100, .inl g119_1239)), (qf105, .inl (cf105, 8, .inl f105)), (qf137, .inl (cf137, 6, .inl g137_1239))]) [8, 0, 9, 1, 2, 3, 4, 5, 6, 7] rfl
        have hD9 := hD.sub (ws' := [(h0, .inr (13, z_65)), (qf100, .inl (cf100, 48000, .inl f100)), (qf128, .inl (cf128, 31, .inl g128_1239)), (qf127, .inl (cf127, 30, .inl g127_1239)), (qf104, .inl (cf104, 8, .inl f104)), (qf102, .inl (cf102, 2048, .inl f102)), (qf118, .inl (cf118, 2100, .inl g118_1239)), (qf119, .inl (cf119, 2100, .inl g119_1239)), (qf105, .inl (cf105, 8, .inl f105)), (qf137, .inl (cf137, 6, .inl g137_1239))]) [8, 0, 9, 1, 2, 3, 4, 5, 6, 7] (by decide) rfl
        have hK9 := hK.sub (tys' := [(cf100, .int), (cf128, .int), (cf127, .int), (cf104, .int), (cf102, .int), (cf118, .int), (cf119, .int), (cf105, .int), (cf137, .int)]) [0, 8, 1, 2, 3, 4, 5, 6, 7] rfl
        exact W.zret hx hb hr (by decide) (fun t ht hW => ⟨⟨(1), (z_65), rfl, ⟨⟨rfl, Or.inr rfl⟩, hln_65, hrq_65, hfk_65_117, hfk_65_120, hch_65_131⟩, by rw [ht]; exact hP9, va_K.moved hW.alike hK9, hD9⟩, hS.F ht⟩) hS.2.2 dX13_wanted_1258
  intro hj_1239
  refine jn_use (α := Heap × List Loc × Array Slot × List Value × (Nat → Int32) × (Nat → Int32) × (Nat → Int32) × (Nat → Int32) × (Nat → Int32) × Int32 × Int32 × Int32) (fun x9 => x9.1) (fun x9 => x9.2.1) (fun x9 => F0 m 1233 x9.2.2.1 []) (fun x9 => match x9 with | (H, locs, ls, z1233, g118_1233, g119_1233, g127_1233, g128_1233, g137_1233, x117_1233, x120_1233, x131_1233) => lv_has ls 5 [(0, .ref h0)] ∧ va_S A s.heap H locs ∧ va_D A [(h0, .inr (13, z1233)), (qf100, .inl (cf100, 48000, .inl f100)), (qf128, .inl (cf128, 31, .inl g128_1233)), (qf127, .inl (cf127, 30, .inl g127_1233)), (qf104, .inl (cf104, 8, .inl f104)), (qf102, .inl (cf102, 2048, .inl f102)), (qf118, .inl (cf118, 2100, .inl g118_1233)), (qf119, .inl (cf119, 2100, .inl g119_1233)), (qf105, .inl (cf105, 8, .inl f105)), (qf137, .inl (cf137, 6, .inl g137_1233))] ∧ va_P (dC, dI) vwCl [(h0, .inr (13, z1233)), (qf100, .inl (cf100, 48000, .inl f100)), (qf128, .inl (cf128, 31, .inl g128_1233)), (qf127, .inl (cf127, 30, .inl g127_1233)), (qf104, .inl (cf104, 8, .inl f104)), (qf102, .inl (cf102, 2048, .inl f102)), (qf118, .inl (cf118, 2100, .inl g118_1233)), (qf119, .inl (cf119, 2100, .inl g119_1233)), (qf105, .inl (cf105, 8, .inl f105)), (qf137, .inl (cf137, 6, .inl g137_1233))] H ∧ z1233[98]? = some (.int v98) ∧ z1233[100]? = some (.ref qf100) ∧ z1233[102]? = some (.ref qf102) ∧ z1233[104]? = some (.ref qf104) ∧ z1233[105]? = some (.ref qf105) ∧ z1233[117]? = some (.int x117_1233) ∧ z1233[118]? = some (.ref qf118) ∧ z1233[119]? = some (.ref qf119) ∧ z1233[120]? = some (.int x120_1233) ∧ z1233[127]? = some (.ref qf127) ∧ z1233[128]? = some (.ref qf128) ∧ z1233[129]? = some (.int v129) ∧ z1233[130]? = some (.int v130) ∧ z1233[131]? = some (.int x131_1233) ∧ z1233[132]? = some (.int v132) ∧ z1233[134]? = some (.int v134) ∧ z1233[136]? = some (.int v136) ∧ z1233[137]? = some (.ref qf137) ∧ z1233.length = 155 ∧ (∀ j : Nat, j ≠ 117 → j ≠ 120 → j ≠ 131 → z1233[j]? = zs[j]?) ∧ jn_vm_wanted_1233 nf a1 v98 v117 v120 v129 v130 v131 v132 v134 v136 f100 f128 f127 f104 f102 f118 f119 f105 f137 nS477 fS477 g118_1233 g119_1233 g127_1233 g128_1233 g137_1233 x117_1233 x120_1233 x131_1233 = some (r0, o118, o119, o127, o128, o137, w117, w120, w131)) ?_ ?_
  · intro x9 hJ9
    obtain ⟨H, locs, ls, z1233, g118_1233, g119_1233, g127_1233, g128_1233, g137_1233, x117_1233, x120_1233, x131_1233⟩ := x9
    obtain ⟨hl, hS, hD, hP, hfh_1233_98, hfh_1233_100, hfh_1233_102, hfh_1233_104, hfh_1233_105, hfh_1233_117, hfh_1233_118, hfh_1233_119, hfh_1233_120, hfh_1233_127, hfh_1233_128, hfh_1233_129, hfh_1233_130, hfh_1233_131, hfh_1233_132, hfh_1233_134, hfh_1233_136, hfh_1233_137, hlh_1233, hrh_1233, hsp⟩ := hJ9
    replace hl : lv_has ls 5 [(0, .ref h0)] := hl
    replace hS : va_S A s.heap H locs := hS
    replace hD : va_D A [(h0, .inr (13, z1233)), (qf100, .inl (cf100, 48000, .inl f100)), (qf128, .inl (cf128, 31, .inl g128_1233)), (qf127, .inl (cf127, 30, .inl g127_1233)), (qf104, .inl (cf104, 8, .inl f104)), (qf102, .inl (cf102, 2048, .inl f102)), (qf118, .inl (cf118, 2100, .inl g118_1233)), (qf119, .inl (cf119, 2100, .inl g119_1233)), (qf105, .inl (cf105, 8, .inl f105)), (qf137, .inl (cf137, 6, .inl g137_1233))] := hD
    replace hP : va_P (dC, dI) vwCl [(h0, .inr (13, z1233)), (qf100, .inl (cf100, 48000, .inl f100)), (qf128, .inl (cf128, 31, .inl g128_1233)), (qf127, .inl (cf127, 30, .inl g127_1233)), (qf104, .inl (cf104, 8, .inl f104)), (qf102, .inl (cf102, 2048, .inl f102)), (qf118, .inl (cf118, 2100, .inl g118_1233)), (qf119, .inl (cf119, 2100, .inl g119_1233)), (qf105, .inl (cf105, 8, .inl f105)), (qf137, .inl (cf137, 6, .inl g137_1233))] H := hP
    replace hsp : jn_vm_wanted_1233 nf a1 v98 v117 v120 v129 v130 v131 v132 v134 v136 f100 f128 f127 f104 f102 f118 f119 f105 f137 nS477 fS477 g118_1233 g119_1233 g127_1233 g128_1233 g137_1233 x117_1233 x120_1233 x131_1233 = some (r0, o118, o119, o127, o128, o137, w117, w120, w131) := hsp
    show W _ _ _ _ _ _ _ _ _ _ H locs _ _ _ (F0 m 1233 ls [])
    unfold jn_vm_wanted_1233 at hsp
    try dsimp only at hsp
    refine lv_aload_n hx hb dX13_wanted_1233 rfl (lv_at hl 0 rfl) ?_
    refine lv_iconst (v := 2) hx hb dX13_wanted_1234 (by decide) ?_
    obtain ⟨⟨u63_0, u63_1⟩, hu_63, hsp⟩ := ox_bind hsp
    try dsimp only at hsp
    have hPc := hP.sub (ws' := [(h0, .inr (13, z1233)), (qf128, .inl (cf128, 31, .inl g128_1233))]) [0, 2] rfl
    have hDc := hD.sub (ws' := [(h0, .inr (13, z1233)), (qf128, .inl (cf128, 31, .inl g128_1233))]) [0, 2] (by decide) rfl
    have hKc := hK.sub (tys' := [(cf128, .int)]) [1] rfl
    have hFc := va_free (wc := [(h0, .inr (13, z1233)), (qf128, .inl (cf128, 31, .inl g128_1233))]) hD hS hA [0, 2] rfl
    refine va_calli (va_runV (As := [.int 2]) (rest := []) ⟨hx, hb, hml, hown, hts⟩ (tn_pullInts l dC dI H.size h0 z1233 2 qf128 x131_1233 cf128 g128_1233 nf u63_0 u63_1 hlh_1233 hfh_1233_128 hfh_1233_131 hu_63) (cwV 1 hts gv_h9_70 rfl rfl rfl (by decide +kernel) ⟨Nat.le_of_ble_eq_true rfl, Nat.le_of_ble_eq_true rfl⟩) ⟨fun a U g mk q => by obtain ⟨q0, q1, qP, qK, qD⟩ := q; exact ⟨q0, q1, qP, va_K.moved (u := U) (U := U.calling g mk a) (Vm.Alike.refl U.vm) qK, qD⟩, va_recv hKc hPc (ci := 13) (q0 := 0) rfl rfl, fun U hU hW => ⟨rfl, by rw [hU], by rw [hU]; exact hPc, va_K.moved hW.alike hKc, hDc.weaken (fun _ _ _ _ => trivial)⟩⟩ rfl rfl hl.1 rfl (lv_room (Nat.le_of_ble_eq_true rfl)) dX13_wanted_1235 ⟨Nat.le_of_ble_eq_true rfl, Nat.le_of_ble_eq_true rfl⟩) hS (fun q _ h => hFc q h) hFc ?_
    clear hS
    intro r_361 u t H1 locs ht hvm hw hB hz1 hk1 hS
    obtain ⟨z_63, rfl⟩ : ∃ z, z = u := ⟨_, rfl⟩
    obtain ⟨hP1, hK1, hD1⟩ := hB
    rw [ht] at hP1
    have hK1 := va_K.moved hvm.symm hK1
    try dsimp only at hw
    have hPD := va_join (wr := [(qf100, .inl (cf100, 48000, .inl f100)), (qf127, .inl (cf127, 30, .inl g127_1233)), (qf104, .inl (cf104, 8, .inl f104)), (qf102, .inl (cf102, 2048, .inl f102)), (qf118, .inl (cf118, 2100, .inl g118_1233)), (qf119, .inl (cf119, 2100, .inl g119_1233)), (qf105, .inl (cf105, 8, .inl f105)), (qf137, .inl (cf137, 6, .inl g137_1233))]) (w1 := [(h0, .inr (13, z_63)), (qf128, .inl (cf128, 31, .inl g128_1233))]) hP hD [0, 2] [1, 3, 4, 5, 6, 7, 8, 9] rfl rfl (by decide) (by decide) hk1 hFc hP1 hD1
    clear hP hD
    obtain ⟨hP, hD⟩ := hPD
    replace hK := (hK.sub (tys' := [(cf100, .int), (cf127, .int), (cf104, .int), (cf102, .int), (cf118, .int), (cf119, .int), (cf105, .int), (cf137, .int)]) [0, 2, 3, 4, 5, 6, 7, 8] rfl).app hK1
    clear hPc hDc hKc hFc hP1 hK1 hD1 hz1 hk1 ht hvm
    generalize H1 = H at hP hS ⊢
    replace hP : va_P (dC, dI) vwCl [(qf100, .inl (cf100, 48000, .inl f100)), (qf127, .inl (cf127, 30, .inl g127_1233)), (qf104, .inl (cf104, 8, .inl f104)), (qf102, .inl (cf102, 2048, .inl f102)), (qf118, .inl (cf118, 2100, .inl g118_1233)), (qf119, .inl (cf119, 2100, .inl g119_1233)), (qf105, .inl (cf105, 8, .inl f105)), (qf137, .inl (cf137, 6, .inl g137_1233)), (h0, .inr (13, z_63)), (qf128, .inl (cf128, 31, .inl g128_1233))] H := hP
    replace hD : va_D A [(qf100, .inl (cf100, 48000, .inl f100)), (qf127, .inl (cf127, 30, .inl g127_1233)), (qf104, .inl (cf104, 8, .inl f104)), (qf102, .inl (cf102, 2048, .inl f102)), (qf118, .inl (cf118, 2100, .inl g118_1233)), (qf119, .inl (cf119, 2100, .inl g119_1233)), (qf105, .inl (cf105, 8, .inl f105)), (qf137, .inl (cf137, 6, .inl g137_1233)), (h0, .inr (13, z_63)), (qf128, .inl (cf128, 31, .inl g128_1233))] := hD
    replace hK : va_K (dC, dI) vwCl [(cf100, .int), (cf127, .int), (cf104, .int), (cf102, .int), (cf118, .int), (cf119, .int), (cf105, .int), (cf137, .int), (cf128, .int)] s := hK
    obtain ⟨hwa_63, hln_63, hre_63, hch_63_131⟩ := hw
    have hfk_63_98 : z_63[98]? = some (.int v98) := (hre_63 98 (by decide)).trans (hfh_1233_98)
    have hfk_63_100 : z_63[100]? = some (.ref qf100) := (hre_63 100 (by decide)).trans (hfh_1233_100)
    have hfk_63_102 : z_63[102]? = some (.ref qf102) := (hre_63 102 (by decide)).trans (hfh_1233_102)
    have hfk_63_104 : z_63[104]? = some (.ref qf104) := (hre_63 104 (by decide)).trans (hfh_1233_104)
    have hfk_63_105 : z_63[105]? = some (.ref qf105) := (hre_63 105 (by decide)).trans (hfh_1233_105)
    have hfk_63_117 : z_63[117]? = some (.int x117_1233) := (hre_63 117 (by decide)).trans (hfh_1233_117)
    have hfk_63_118 : z_63[118]? = some (.ref qf118) := (hre_63 118 (by decide)).trans (hfh_1233_118)
    have hfk_63_119 : z_63[119]? = some (.ref qf119) := (hre_63 119 (by decide)).trans (hfh_1233_119)
    have hfk_63_120 : z_63[120]? = some (.int x120_1233) := (hre_63 120 (by decide)).trans (hfh_1233_120)
    have hfk_63_127 : z_63[127]? = some (.ref qf127) := (hre_63 127 (by decide)).trans (hfh_1233_127)
    have hfk_63_128 : z_63[128]? = some (.ref qf128) := (hre_63 128 (by decide)).trans (hfh_1233_128)
    have hfk_63_129 : z_63[129]? = some (.int v129) := (hre_63 129 (by decide)).trans (hfh_1233_129)
    have hfk_63_130 : z_63[130]? = some (.int v130) := (hre_63 130 (by decide)).trans (hfh_1233_130)
    have hfk_63_132 : z_63[132]? = some (.int v132) := (hre_63 132 (by decide)).trans (hfh_1233_132)
    have hfk_63_134 : z_63[134]? = some (.int v134) := (hre_63 134 (by decide)).trans (hfh_1233_134)
    have hfk_63_136 : z_63[136]? = some (.int v136) := (hre_63 136 (by decide)).trans (hfh_1233_136)
    have hfk_63_137 : z_63[137]? = some (.ref qf137) := (hre_63 137 (by decide)).trans (hfh_1233_137)
    have hrq_63 : ∀ j : Nat, j ≠ 117 → j ≠ 120 → j ≠ 131 → z_63[j]? = zs[j]? := fun j g117 g120 g131 => (hre_63 j g131).trans (hrh_1233 j g117 g120 g131)
    obtain ⟨rfl, hz_63⟩ := hwa_63
    rcases hz_63 with rfl | rfl
    · rw [if_pos rfl] at hsp
      have hr0 := Option.some.inj hsp
      clear hsp
      obtain ⟨hq0, hr1⟩ := Prod.mk.inj hr0
      clear hr0
      obtain ⟨hq1, hr2⟩ := Prod.mk.inj hr1
      clear hr1
      obtain ⟨hq2, hr3⟩ := Prod.mk.inj hr2
      clear hr2
      obtain ⟨hq3, hr4⟩ := Prod.mk.inj hr3
      clear hr3
      obtain ⟨hq4, hr5⟩ := Prod.mk.inj hr4
      clear hr4
      obtain ⟨hq5, hr6⟩ := Prod.mk.inj hr5
      clear hr5
      obtain ⟨hq6, hr7⟩ := Prod.mk.inj hr6
      clear hr6
      obtain ⟨hq7, hr8⟩ := Prod.mk.inj hr7
      clear hr7
      subst hq0
      subst hq1
      subst hq2
      subst hq3
      subst hq4
      subst hq5
      subst hq6
      subst hq7
      subst hr8
      have hP9 := hP.sub (ws' := [(h0, .inr (13, z_63)), (qf100, .inl (cf100, 48000, .inl f100)), (qf128, .inl (cf128, 31, .inl g128_1233)), (qf127, .inl (cf127, 30, .inl g127_1233)), (qf104, .inl (cf104, 8, .inl f104)), (qf102, .inl (cf102, 2048, .inl f102)), (qf118, .inl (cf118, 2100, .inl g118_1233)), (qf119, .inl (cf119, 2100, .inl g119_1233)), (qf105, .inl (cf105, 8, .inl f105)), (qf137, .inl (cf137, 6, .inl g137_1233))]) [8, 0, 9, 1, 2, 3, 4, 5, 6, 7] rfl
      have hD9 := hD.sub (ws' := [(h0, .inr (13, z_63)), (qf100, .inl (cf100, 48000, .inl f100)), (qf128, .inl (cf128, 31, .inl g128_1233)), (qf127, .inl (cf127, 30, .inl g127_1233)), (qf104, .inl (cf104, 8, .inl f104)), (qf102, .inl (cf102, 2048, .inl f102)), (qf118, .inl (cf118, 2100, .inl g118_1233)), (qf119, .inl (cf119, 2100, .inl g119_1233)), (qf105, .inl (cf105, 8, .inl f105)), (qf137, .inl (cf137, 6, .inl g137_1233))]) [8, 0, 9, 1, 2, 3, 4, 5, 6, 7] (by decide) rfl
      have hK9 := hK.sub (tys' := [(cf100, .int), (cf128, .int), (cf127, .int), (cf104, .int), (cf102, .int), (cf118, .int), (cf119, .int), (cf105, .int), (cf137, .int)]) [0, 8, 1, 2, 3, 4, 5, 6, 7] rfl
      exact W.zret hx hb hr (by decide) (fun t ht hW => ⟨⟨(0), (z_63), rfl, ⟨⟨rfl, Or.inl rfl⟩, hln_63, hrq_63, hfk_63_117, hfk_63_120, hch_63_131⟩, by rw [ht]; exact hP9, va_K.moved hW.alike hK9, hD9⟩, hS.F ht⟩) hS.2.2 dX13_wanted_1238
    · rw [if_neg (by decide)] at hsp
      have hr0 := Option.some.inj hsp
      clear hsp
      obtain ⟨hq0, hr1⟩ := Prod.mk.inj hr0
      clear hr0
      obtain ⟨hq1, hr2⟩ := Prod.mk.inj hr1
      clear hr1
      obtain ⟨hq2, hr3⟩ := Prod.mk.inj hr2
      clear hr2
      obtain ⟨hq3, hr4⟩ := Prod.mk.inj hr3
      clear hr3
      obtain ⟨hq4, hr5⟩ := Prod.mk.inj hr4
      clear hr4
      obtain ⟨hq5, hr6⟩ := Prod.mk.inj hr5
      clear hr5
      obtain ⟨hq6, hr7⟩ := Prod.mk.inj hr6
      clear hr6
      obtain ⟨hq7, hr8⟩ := Prod.mk.inj hr7
      clear hr7
      subst hq0
      subst hq1
      subst hq2
      subst hq3
      subst hq4
      subst hq5
      subst hq6
      subst hq7
      subst hr8
      have hP9 := hP.sub (ws' := [(h0, .inr (13, z_63)), (qf100, .inl (cf100, 48000, .inl f100)), (qf128, .inl (cf128, 31, .inl g128_1233)), (qf127, .inl (cf127, 30, .inl g127_1233)), (qf104, .inl (cf104, 8, .inl f104)), (qf102, .inl (cf102, 2048, .inl f102)), (qf118, .inl (cf118, 2100, .inl g118_1233)), (qf119, .inl (cf119, 2100, .inl g119_1233)), (qf105, .inl (cf105, 8, .inl f105)), (qf137, .inl (cf137, 6, .inl g137_1233))]) [8, 0, 9, 1, 2, 3, 4, 5, 6, 7] rfl
      have hD9 := hD.sub (ws' := [(h0, .inr (13, z_63)), (qf100, .inl (cf100, 48000, .inl f100)), (qf128, .inl (cf128, 31, .inl g128_1233)), (qf127, .inl (cf127, 30, .inl g127_1233)), (qf104, .inl (cf104, 8, .inl f104)), (qf102, .inl (cf102, 2048, .inl f102)), (qf118, .inl (cf118, 2100, .inl g118_1233)), (qf119, .inl (cf119, 2100, .inl g119_1233)), (qf105, .inl (cf105, 8, .inl f105)), (qf137, .inl (cf137, 6, .inl g137_1233))]) [8, 0, 9, 1, 2, 3, 4, 5, 6, 7] (by decide) rfl
      have hK9 := hK.sub (tys' := [(cf100, .int), (cf128, .int), (cf127, .int), (cf104, .int), (cf102, .int), (cf118, .int), (cf119, .int), (cf105, .int), (cf137, .int)]) [0, 8, 1, 2, 3, 4, 5, 6, 7] rfl
      exact W.zret hx hb hr (by decide) (fun t ht hW => ⟨⟨(1), (z_63), rfl, ⟨⟨rfl, Or.inr rfl⟩, hln_63, hrq_63, hfk_63_117, hfk_63_120, hch_63_131⟩, by rw [ht]; exact hP9, va_K.moved hW.alike hK9, hD9⟩, hS.F ht⟩) hS.2.2 dX13_wanted_1238
  intro hj_1233
  refine jn_use (α := Heap × List Loc × Array Slot × List Value × (Nat → Int32) × (Nat → Int32) × (Nat → Int32) × (Nat → Int32) × (Nat → Int32) × Int32 × Int32 × Int32) (fun x9 => x9.1) (fun x9 => x9.2.1) (fun x9 => F0 m 1227 x9.2.2.1 []) (fun x9 => match x9 with | (H, locs, ls, z1227, g118_1227, g119_1227, g127_1227, g128_1227, g137_1227, x117_1227, x120_1227, x131_1227) => lv_has ls 5 [(0, .ref h0)] ∧ va_S A s.heap H locs ∧ va_D A [(h0, .inr (13, z1227)), (qf100, .inl (cf100, 48000, .inl f100)), (qf128, .inl (cf128, 31, .inl g128_1227)), (qf127, .inl (cf127, 30, .inl g127_1227)), (qf104, .inl (cf104, 8, .inl f104)), (qf102, .inl (cf102, 2048, .inl f102)), (qf118, .inl (cf118, 2100, .inl g118_1227)), (qf119, .inl (cf119, 2100, .inl g119_1227)), (qf105, .inl (cf105, 8, .inl f105)), (qf137, .inl (cf137, 6, .inl g137_1227))] ∧ va_P (dC, dI) vwCl [(h0, .inr (13, z1227)), (qf100, .inl (cf100, 48000, .inl f100)), (qf128, .inl (cf128, 31, .inl g128_1227)), (qf127, .inl (cf127, 30, .inl g127_1227)), (qf104, .inl (cf104, 8, .inl f104)), (qf102, .inl (cf102, 2048, .inl f102)), (qf118, .inl (cf118, 2100, .inl g118_1227)), (qf119, .inl (cf119, 2100, .inl g119_1227)), (qf105, .inl (cf105, 8, .inl f105)), (qf137, .inl (cf137, 6, .inl g137_1227))] H ∧ z1227[98]? = some (.int v98) ∧ z1227[100]? = some (.ref qf100) ∧ z1227[102]? = some (.ref qf102) ∧ z1227[104]? = some (.ref qf104) ∧ z1227[105]? = some (.ref qf105) ∧ z1227[117]? = some (.int x117_1227) ∧ z1227[118]? = some (.ref qf118) ∧ z1227[119]? = some (.ref qf119) ∧ z1227[120]? = some (.int x120_1227) ∧ z1227[127]? = some (.ref qf127) ∧ z1227[128]? = some (.ref qf128) ∧ z1227[129]? = some (.int v129) ∧ z1227[130]? = some (.int v130) ∧ z1227[131]? = some (.int x131_1227) ∧ z1227[132]? = some (.int v132) ∧ z1227[134]? = some (.int v134) ∧ z1227[136]? = some (.int v136) ∧ z1227[137]? = some (.ref qf137) ∧ z1227.length = 155 ∧ (∀ j : Nat, j ≠ 117 → j ≠ 120 → j ≠ 131 → z1227[j]? = zs[j]?) ∧ jn_vm_wanted_1227 nf a1 v98 v117 v120 v129 v130 v131 v132 v134 v136 f100 f128 f127 f104 f102 f118 f119 f105 f137 nS477 fS477 g118_1227 g119_1227 g127_1227 g128_1227 g137_1227 x117_1227 x120_1227 x131_1227 = some (r0, o118, o119, o127, o128, o137, w117, w120, w131)) ?_ ?_
  · intro x9 hJ9
    obtain ⟨H, locs, ls, z1227, g118_1227, g119_1227, g127_1227, g128_1227, g137_1227, x117_1227, x120_1227, x131_1227⟩ := x9
    obtain ⟨hl, hS, hD, hP, hfh_1227_98, hfh_1227_100, hfh_1227_102, hfh_1227_104, hfh_1227_105, hfh_1227_117, hfh_1227_118, hfh_1227_119, hfh_1227_120, hfh_1227_127, hfh_1227_128, hfh_1227_129, hfh_1227_130, hfh_1227_131, hfh_1227_132, hfh_1227_134, hfh_1227_136, hfh_1227_137, hlh_1227, hrh_1227, hsp⟩ := hJ9
    replace hl : lv_has ls 5 [(0, .ref h0)] := hl
    replace hS : va_S A s.heap H locs := hS
    replace hD : va_D A [(h0, .inr (13, z1227)), (qf100, .inl (cf100, 48000, .inl f100)), (qf128, .inl (cf128, 31, .inl g128_1227)), (qf127, .inl (cf127, 30, .inl g127_1227)), (qf104, .inl (cf104, 8, .inl f104)), (qf102, .inl (cf102, 2048, .inl f102)), (qf118, .inl (cf118, 2100, .inl g118_1227)), (qf119, .inl (cf119, 2100, .inl g119_1227)), (qf105, .inl (cf105, 8, .inl f105)), (qf137, .inl (cf137, 6, .inl g137_1227))] := hD
    replace hP : va_P (dC, dI) vwCl [(h0, .inr (13, z1227)), (qf100, .inl (cf100, 48000, .inl f100)), (qf128, .inl (cf128, 31, .inl g128_1227)), (qf127, .inl (cf127, 30, .inl g127_1227)), (qf104, .inl (cf104, 8, .inl f104)), (qf102, .inl (cf102, 2048, .inl f102)), (qf118, .inl (cf118, 2100, .inl g118_1227)), (qf119, .inl (cf119, 2100, .inl g119_1227)), (qf105, .inl (cf105, 8, .inl f105)), (qf137, .inl (cf137, 6, .inl g137_1227))] H := hP
    replace hsp : jn_vm_wanted_1227 nf a1 v98 v117 v120 v129 v130 v131 v132 v134 v136 f100 f128 f127 f104 f102 f118 f119 f105 f137 nS477 fS477 g118_1227 g119_1227 g127_1227 g128_1227 g137_1227 x117_1227 x120_1227 x131_1227 = some (r0, o118, o119, o127, o128, o137, w117, w120, w131) := hsp
    show W _ _ _ _ _ _ _ _ _ _ H locs _ _ _ (F0 m 1227 ls [])
    unfold jn_vm_wanted_1227 at hsp
    try dsimp only at hsp
    refine lv_aload_n hx hb dX13_wanted_1227 rfl (lv_at hl 0 rfl) ?_
    refine lv_iconst (v := 1) hx hb dX13_wanted_1228 (by decide) ?_
    obtain ⟨⟨u62_0, u62_1⟩, hu_62, hsp⟩ := ox_bind hsp
    try dsimp only at hsp
    have hPc := hP.sub (ws' := [(h0, .inr (13, z1227)), (qf128, .inl (cf128, 31, .inl g128_1227))]) [0, 2] rfl
    have hDc := hD.sub (ws' := [(h0, .inr (13, z1227)), (qf128, .inl (cf128, 31, .inl g128_1227))]) [0, 2] (by decide) rfl
    have hKc := hK.sub (tys' := [(cf128, .int)]) [1] rfl
    have hFc := va_free (wc := [(h0, .inr (13, z1227)), (qf128, .inl (cf128, 31, .inl g128_1227))]) hD hS hA [0, 2] rfl
    refine va_calli (va_runV (As := [.int 1]) (rest := []) ⟨hx, hb, hml, hown, hts⟩ (tn_pullInts l dC dI H.size h0 z1227 1 qf128 x131_1227 cf128 g128_1227 nf u62_0 u62_1 hlh_1227 hfh_1227_128 hfh_1227_131 hu_62) (cwV 1 hts gv_h9_70 rfl rfl rfl (by decide +kernel) ⟨Nat.le_of_ble_eq_true rfl, Nat.le_of_ble_eq_true rfl⟩) ⟨fun a U g mk q => by obtain ⟨q0, q1, qP, qK, qD⟩ := q; exact ⟨q0, q1, qP, va_K.moved (u := U) (U := U.calling g mk a) (Vm.Alike.refl U.vm) qK, qD⟩, va_recv hKc hPc (ci := 13) (q0 := 0) rfl rfl, fun U hU hW => ⟨rfl, by rw [hU], by rw [hU]; exact hPc, va_K.moved hW.alike hKc, hDc.weaken (fun _ _ _ _ => trivial)⟩⟩ rfl rfl hl.1 rfl (lv_room (Nat.le_of_ble_eq_true rfl)) dX13_wanted_1229 ⟨Nat.le_of_ble_eq_true rfl, Nat.le_of_ble_eq_true rfl⟩) hS (fun q _ h => hFc q h) hFc ?_
    clear hS
    intro r_360 u t H1 locs ht hvm hw hB hz1 hk1 hS
    obtain ⟨z_62, rfl⟩ : ∃ z, z = u := ⟨_, rfl⟩
    obtain ⟨hP1, hK1, hD1⟩ := hB
    rw [ht] at hP1
    have hK1 := va_K.moved hvm.symm hK1
    try dsimp only at hw
    have hPD := va_join (wr := [(qf100, .inl (cf100, 48000, .inl f100)), (qf127, .inl (cf127, 30, .inl g127_1227)), (qf104, .inl (cf104, 8, .inl f104)), (qf102, .inl (cf102, 2048, .inl f102)), (qf118, .inl (cf118, 2100, .inl g118_1227)), (qf119, .inl (cf119, 2100, .inl g119_1227)), (qf105, .inl (cf105, 8, .inl f105)), (qf137, .inl (cf137, 6, .inl g137_1227))]) (w1 := [(h0, .inr (13, z_62)), (qf128, .inl (cf128, 31, .inl g128_1227))]) hP hD [0, 2] [1, 3, 4, 5, 6, 7, 8, 9] rfl rfl (by decide) (by decide) hk1 hFc hP1 hD1
    clear hP hD
    obtain ⟨hP, hD⟩ := hPD
    replace hK := (hK.sub (tys' := [(cf100, .int), (cf127, .int), (cf104, .int), (cf102, .int), (cf118, .int), (cf119, .int), (cf105, .int), (cf137, .int)]) [0, 2, 3, 4, 5, 6, 7, 8] rfl).app hK1
    clear hPc hDc hKc hFc hP1 hK1 hD1 hz1 hk1 ht hvm
    generalize H1 = H at hP hS ⊢
    replace hP : va_P (dC, dI) vwCl [(qf100, .inl (cf100, 48000, .inl f100)), (qf127, .inl (cf127, 30, .inl g127_1227)), (qf104, .inl (cf104, 8, .inl f104)), (qf102, .inl (cf102, 2048, .inl f102)), (qf118, .inl (cf118, 2100, .inl g118_1227)), (qf119, .inl (cf119, 2100, .inl g119_1227)), (qf105, .inl (cf105, 8, .inl f105)), (qf137, .inl (cf137, 6, .inl g137_1227)), (h0, .inr (13, z_62)), (qf128, .inl (cf128, 31, .inl g128_1227))] H := hP
    replace hD : va_D A [(qf100, .inl (cf100, 48000, .inl f100)), (qf127, .inl (cf127, 30, .inl g127_1227)), (qf104, .inl (cf104, 8, .inl f104)), (qf102, .inl (cf102, 2048, .inl f102)), (qf118, .inl (cf118, 2100, .inl g118_1227)), (qf119, .inl (cf119, 2100, .inl g119_1227)), (qf105, .inl (cf105, 8, .inl f105)), (qf137, .inl (cf137, 6, .inl g137_1227)), (h0, .inr (13, z_62)), (qf128, .inl (cf128, 31, .inl g128_1227))] := hD
    replace hK : va_K (dC, dI) vwCl [(cf100, .int), (cf127, .int), (cf104, .int), (cf102, .int), (cf118, .int), (cf119, .int), (cf105, .int), (cf137, .int), (cf128, .int)] s := hK
    obtain ⟨hwa_62, hln_62, hre_62, hch_62_131⟩ := hw
    have hfk_62_98 : z_62[98]? = some (.int v98) := (hre_62 98 (by decide)).trans (hfh_1227_98)
    have hfk_62_100 : z_62[100]? = some (.ref qf100) := (hre_62 100 (by decide)).trans (hfh_1227_100)
    have hfk_62_102 : z_62[102]? = some (.ref qf102) := (hre_62 102 (by decide)).trans (hfh_1227_102)
    have hfk_62_104 : z_62[104]? = some (.ref qf104) := (hre_62 104 (by decide)).trans (hfh_1227_104)
    have hfk_62_105 : z_62[105]? = some (.ref qf105) := (hre_62 105 (by decide)).trans (hfh_1227_105)
    have hfk_62_117 : z_62[117]? = some (.int x117_1227) := (hre_62 117 (by decide)).trans (hfh_1227_117)
    have hfk_62_118 : z_62[118]? = some (.ref qf118) := (hre_62 118 (by decide)).trans (hfh_1227_118)
    have hfk_62_119 : z_62[119]? = some (.ref qf119) := (hre_62 119 (by decide)).trans (hfh_1227_119)
    have hfk_62_120 : z_62[120]? = some (.int x120_1227) := (hre_62 120 (by decide)).trans (hfh_1227_120)
    have hfk_62_127 : z_62[127]? = some (.ref qf127) := (hre_62 127 (by decide)).trans (hfh_1227_127)
    have hfk_62_128 : z_62[128]? = some (.ref qf128) := (hre_62 128 (by decide)).trans (hfh_1227_128)
    have hfk_62_129 : z_62[129]? = some (.int v129) := (hre_62 129 (by decide)).trans (hfh_1227_129)
    have hfk_62_130 : z_62[130]? = some (.int v130) := (hre_62 130 (by decide)).trans (hfh_1227_130)
    have hfk_62_132 : z_62[132]? = some (.int v132) := (hre_62 132 (by decide)).trans (hfh_1227_132)
    have hfk_62_134 : z_62[134]? = some (.int v134) := (hre_62 134 (by decide)).trans (hfh_1227_134)
    have hfk_62_136 : z_62[136]? = some (.int v136) := (hre_62 136 (by decide)).trans (hfh_1227_136)
    have hfk_62_137 : z_62[137]? = some (.ref qf137) := (hre_62 137 (by decide)).trans (hfh_1227_137)
    have hrq_62 : ∀ j : Nat, j ≠ 117 → j ≠ 120 → j ≠ 131 → z_62[j]? = zs[j]? := fun j g117 g120 g131 => (hre_62 j g131).trans (hrh_1227 j g117 g120 g131)
    obtain ⟨rfl, hz_62⟩ := hwa_62
    rcases hz_62 with rfl | rfl
    · rw [if_pos rfl] at hsp
      have hr0 := Option.some.inj hsp
      clear hsp
      obtain ⟨hq0, hr1⟩ := Prod.mk.inj hr0
      clear hr0
      obtain ⟨hq1, hr2⟩ := Prod.mk.inj hr1
      clear hr1
      obtain ⟨hq2, hr3⟩ := Prod.mk.inj hr2
      clear hr2
      obtain ⟨hq3, hr4⟩ := Prod.mk.inj hr3
      clear hr3
      obtain ⟨hq4, hr5⟩ := Prod.mk.inj hr4
      clear hr4
      obtain ⟨hq5, hr6⟩ := Prod.mk.inj hr5
      clear hr5
      obtain ⟨hq6, hr7⟩ := Prod.mk.inj hr6
      clear hr6
      obtain ⟨hq7, hr8⟩ := Prod.mk.inj hr7
      clear hr7
      subst hq0
      subst hq1
      subst hq2
      subst hq3
      subst hq4
      subst hq5
      subst hq6
      subst hq7
      subst hr8
      have hP9 := hP.sub (ws' := [(h0, .inr (13, z_62)), (qf100, .inl (cf100, 48000, .inl f100)), (qf128, .inl (cf128, 31, .inl g128_1227)), (qf127, .inl (cf127, 30, .inl g127_1227)), (qf104, .inl (cf104, 8, .inl f104)), (qf102, .inl (cf102, 2048, .inl f102)), (qf118, .inl (cf118, 2100, .inl g118_1227)), (qf119, .inl (cf119, 2100, .inl g119_1227)), (qf105, .inl (cf105, 8, .inl f105)), (qf137, .inl (cf137, 6, .inl g137_1227))]) [8, 0, 9, 1, 2, 3, 4, 5, 6, 7] rfl
      have hD9 := hD.sub (ws' := [(h0, .inr (13, z_62)), (qf100, .inl (cf100, 48000, .inl f100)), (qf128, .inl (cf128, 31, .inl g128_1227)), (qf127, .inl (cf127, 30, .inl g127_1227)), (qf104, .inl (cf104, 8, .inl f104)), (qf102, .inl (cf102, 2048, .inl f102)), (qf118, .inl (cf118, 2100, .inl g118_1227)), (qf119, .inl (cf119, 2100, .inl g119_1227)), (qf105, .inl (cf105, 8, .inl f105)), (qf137, .inl (cf137, 6, .inl g137_1227))]) [8, 0, 9, 1, 2, 3, 4, 5, 6, 7] (by decide) rfl
      have hK9 := hK.sub (tys' := [(cf100, .int), (cf128, .int), (cf127, .int), (cf104, .int), (cf102, .int), (cf118, .int), (cf119, .int), (cf105, .int), (cf137, .int)]) [0, 8, 1, 2, 3, 4, 5, 6, 7] rfl
      exact W.zret hx hb hr (by decide) (fun t ht hW => ⟨⟨(0), (z_62), rfl, ⟨⟨rfl, Or.inl rfl⟩, hln_62, hrq_62, hfk_62_117, hfk_62_120, hch_62_131⟩, by rw [ht]; exact hP9, va_K.moved hW.alike hK9, hD9⟩, hS.F ht⟩) hS.2.2 dX13_wanted_1232
    · rw [if_neg (by decide)] at hsp
      have hr0 := Option.some.inj hsp
      clear hsp
      obtain ⟨hq0, hr1⟩ := Prod.mk.inj hr0
      clear hr0
      obtain ⟨hq1, hr2⟩ := Prod.mk.inj hr1
      clear hr1
      obtain ⟨hq2, hr3⟩ := Prod.mk.inj hr2
      clear hr2
      obtain ⟨hq3, hr4⟩ := Prod.mk.inj hr3
      clear hr3
      obtain ⟨hq4, hr5⟩ := Prod.mk.inj hr4
      clear hr4
      obtain ⟨hq5, hr6⟩ := Prod.mk.inj hr5
      clear hr5
      obtain ⟨hq6, hr7⟩ := Prod.mk.inj hr6
      clear hr6
      obtain ⟨hq7, hr8⟩ := Prod.mk.inj hr7
      clear hr7
      subst hq0
      subst hq1
      subst hq2
      subst hq3
      subst hq4
      subst hq5
      subst hq6
      subst hq7
      subst hr8
      have hP9 := hP.sub (ws' := [(h0, .inr (13, z_62)), (qf100, .inl (cf100, 48000, .inl f100)), (qf128, .inl (cf128, 31, .inl g128_1227)), (qf127, .inl (cf127, 30, .inl g127_1227)), (qf104, .inl (cf104, 8, .inl f104)), (qf102, .inl (cf102, 2048, .inl f102)), (qf118, .inl (cf118, 2100, .inl g118_1227)), (qf119, .inl (cf119, 2100, .inl g119_1227)), (qf105, .inl (cf105, 8, .inl f105)), (qf137, .inl (cf137, 6, .inl g137_1227))]) [8, 0, 9, 1, 2, 3, 4, 5, 6, 7] rfl
      have hD9 := hD.sub (ws' := [(h0, .inr (13, z_62)), (qf100, .inl (cf100, 48000, .inl f100)), (qf128, .inl (cf128, 31, .inl g128_1227)), (qf127, .inl (cf127, 30, .inl g127_1227)), (qf104, .inl (cf104, 8, .inl f104)), (qf102, .inl (cf102, 2048, .inl f102)), (qf118, .inl (cf118, 2100, .inl g118_1227)), (qf119, .inl (cf119, 2100, .inl g119_1227)), (qf105, .inl (cf105, 8, .inl f105)), (qf137, .inl (cf137, 6, .inl g137_1227))]) [8, 0, 9, 1, 2, 3, 4, 5, 6, 7] (by decide) rfl
      have hK9 := hK.sub (tys' := [(cf100, .int), (cf128, .int), (cf127, .int), (cf104, .int), (cf102, .int), (cf118, .int), (cf119, .int), (cf105, .int), (cf137, .int)]) [0, 8, 1, 2, 3, 4, 5, 6, 7] rfl
      exact W.zret hx hb hr (by decide) (fun t ht hW => ⟨⟨(1), (z_62), rfl, ⟨⟨rfl, Or.inr rfl⟩, hln_62, hrq_62, hfk_62_117, hfk_62_120, hch_62_131⟩, by rw [ht]; exact hP9, va_K.moved hW.alike hK9, hD9⟩, hS.F ht⟩) hS.2.2 dX13_wanted_1232
  intro hj_1227
  refine jn_use (α := Heap × List Loc × Array Slot × List Value × (Nat → Int32) × (Nat → Int32) × (Nat → Int32) × (Nat → Int32) × (Nat → Int32) × Int32 × Int32 × Int32) (fun x9 => x9.1) (fun x9 => x9.2.1) (fun x9 => F0 m 1183 x9.2.2.1 []) (fun x9 => match x9 with | (H, locs, ls, z1183, g118_1183, g119_1183, g127_1183, g128_1183, g137_1183, x117_1183, x120_1183, x131_1183) => lv_has ls 5 [(0, .ref h0)] ∧ va_S A s.heap H locs ∧ va_D A [(h0, .inr (13, z1183)), (qf100, .inl (cf100, 48000, .inl f100)), (qf128, .inl (cf128, 31, .inl g128_1183)), (qf127, .inl (cf127, 30, .inl g127_1183)), (qf104, .inl (cf104, 8, .inl f104)), (qf102, .inl (cf102, 2048, .inl f102)), (qf118, .inl (cf118, 2100, .inl g118_1183)), (qf119, .inl (cf119, 2100, .inl g119_1183)), (qf105, .inl (cf105, 8, .inl f105)), (qf137, .inl (cf137, 6, .inl g137_1183))] ∧ va_P (dC, dI) vwCl [(h0, .inr (13, z1183)), (qf100, .inl (cf100, 48000, .inl f100)), (qf128, .inl (cf128, 31, .inl g128_1183)), (qf127, .inl (cf127, 30, .inl g127_1183)), (qf104, .inl (cf104, 8, .inl f104)), (qf102, .inl (cf102, 2048, .inl f102)), (qf118, .inl (cf118, 2100, .inl g118_1183)), (qf119, .inl (cf119, 2100, .inl g119_1183)), (qf105, .inl (cf105, 8, .inl f105)), (qf137, .inl (cf137, 6, .inl g137_1183))] H ∧ z1183[98]? = some (.int v98) ∧ z1183[100]? = some (.ref qf100) ∧ z1183[102]? = some (.ref qf102) ∧ z1183[104]? = some (.ref qf104) ∧ z1183[105]? = some (.ref qf105) ∧ z1183[117]? = some (.int x117_1183) ∧ z1183[118]? = some (.ref qf118) ∧ z1183[119]? = some (.ref qf119) ∧ z1183[120]? = some (.int x120_1183) ∧ z1183[127]? = some (.ref qf127) ∧ z1183[128]? = some (.ref qf128) ∧ z1183[129]? = some (.int v129) ∧ z1183[130]? = some (.int v130) ∧ z1183[131]? = some (.int x131_1183) ∧ z1183[132]? = some (.int v132) ∧ z1183[134]? = some (.int v134) ∧ z1183[136]? = some (.int v136) ∧ z1183[137]? = some (.ref qf137) ∧ z1183.length = 155 ∧ (∀ j : Nat, j ≠ 117 → j ≠ 120 → j ≠ 131 → z1183[j]? = zs[j]?) ∧ jn_vm_wanted_1183 nf a1 v98 v117 v120 v129 v130 v131 v132 v134 v136 f100 f128 f127 f104 f102 f118 f119 f105 f137 nS477 fS477 g118_1183 g119_1183 g127_1183 g128_1183 g137_1183 x117_1183 x120_1183 x131_1183 = some (r0, o118, o119, o127, o128, o137, w117, w120, w131)) ?_ ?_
  · intro x9 hJ9
    obtain ⟨H, locs, ls, z1183, g118_1183, g119_1183, g127_1183, g128_1183, g137_1183, x117_1183, x120_1183, x131_1183⟩ := x9
    obtain ⟨hl, hS, hD, hP, hfh_1183_98, hfh_1183_100, hfh_1183_102, hfh_1183_104, hfh_1183_105, hfh_1183_117, hfh_1183_118, hfh_1183_119, hfh_1183_120, hfh_1183_127, hfh_1183_128, hfh_1183_129, hfh_1183_130, hfh_1183_131, hfh_1183_132, hfh_1183_134, hfh_1183_136, hfh_1183_137, hlh_1183, hrh_1183, hsp⟩ := hJ9
    replace hl : lv_has ls 5 [(0, .ref h0)] := hl
    replace hS : va_S A s.heap H locs := hS
    replace hD : va_D A [(h0, .inr (13, z1183)), (qf100, .inl (cf100, 48000, .inl f100)), (qf128, .inl (cf128, 31, .inl g128_1183)), (qf127, .inl (cf127, 30, .inl g127_1183)), (qf104, .inl (cf104, 8, .inl f104)), (qf102, .inl (cf102, 2048, .inl f102)), (qf118, .inl (cf118, 2100, .inl g118_1183)), (qf119, .inl (cf119, 2100, .inl g119_1183)), (qf105, .inl (cf105, 8, .inl f105)), (qf137, .inl (cf137, 6, .inl g137_1183))] := hD
    replace hP : va_P (dC, dI) vwCl [(h0, .inr (13, z1183)), (qf100, .inl (cf100, 48000, .inl f100)), (qf128, .inl (cf128, 31, .inl g128_1183)), (qf127, .inl (cf127, 30, .inl g127_1183)), (qf104, .inl (cf104, 8, .inl f104)), (qf102, .inl (cf102, 2048, .inl f102)), (qf118, .inl (cf118, 2100, .inl g118_1183)), (qf119, .inl (cf119, 2100, .inl g119_1183)), (qf105, .inl (cf105, 8, .inl f105)), (qf137, .inl (cf137, 6, .inl g137_1183))] H := hP
    replace hsp : jn_vm_wanted_1183 nf a1 v98 v117 v120 v129 v130 v131 v132 v134 v136 f100 f128 f127 f104 f102 f118 f119 f105 f137 nS477 fS477 g118_1183 g119_1183 g127_1183 g128_1183 g137_1183 x117_1183 x120_1183 x131_1183 = some (r0, o118, o119, o127, o128, o137, w117, w120, w131) := hsp
    show W _ _ _ _ _ _ _ _ _ _ H locs _ _ _ (F0 m 1183 ls [])
    unfold jn_vm_wanted_1183 at hsp
    try dsimp only at hsp
    refine lv_aload_n hx hb dX13_wanted_1183 rfl (lv_at hl 0 rfl) ?_
    refine lv_iconst (v := 2) hx hb dX13_wanted_1184 (by decide) ?_
    obtain ⟨⟨u60_0, u60_1⟩, hu_60, hsp⟩ := ox_bind hsp
    try dsimp only at hsp
    have hPc := hP.sub (ws' := [(h0, .inr (13, z1183)), (qf128, .inl (cf128, 31, .inl g128_1183))]) [0, 2] rfl
    have hDc := hD.sub (ws' := [(h0, .inr (13, z1183)), (qf128, .inl (cf128, 31, .inl g128_1183))]) [0, 2] (by decide) rfl
    have hKc := hK.sub (tys' := [(cf128, .int)]) [1] rfl
    have hFc := va_free (wc := [(h0, .inr (13, z1183)), (qf128, .inl (cf128, 31, .inl g128_1183))]) hD hS hA [0, 2] rfl
    refine va_calli (va_runV (As := [.int 2]) (rest := []) ⟨hx, hb, hml, hown, hts⟩ (tn_pullInts l dC dI H.size h0 z1183 2 qf128 x131_1183 cf128 g128_1183 nf u60_0 u60_1 hlh_1183 hfh_1183_128 hfh_1183_131 hu_60) (cwV 1 hts gv_h9_70 rfl rfl rfl (by decide +kernel) ⟨Nat.le_of_ble_eq_true rfl, Nat.le_of_ble_eq_true rfl⟩) ⟨fun a U g mk q => by obtain ⟨q0, q1, qP, qK, qD⟩ := q; exact ⟨q0, q1, qP, va_K.moved (u := U) (U := U.calling g mk a) (Vm.Alike.refl U.vm) qK, qD⟩, va_recv hKc hPc (ci := 13) (q0 := 0) rfl rfl, fun U hU hW => ⟨rfl, by rw [hU], by rw [hU]; exact hPc, va_K.moved hW.alike hKc, hDc.weaken (fun _ _ _ _ => trivial)⟩⟩ rfl rfl hl.1 rfl (lv_room (Nat.le_of_ble_eq_true rfl)) dX13_wanted_1185 ⟨Nat.le_of_ble_eq_true rfl, Nat.le_of_ble_eq_true rfl⟩) hS (fun q _ h => hFc q h) hFc ?_
    clear hS
    intro r_354 u t H1 locs ht hvm hw hB hz1 hk1 hS
    obtain ⟨z_60, rfl⟩ : ∃ z, z = u := ⟨_, rfl⟩
    obtain ⟨hP1, hK1, hD1⟩ := hB
    rw [ht] at hP1
    have hK1 := va_K.moved hvm.symm hK1
    try dsimp only at hw
    have hPD := va_join (wr := [(qf100, .inl (cf100, 48000, .inl f100)), (qf127, .inl (cf127, 30, .inl g127_1183)), (qf104, .inl (cf104, 8, .inl f104)), (qf102, .inl (cf102, 2048, .inl f102)), (qf118, .inl (cf118, 2100, .inl g118_1183)), (qf119, .inl (cf119, 2100, .inl g119_1183)), (qf105, .inl (cf105, 8, .inl f105)), (qf137, .inl (cf137, 6, .inl g137_1183))]) (w1 := [(h0, .inr (13, z_60)), (qf128, .inl (cf128, 31, .inl g128_1183))]) hP hD [0, 2] [1, 3, 4, 5, 6, 7, 8, 9] rfl rfl (by decide) (by decide) hk1 hFc hP1 hD1
    clear hP hD
    obtain ⟨hP, hD⟩ := hPD
    replace hK := (hK.sub (tys' := [(cf100, .int), (cf127, .int), (cf104, .int), (cf102, .int), (cf118, .int), (cf119, .int), (cf105, .int), (cf137, .int)]) [0, 2, 3, 4, 5, 6, 7, 8] rfl).app hK1
    clear hPc hDc hKc hFc hP1 hK1 hD1 hz1 hk1 ht hvm
    generalize H1 = H at hP hS ⊢
    replace hP : va_P (dC, dI) vwCl [(qf100, .inl (cf100, 48000, .inl f100)), (qf127, .inl (cf127, 30, .inl g127_1183)), (qf104, .inl (cf104, 8, .inl f104)), (qf102, .inl (cf102, 2048, .inl f102)), (qf118, .inl (cf118, 2100, .inl g118_1183)), (qf119, .inl (cf119, 2100, .inl g119_1183)), (qf105, .inl (cf105, 8, .inl f105)), (qf137, .inl (cf137, 6, .inl g137_1183)), (h0, .inr (13, z_60)), (qf128, .inl (cf128, 31, .inl g128_1183))] H := hP
    replace hD : va_D A [(qf100, .inl (cf100, 48000, .inl f100)), (qf127, .inl (cf127, 30, .inl g127_1183)), (qf104, .inl (cf104, 8, .inl f104)), (qf102, .inl (cf102, 2048, .inl f102)), (qf118, .inl (cf118, 2100, .inl g118_1183)), (qf119, .inl (cf119, 2100, .inl g119_1183)), (qf105, .inl (cf105, 8, .inl f105)), (qf137, .inl (cf137, 6, .inl g137_1183)), (h0, .inr (13, z_60)), (qf128, .inl (cf128, 31, .inl g128_1183))] := hD
    replace hK : va_K (dC, dI) vwCl [(cf100, .int), (cf127, .int), (cf104, .int), (cf102, .int), (cf118, .int), (cf119, .int), (cf105, .int), (cf137, .int), (cf128, .int)] s := hK
    obtain ⟨hwa_60, hln_60, hre_60, hch_60_131⟩ := hw
    have hfk_60_98 : z_60[98]? = some (.int v98) := (hre_60 98 (by decide)).trans (hfh_1183_98)
    have hfk_60_100 : z_60[100]? = some (.ref qf100) := (hre_60 100 (by decide)).trans (hfh_1183_100)
    have hfk_60_102 : z_60[102]? = some (.ref qf102) := (hre_60 102 (by decide)).trans (hfh_1183_102)
    have hfk_60_104 : z_60[104]? = some (.ref qf104) := (hre_60 104 (by decide)).trans (hfh_1183_104)
    have hfk_60_105 : z_60[105]? = some (.ref qf105) := (hre_60 105 (by decide)).trans (hfh_1183_105)
    have hfk_60_117 : z_60[117]? = some (.int x117_1183) := (hre_60 117 (by decide)).trans (hfh_1183_117)
    have hfk_60_118 : z_60[118]? = some (.ref qf118) := (hre_60 118 (by decide)).trans (hfh_1183_118)
    have hfk_60_119 : z_60[119]? = some (.ref qf119) := (hre_60 119 (by decide)).trans (hfh_1183_119)
    have hfk_60_120 : z_60[120]? = some (.int x120_1183) := (hre_60 120 (by decide)).trans (hfh_1183_120)
    have hfk_60_127 : z_60[127]? = some (.ref qf127) := (hre_60 127 (by decide)).trans (hfh_1183_127)
    have hfk_60_128 : z_60[128]? = some (.ref qf128) := (hre_60 128 (by decide)).trans (hfh_1183_128)
    have hfk_60_129 : z_60[129]? = some (.int v129) := (hre_60 129 (by decide)).trans (hfh_1183_129)
    have hfk_60_130 : z_60[130]? = some (.int v130) := (hre_60 130 (by decide)).trans (hfh_1183_130)
    have hfk_60_132 : z_60[132]? = some (.int v132) := (hre_60 132 (by decide)).trans (hfh_1183_132)
    have hfk_60_134 : z_60[134]? = some (.int v134) := (hre_60 134 (by decide)).trans (hfh_1183_134)
    have hfk_60_136 : z_60[136]? = some (.int v136) := (hre_60 136 (by decide)).trans (hfh_1183_136)
    have hfk_60_137 : z_60[137]? = some (.ref qf137) := (hre_60 137 (by decide)).trans (hfh_1183_137)
    have hrq_60 : ∀ j : Nat, j ≠ 117 → j ≠ 120 → j ≠ 131 → z_60[j]? = zs[j]? := fun j g117 g120 g131 => (hre_60 j g131).trans (hrh_1183 j g117 g120 g131)
    obtain ⟨rfl, hz_60⟩ := hwa_60
    rcases hz_60 with rfl | rfl
    · rw [if_pos rfl] at hsp
      refine lv_if_eq (tgt := 1203) hx hb dX13_wanted_1188 (by decide) (fun c_355 => ?_) (fun c_355 => (show False by revert c_355; decide).elim)
      refine lv_iconst (v := 0) hx hb dX13_wanted_1203 (by decide) ?_
      have hr0 := Option.some.inj hsp
      clear hsp
      obtain ⟨hq0, hr1⟩ := Prod.mk.inj hr0
      clear hr0
      obtain ⟨hq1, hr2⟩ := Prod.mk.inj hr1
      clear hr1
      obtain ⟨hq2, hr3⟩ := Prod.mk.inj hr2
      clear hr2
      obtain ⟨hq3, hr4⟩ := Prod.mk.inj hr3
      clear hr3
      obtain ⟨hq4, hr5⟩ := Prod.mk.inj hr4
      clear hr4
      obtain ⟨hq5, hr6⟩ := Prod.mk.inj hr5
      clear hr5
      obtain ⟨hq6, hr7⟩ := Prod.mk.inj hr6
      clear hr6
      obtain ⟨hq7, hr8⟩ := Prod.mk.inj hr7
      clear hr7
      subst hq0
      subst hq1
      subst hq2
      subst hq3
      subst hq4
      subst hq5
      subst hq6
      subst hq7
      subst hr8
      have hP9 := hP.sub (ws' := [(h0, .inr (13, z_60)), (qf100, .inl (cf100, 48000, .inl f100)), (qf128, .inl (cf128, 31, .inl g128_1183)), (qf127, .inl (cf127, 30, .inl g127_1183)), (qf104, .inl (cf104, 8, .inl f104)), (qf102, .inl (cf102, 2048, .inl f102)), (qf118, .inl (cf118, 2100, .inl g118_1183)), (qf119, .inl (cf119, 2100, .inl g119_1183)), (qf105, .inl (cf105, 8, .inl f105)), (qf137, .inl (cf137, 6, .inl g137_1183))]) [8, 0, 9, 1, 2, 3, 4, 5, 6, 7] rfl
      have hD9 := hD.sub (ws' := [(h0, .inr (13, z_60)), (qf100, .inl (cf100, 48000, .inl f100)), (qf128, .inl (cf128, 31, .inl g128_1183)), (qf127, .inl (cf127, 30, .inl g127_1183)), (qf104, .inl (cf104, 8, .inl f104)), (qf102, .inl (cf102, 2048, .inl f102)), (qf118, .inl (cf118, 2100, .inl g118_1183)), (qf119, .inl (cf119, 2100, .inl g119_1183)), (qf105, .inl (cf105, 8, .inl f105)), (qf137, .inl (cf137, 6, .inl g137_1183))]) [8, 0, 9, 1, 2, 3, 4, 5, 6, 7] (by decide) rfl
      have hK9 := hK.sub (tys' := [(cf100, .int), (cf128, .int), (cf127, .int), (cf104, .int), (cf102, .int), (cf118, .int), (cf119, .int), (cf105, .int), (cf137, .int)]) [0, 8, 1, 2, 3, 4, 5, 6, 7] rfl
      exact W.zret hx hb hr (by decide) (fun t ht hW => ⟨⟨(0), (z_60), rfl, ⟨⟨rfl, Or.inl rfl⟩, hln_60, hrq_60, hfk_60_117, hfk_60_120, hch_60_131⟩, by rw [ht]; exact hP9, va_K.moved hW.alike hK9, hD9⟩, hS.F ht⟩) hS.2.2 dX13_wanted_1204
    · rw [if_neg (by decide)] at hsp
      refine lv_if_eq (tgt := 1203) hx hb dX13_wanted_1188 (by decide) (fun c_356 => (show False by revert c_356; decide).elim) (fun c_356 => ?_)
      refine lv_aload_n hx hb dX13_wanted_1191 rfl (lv_at hl 0 rfl) ?_
      refine lv_iconst (v := 1) hx hb dX13_wanted_1192 (by decide) ?_
      obtain ⟨⟨u61_0, g961_1, u61_2⟩, hu_61, hsp⟩ := ox_bind hsp
      try dsimp only at hsp
      have hPc := hP.sub (ws' := [(h0, .inr (13, z_60)), (qf128, .inl (cf128, 31, .inl g128_1183))]) [8, 9] rfl
      have hDc := hD.sub (ws' := [(h0, .inr (13, z_60)), (qf128, .inl (cf128, 31, .inl g128_1183))]) [8, 9] (by decide) rfl
      have hKc := hK.sub (tys' := [(cf128, .int)]) [8] rfl
      have hFc := va_free (wc := [(h0, .inr (13, z_60)), (qf128, .inl (cf128, 31, .inl g128_1183))]) hD hS hA [8, 9] rfl
      refine va_calli (va_runV (As := [.int 1]) (rest := []) ⟨hx, hb, hml, hown, hts⟩ (tm_comesBack l dC dI H.size h0 z_60 1 qf128 v130 u60_1 cf128 g128_1183 nf u61_0 g961_1 u61_2 hln_60 hfk_60_128 hfk_60_130 hch_60_131 hu_61) (cwV 1 hts gv_h9_69 rfl rfl rfl (by decide +kernel) ⟨Nat.le_of_ble_eq_true rfl, Nat.le_of_ble_eq_true rfl⟩) ⟨fun a U g mk q => by obtain ⟨q0, q1, qP, qK, qD⟩ := q; exact ⟨q0, q1, qP, va_K.moved (u := U) (U := U.calling g mk a) (Vm.Alike.refl U.vm) qK, qD⟩, va_recv hKc hPc (ci := 13) (q0 := 0) rfl rfl, fun U hU hW => ⟨rfl, by rw [hU], by rw [hU]; exact hPc, va_K.moved hW.alike hKc, hDc.weaken (fun _ _ _ _ => trivial)⟩⟩ rfl rfl hl.1 rfl (lv_room (Nat.le_of_ble_eq_true rfl)) dX13_wanted_1193 ⟨Nat.le_of_ble_eq_true rfl, Nat.le_of_ble_eq_true rfl⟩) hS (fun q _ h => hFc q h) hFc ?_
      clear hS
      intro r_357 u t H1 locs ht hvm hw hB hz1 hk1 hS
      obtain ⟨z_61, rfl⟩ : ∃ z, z = u := ⟨_, rfl⟩
      obtain ⟨hP1, hK1, hD1⟩ := hB
      rw [ht] at hP1
      have hK1 := va_K.moved hvm.symm hK1
      try dsimp only at hw
      have hPD := va_join (wr := [(qf100, .inl (cf100, 48000, .inl f100)), (qf127, .inl (cf127, 30, .inl g127_1183)), (qf104, .inl (cf104, 8, .inl f104)), (qf102, .inl (cf102, 2048, .inl f102)), (qf118, .inl (cf118, 2100, .inl g118_1183)), (qf119, .inl (cf119, 2100, .inl g119_1183)), (qf105, .inl (cf105, 8, .inl f105)), (qf137, .inl (cf137, 6, .inl g137_1183))]) (w1 := [(h0, .inr (13, z_61)), (qf128, .inl (cf128, 31, .inl g961_1))]) hP hD [8, 9] [0, 1, 2, 3, 4, 5, 6, 7] rfl rfl (by decide) (by decide) hk1 hFc hP1 hD1
      clear hP hD
      obtain ⟨hP, hD⟩ := hPD
      replace hK := (hK.sub (tys' := [(cf100, .int), (cf127, .int), (cf104, .int), (cf102, .int), (cf118, .int), (cf119, .int), (cf105, .int), (cf137, .int)]) [0, 1, 2, 3, 4, 5, 6, 7] rfl).app hK1
      clear hPc hDc hKc hFc hP1 hK1 hD1 hz1 hk1 ht hvm
      generalize H1 = H at hP hS ⊢
      replace hP : va_P (dC, dI) vwCl [(qf100, .inl (cf100, 48000, .inl f100)), (qf127, .inl (cf127, 30, .inl g127_1183)), (qf104, .inl (cf104, 8, .inl f104)), (qf102, .inl (cf102, 2048, .inl f102)), (qf118, .inl (cf118, 2100, .inl g118_1183)), (qf119, .inl (cf119, 2100, .inl g119_1183)), (qf105, .inl (cf105, 8, .inl f105)), (qf137, .inl (cf137, 6, .inl g137_1183)), (h0, .inr (13, z_61)), (qf128, .inl (cf128, 31, .inl g961_1))] H := hP
      replace hD : va_D A [(qf100, .inl (cf100, 48000, .inl f100)), (qf127, .inl (cf127, 30, .inl g127_1183)), (qf104, .inl (cf104, 8, .inl f104)), (qf102, .inl (cf102, 2048, .inl f102)), (qf118, .inl (cf118, 2100, .inl g118_1183)), (qf119, .inl (cf119, 2100, .inl g119_1183)), (qf105, .inl (cf105, 8, .inl f105)), (qf137, .inl (cf137, 6, .inl g137_1183)), (h0, .inr (13, z_61)), (qf128, .inl (cf128, 31, .inl g961_1))] := hD
      replace hK : va_K (dC, dI) vwCl [(cf100, .int), (cf127, .int), (cf104, .int), (cf102, .int), (cf118, .int), (cf119, .int), (cf105, .int), (cf137, .int), (cf128, .int)] s := hK
      obtain ⟨hwa_61, hln_61, hre_61, hch_61_131⟩ := hw
      have hfk_61_98 : z_61[98]? = some (.int v98) := (hre_61 98 (by decide)).trans (hfk_60_98)
      have hfk_61_100 : z_61[100]? = some (.ref qf100) := (hre_61 100 (by decide)).trans (hfk_60_100)
      have hfk_61_102 : z_61[102]? = some (.ref qf102) := (hre_61 102 (by decide)).trans (hfk_60_102)
      have hfk_61_104 : z_61[104]? = some (.ref qf104) := (hre_61 104 (by decide)).trans (hfk_60_104)
      have hfk_61_105 : z_61[105]? = some (.ref qf105) := (hre_61 105 (by decide)).trans (hfk_60_105)
      have hfk_61_117 : z_61[117]? = some (.int x117_1183) := (hre_61 117 (by decide)).trans (hfk_60_117)
      have hfk_61_118 : z_61[118]? = some (.ref qf118) := (hre_61 118 (by decide)).trans (hfk_60_118)
      have hfk_61_119 : z_61[119]? = some (.ref qf119) := (hre_61 119 (by decide)).trans (hfk_60_119)
      have hfk_61_120 : z_61[120]? = some (.int x120_1183) := (hre_61 120 (by decide)).trans (hfk_60_120)
      have hfk_61_127 : z_61[127]? = some (.ref qf127) := (hre_61 127 (by decide)).trans (hfk_60_127)
      have hfk_61_128 : z_61[128]? = some (.ref qf128) := (hre_61 128 (by decide)).trans (hfk_60_128)
      have hfk_61_129 : z_61[129]? = some (.int v129) := (hre_61 129 (by decide)).trans (hfk_60_129)
      have hfk_61_130 : z_61[130]? = some (.int v130) := (hre_61 130 (by decide)).trans (hfk_60_130)
      have hfk_61_132 : z_61[132]? = some (.int v132) := (hre_61 132 (by decide)).trans (hfk_60_132)
      have hfk_61_134 : z_61[134]? = some (.int v134) := (hre_61 134 (by decide)).trans (hfk_60_134)
      have hfk_61_136 : z_61[136]? = some (.int v136) := (hre_61 136 (by decide)).trans (hfk_60_136)
      have hfk_61_137 : z_61[137]? = some (.ref qf137) := (hre_61 137 (by decide)).trans (hfk_60_137)
      have hrq_61 : ∀ j : Nat, j ≠ 117 → j ≠ 120 → j ≠ 131 → z_61[j]? = zs[j]? := fun j g117 g120 g131 => (hre_61 j g131).trans (hrq_60 j g117 g120 g131)
      obtain ⟨rfl, hz_61⟩ := hwa_61
      rcases hz_61 with rfl | rfl
      · rw [if_pos rfl] at hsp
        refine lv_if_eq (tgt := 1203) hx hb dX13_wanted_1196 (by decide) (fun c_358 => ?_) (fun c_358 => (show False by revert c_358; decide).elim)
        refine lv_iconst (v := 0) hx hb dX13_wanted_1203 (by decide) ?_
        have hr0 := Option.some.inj hsp
        clear hsp
        obtain ⟨hq0, hr1⟩ := Prod.mk.inj hr0
        clear hr0
        obtain ⟨hq1, hr2⟩ := Prod.mk.inj hr1
        clear hr1
        obtain ⟨hq2, hr3⟩ := Prod.mk.inj hr2
        clear hr2
        obtain ⟨hq3, hr4⟩ := Prod.mk.inj hr3
        clear hr3
        obtain ⟨hq4, hr5⟩ := Prod.mk.inj hr4
        clear hr4
        obtain ⟨hq5, hr6⟩ := Prod.mk.inj hr5
        clear hr5
        obtain ⟨hq6, hr7⟩ := Prod.mk.inj hr6
        clear hr6
        obtain ⟨hq7, hr8⟩ := Prod.mk.inj hr7
        clear hr7
        subst hq0
        subst hq1
        subst hq2
        subst hq3
        subst hq4
        subst hq5
        subst hq6
        subst hq7
        subst hr8
        have hP9 := hP.sub (ws' := [(h0, .inr (13, z_61)), (qf100, .inl (cf100, 48000, .inl f100)), (qf128, .inl (cf128, 31, .inl g961_1)), (qf127, .inl (cf127, 30, .inl g127_1183)), (qf104, .inl (cf104, 8, .inl f104)), (qf102, .inl (cf102, 2048, .inl f102)), (qf118, .inl (cf118, 2100, .inl g118_1183)), (qf119, .inl (cf119, 2100, .inl g119_1183)), (qf105, .inl (cf105, 8, .inl f105)), (qf137, .inl (cf137, 6, .inl g137_1183))]) [8, 0, 9, 1, 2, 3, 4, 5, 6, 7] rfl
        have hD9 := hD.sub (ws' := [(h0, .inr (13, z_61)), (qf100, .inl (cf100, 48000, .inl f100)), (qf128, .inl (cf128, 31, .inl g961_1)), (qf127, .inl (cf127, 30, .inl g127_1183)), (qf104, .inl (cf104, 8, .inl f104)), (qf102, .inl (cf102, 2048, .inl f102)), (qf118, .inl (cf118, 2100, .inl g118_1183)), (qf119, .inl (cf119, 2100, .inl g119_1183)), (qf105, .inl (cf105, 8, .inl f105)), (qf137, .inl (cf137, 6, .inl g137_1183))]) [8, 0, 9, 1, 2, 3, 4, 5, 6, 7] (by decide) rfl
        have hK9 := hK.sub (tys' := [(cf100, .int), (cf128, .int), (cf127, .int), (cf104, .int), (cf102, .int), (cf118, .int), (cf119, .int), (cf105, .int), (cf137, .int)]) [0, 8, 1, 2, 3, 4, 5, 6, 7] rfl
        exact W.zret hx hb hr (by decide) (fun t ht hW => ⟨⟨(0), (z_61), rfl, ⟨⟨rfl, Or.inl rfl⟩, hln_61, hrq_61, hfk_61_117, hfk_61_120, hch_61_131⟩, by rw [ht]; exact hP9, va_K.moved hW.alike hK9, hD9⟩, hS.F ht⟩) hS.2.2 dX13_wanted_1204
      · rw [if_neg (by decide)] at hsp
        refine lv_if_eq (tgt := 1203) hx hb dX13_wanted_1196 (by decide) (fun c_359 => (show False by revert c_359; decide).elim) (fun c_359 => ?_)
        refine lv_iconst (v := 1) hx hb dX13_wanted_1199 (by decide) ?_
        refine lv_goto (tgt := 1204) hx hb dX13_wanted_1200 (by decide) ?_
        have hr0 := Option.some.inj hsp
        clear hsp
        obtain ⟨hq0, hr1⟩ := Prod.mk.inj hr0
        clear hr0
        obtain ⟨hq1, hr2⟩ := Prod.mk.inj hr1
        clear hr1
        obtain ⟨hq2, hr3⟩ := Prod.mk.inj hr2
        clear hr2
        obtain ⟨hq3, hr4⟩ := Prod.mk.inj hr3
        clear hr3
        obtain ⟨hq4, hr5⟩ := Prod.mk.inj hr4
        clear hr4
        obtain ⟨hq5, hr6⟩ := Prod.mk.inj hr5
        clear hr5
        obtain ⟨hq6, hr7⟩ := Prod.mk.inj hr6
        clear hr6
        obtain ⟨hq7, hr8⟩ := Prod.mk.inj hr7
        clear hr7
        subst hq0
        subst hq1
        subst hq2
        subst hq3
        subst hq4
        subst hq5
        subst hq6
        subst hq7
        subst hr8
        have hP9 := hP.sub (ws' := [(h0, .inr (13, z_61)), (qf100, .inl (cf100, 48000, .inl f100)), (qf128, .inl (cf128, 31, .inl g961_1)), (qf127, .inl (cf127, 30, .inl g127_1183)), (qf104, .inl (cf104, 8, .inl f104)), (qf102, .inl (cf102, 2048, .inl f102)), (qf118, .inl (cf118, 2100, .inl g118_1183)), (qf119, .inl (cf119, 2100, .inl g119_1183)), (qf105, .inl (cf105, 8, .inl f105)), (qf137, .inl (cf137, 6, .inl g137_1183))]) [8, 0, 9, 1, 2, 3, 4, 5, 6, 7] rfl
        have hD9 := hD.sub (ws' := [(h0, .inr (13, z_61)), (qf100, .inl (cf100, 48000, .inl f100)), (qf128, .inl (cf128, 31, .inl g961_1)), (qf127, .inl (cf127, 30, .inl g127_1183)), (qf104, .inl (cf104, 8, .inl f104)), (qf102, .inl (cf102, 2048, .inl f102)), (qf118, .inl (cf118, 2100, .inl g118_1183)), (qf119, .inl (cf119, 2100, .inl g119_1183)), (qf105, .inl (cf105, 8, .inl f105)), (qf137, .inl (cf137, 6, .inl g137_1183))]) [8, 0, 9, 1, 2, 3, 4, 5, 6, 7] (by decide) rfl
        have hK9 := hK.sub (tys' := [(cf100, .int), (cf128, .int), (cf127, .int), (cf104, .int), (cf102, .int), (cf118, .int), (cf119, .int), (cf105, .int), (cf137, .int)]) [0, 8, 1, 2, 3, 4, 5, 6, 7] rfl
        exact W.zret hx hb hr (by decide) (fun t ht hW => ⟨⟨(1), (z_61), rfl, ⟨⟨rfl, Or.inr rfl⟩, hln_61, hrq_61, hfk_61_117, hfk_61_120, hch_61_131⟩, by rw [ht]; exact hP9, va_K.moved hW.alike hK9, hD9⟩, hS.F ht⟩) hS.2.2 dX13_wanted_1204
  intro hj_1183
  refine jn_use (α := Heap × List Loc × Array Slot × List Value × (Nat → Int32) × (Nat → Int32) × (Nat → Int32) × (Nat → Int32) × (Nat → Int32) × Int32 × Int32 × Int32) (fun x9 => x9.1) (fun x9 => x9.2.1) (fun x9 => F0 m 820 x9.2.2.1 []) (fun x9 => match x9 with | (H, locs, ls, z820, g118_820, g119_820, g127_820, g128_820, g137_820, x117_820, x120_820, x131_820) => lv_has ls 5 [(0, .ref h0)] ∧ va_S A s.heap H locs ∧ va_D A [(h0, .inr (13, z820)), (qf100, .inl (cf100, 48000, .inl f100)), (qf128, .inl (cf128, 31, .inl g128_820)), (qf127, .inl (cf127, 30, .inl g127_820)), (qf104, .inl (cf104, 8, .inl f104)), (qf102, .inl (cf102, 2048, .inl f102)), (qf118, .inl (cf118, 2100, .inl g118_820)), (qf119, .inl (cf119, 2100, .inl g119_820)), (qf105, .inl (cf105, 8, .inl f105)), (qf137, .inl (cf137, 6, .inl g137_820))] ∧ va_P (dC, dI) vwCl [(h0, .inr (13, z820)), (qf100, .inl (cf100, 48000, .inl f100)), (qf128, .inl (cf128, 31, .inl g128_820)), (qf127, .inl (cf127, 30, .inl g127_820)), (qf104, .inl (cf104, 8, .inl f104)), (qf102, .inl (cf102, 2048, .inl f102)), (qf118, .inl (cf118, 2100, .inl g118_820)), (qf119, .inl (cf119, 2100, .inl g119_820)), (qf105, .inl (cf105, 8, .inl f105)), (qf137, .inl (cf137, 6, .inl g137_820))] H ∧ z820[98]? = some (.int v98) ∧ z820[100]? = some (.ref qf100) ∧ z820[102]? = some (.ref qf102) ∧ z820[104]? = some (.ref qf104) ∧ z820[105]? = some (.ref qf105) ∧ z820[117]? = some (.int x117_820) ∧ z820[118]? = some (.ref qf118) ∧ z820[119]? = some (.ref qf119) ∧ z820[120]? = some (.int x120_820) ∧ z820[127]? = some (.ref qf127) ∧ z820[128]? = some (.ref qf128) ∧ z820[129]? = some (.int v129) ∧ z820[130]? = some (.int v130) ∧ z820[131]? = some (.int x131_820) ∧ z820[132]? = some (.int v132) ∧ z820[134]? = some (.int v134) ∧ z820[136]? = some (.int v136) ∧ z820[137]? = some (.ref qf137) ∧ z820.length = 155 ∧ (∀ j : Nat, j ≠ 117 → j ≠ 120 → j ≠ 131 → z820[j]? = zs[j]?) ∧ jn_vm_wanted_820 nf a1 v98 v117 v120 v129 v130 v131 v132 v134 v136 f100 f128 f127 f104 f102 f118 f119 f105 f137 nS477 fS477 g118_820 g119_820 g127_820 g128_820 g137_820 x117_820 x120_820 x131_820 = some (r0, o118, o119, o127, o128, o137, w117, w120, w131)) ?_ ?_
  · intro x9 hJ9
    obtain ⟨H, locs, ls, z820, g118_820, g119_820, g127_820, g128_820, g137_820, x117_820, x120_820, x131_820⟩ := x9
    obtain ⟨hl, hS, hD, hP, hfh_820_98, hfh_820_100, hfh_820_102, hfh_820_104, hfh_820_105, hfh_820_117, hfh_820_118, hfh_820_119, hfh_820_120, hfh_820_127, hfh_820_128, hfh_820_129, hfh_820_130, hfh_820_131, hfh_820_132, hfh_820_134, hfh_820_136, hfh_820_137, hlh_820, hrh_820, hsp⟩ := hJ9
    replace hl : lv_has ls 5 [(0, .ref h0)] := hl
    replace hS : va_S A s.heap H locs := hS
    replace hD : va_D A [(h0, .inr (13, z820)), (qf100, .inl (cf100, 48000, .inl f100)), (qf128, .inl (cf128, 31, .inl g128_820)), (qf127, .inl (cf127, 30, .inl g127_820)), (qf104, .inl (cf104, 8, .inl f104)), (qf102, .inl (cf102, 2048, .inl f102)), (qf118, .inl (cf118, 2100, .inl g118_820)), (qf119, .inl (cf119, 2100, .inl g119_820)), (qf105, .inl (cf105, 8, .inl f105)), (qf137, .inl (cf137, 6, .inl g137_820))] := hD
    replace hP : va_P (dC, dI) vwCl [(h0, .inr (13, z820)), (qf100, .inl (cf100, 48000, .inl f100)), (qf128, .inl (cf128, 31, .inl g128_820)), (qf127, .inl (cf127, 30, .inl g127_820)), (qf104, .inl (cf104, 8, .inl f104)), (qf102, .inl (cf102, 2048, .inl f102)), (qf118, .inl (cf118, 2100, .inl g118_820)), (qf119, .inl (cf119, 2100, .inl g119_820)), (qf105, .inl (cf105, 8, .inl f105)), (qf137, .inl (cf137, 6, .inl g137_820))] H := hP
    replace hsp : jn_vm_wanted_820 nf a1 v98 v117 v120 v129 v130 v131 v132 v134 v136 f100 f128 f127 f104 f102 f118 f119 f105 f137 nS477 fS477 g118_820 g119_820 g127_820 g128_820 g137_820 x117_820 x120_820 x131_820 = some (r0, o118, o119, o127, o128, o137, w117, w120, w131) := hsp
    show W _ _ _ _ _ _ _ _ _ _ H locs _ _ _ (F0 m 820 ls [])
    unfold jn_vm_wanted_820 at hsp
    try dsimp only at hsp
    refine lv_aload_n hx hb dX13_wanted_820 rfl (lv_at hl 0 rfl) ?_
    refine lv_iconst (v := 1) hx hb dX13_wanted_821 (by decide) ?_
    obtain ⟨⟨u59_0, g959_1, u59_2⟩, hu_59, hsp⟩ := ox_bind hsp
    try dsimp only at hsp
    have hPc := hP.sub (ws' := [(h0, .inr (13, z820)), (qf128, .inl (cf128, 31, .inl g128_820))]) [0, 2] rfl
    have hDc := hD.sub (ws' := [(h0, .inr (13, z820)), (qf128, .inl (cf128, 31, .inl g128_820))]) [0, 2] (by decide) rfl
    have hKc := hK.sub (tys' := [(cf128, .int)]) [1] rfl
    have hFc := va_free (wc := [(h0, .inr (13, z820)), (qf128, .inl (cf128, 31, .inl g128_820))]) hD hS hA [0, 2] rfl
    refine va_calli (va_runV (As := [.int 1]) (rest := []) ⟨hx, hb, hml, hown, hts⟩ (tm_comesBack l dC dI H.size h0 z820 1 qf128 v130 x131_820 cf128 g128_820 nf u59_0 g959_1 u59_2 hlh_820 hfh_820_128 hfh_820_130 hfh_820_131 hu_59) (cwV 1 hts gv_h9_69 rfl rfl rfl (by decide +kernel) ⟨Nat.le_of_ble_eq_true rfl, Nat.le_of_ble_eq_true rfl⟩) ⟨fun a U g mk q => by obtain ⟨q0, q1, qP, qK, qD⟩ := q; exact ⟨q0, q1, qP, va_K.moved (u := U) (U := U.calling g mk a) (Vm.Alike.refl U.vm) qK, qD⟩, va_recv hKc hPc (ci := 13) (q0 := 0) rfl rfl, fun U hU hW => ⟨rfl, by rw [hU], by rw [hU]; exact hPc, va_K.moved hW.alike hKc, hDc.weaken (fun _ _ _ _ => trivial)⟩⟩ rfl rfl hl.1 rfl (lv_room (Nat.le_of_ble_eq_true rfl)) dX13_wanted_822 ⟨Nat.le_of_ble_eq_true rfl, Nat.le_of_ble_eq_true rfl⟩) hS (fun q _ h => hFc q h) hFc ?_
    clear hS
    intro r_353 u t H1 locs ht hvm hw hB hz1 hk1 hS
    obtain ⟨z_59, rfl⟩ : ∃ z, z = u := ⟨_, rfl⟩
    obtain ⟨hP1, hK1, hD1⟩ := hB
    rw [ht] at hP1
    have hK1 := va_K.moved hvm.symm hK1
    try dsimp only at hw
    have hPD := va_join (wr := [(qf100, .inl (cf100, 48000, .inl f100)), (qf127, .inl (cf127, 30, .inl g127_820)), (qf104, .inl (cf104, 8, .inl f104)), (qf102, .inl (cf102, 2048, .inl f102)), (qf118, .inl (cf118, 2100, .inl g118_820)), (qf119, .inl (cf119, 2100, .inl g119_820)), (qf105, .inl (cf105, 8, .inl f105)), (qf137, .inl (cf137, 6, .inl g137_820))]) (w1 := [(h0, .inr (13, z_59)), (qf128, .inl (cf128, 31, .inl g959_1))]) hP hD [0, 2] [1, 3, 4, 5, 6, 7, 8, 9] rfl rfl (by decide) (by decide) hk1 hFc hP1 hD1
    clear hP hD
    obtain ⟨hP, hD⟩ := hPD
    replace hK := (hK.sub (tys' := [(cf100, .int), (cf127, .int), (cf104, .int), (cf102, .int), (cf118, .int), (cf119, .int), (cf105, .int), (cf137, .int)]) [0, 2, 3, 4, 5, 6, 7, 8] rfl).app hK1
    clear hPc hDc hKc hFc hP1 hK1 hD1 hz1 hk1 ht hvm
    generalize H1 = H at hP hS ⊢
    replace hP : va_P (dC, dI) vwCl [(qf100, .inl (cf100, 48000, .inl f100)), (qf127, .inl (cf127, 30, .inl g127_820)), (qf104, .inl (cf104, 8, .inl f104)), (qf102, .inl (cf102, 2048, .inl f102)), (qf118, .inl (cf118, 2100, .inl g118_820)), (qf119, .inl (cf119, 2100, .inl g119_820)), (qf105, .inl (cf105, 8, .inl f105)), (qf137, .inl (cf137, 6, .inl g137_820)), (h0, .inr (13, z_59)), (qf128, .inl (cf128, 31, .inl g959_1))] H := hP
    replace hD : va_D A [(qf100, .inl (cf100, 48000, .inl f100)), (qf127, .inl (cf127, 30, .inl g127_820)), (qf104, .inl (cf104, 8, .inl f104)), (qf102, .inl (cf102, 2048, .inl f102)), (qf118, .inl (cf118, 2100, .inl g118_820)), (qf119, .inl (cf119, 2100, .inl g119_820)), (qf105, .inl (cf105, 8, .inl f105)), (qf137, .inl (cf137, 6, .inl g137_820)), (h0, .inr (13, z_59)), (qf128, .inl (cf128, 31, .inl g959_1))] := hD
    replace hK : va_K (dC, dI) vwCl [(cf100, .int), (cf127, .int), (cf104, .int), (cf102, .int), (cf118, .int), (cf119, .int), (cf105, .int), (cf137, .int), (cf128, .int)] s := hK
    obtain ⟨hwa_59, hln_59, hre_59, hch_59_131⟩ := hw
    have hfk_59_98 : z_59[98]? = some (.int v98) := (hre_59 98 (by decide)).trans (hfh_820_98)
    have hfk_59_100 : z_59[100]? = some (.ref qf100) := (hre_59 100 (by decide)).trans (hfh_820_100)
    have hfk_59_102 : z_59[102]? = some (.ref qf102) := (hre_59 102 (by decide)).trans (hfh_820_102)
    have hfk_59_104 : z_59[104]? = some (.ref qf104) := (hre_59 104 (by decide)).trans (hfh_820_104)
    have hfk_59_105 : z_59[105]? = some (.ref qf105) := (hre_59 105 (by decide)).trans (hfh_820_105)
    have hfk_59_117 : z_59[117]? = some (.int x117_820) := (hre_59 117 (by decide)).trans (hfh_820_117)
    have hfk_59_118 : z_59[118]? = some (.ref qf118) := (hre_59 118 (by decide)).trans (hfh_820_118)
    have hfk_59_119 : z_59[119]? = some (.ref qf119) := (hre_59 119 (by decide)).trans (hfh_820_119)
    have hfk_59_120 : z_59[120]? = some (.int x120_820) := (hre_59 120 (by decide)).trans (hfh_820_120)
    have hfk_59_127 : z_59[127]? = some (.ref qf127) := (hre_59 127 (by decide)).trans (hfh_820_127)
    have hfk_59_128 : z_59[128]? = some (.ref qf128) := (hre_59 128 (by decide)).trans (hfh_820_128)
    have hfk_59_129 : z_59[129]? = some (.int v129) := (hre_59 129 (by decide)).trans (hfh_820_129)
    have hfk_59_130 : z_59[130]? = some (.int v130) := (hre_59 130 (by decide)).trans (hfh_820_130)
    have hfk_59_132 : z_59[132]? = some (.int v132) := (hre_59 132 (by decide)).trans (hfh_820_132)
    have hfk_59_134 : z_59[134]? = some (.int v134) := (hre_59 134 (by decide)).trans (hfh_820_134)
    have hfk_59_136 : z_59[136]? = some (.int v136) := (hre_59 136 (by decide)).trans (hfh_820_136)
    have hfk_59_137 : z_59[137]? = some (.ref qf137) := (hre_59 137 (by decide)).trans (hfh_820_137)
    have hrq_59 : ∀ j : Nat, j ≠ 117 → j ≠ 120 → j ≠ 131 → z_59[j]? = zs[j]? := fun j g117 g120 g131 => (hre_59 j g131).trans (hrh_820 j g117 g120 g131)
    obtain ⟨rfl, hz_59⟩ := hwa_59
    rcases hz_59 with rfl | rfl
    · rw [if_pos rfl] at hsp
      have hr0 := Option.some.inj hsp
      clear hsp
      obtain ⟨hq0, hr1⟩ := Prod.mk.inj hr0
      clear hr0
      obtain ⟨hq1, hr2⟩ := Prod.mk.inj hr1
      clear hr1
      obtain ⟨hq2, hr3⟩ := Prod.mk.inj hr2
      clear hr2
      obtain ⟨hq3, hr4⟩ := Prod.mk.inj hr3
      clear hr3
      obtain ⟨hq4, hr5⟩ := Prod.mk.inj hr4
      clear hr4
      obtain ⟨hq5, hr6⟩ := Prod.mk.inj hr5
      clear hr5
      obtain ⟨hq6, hr7⟩ := Prod.mk.inj hr6
      clear hr6
      obtain ⟨hq7, hr8⟩ := Prod.mk.inj hr7
      clear hr7
      subst hq0
      subst hq1
      subst hq2
      subst hq3
      subst hq4
      subst hq5
      subst hq6
      subst hq7
      subst hr8
      have hP9 := hP.sub (ws' := [(h0, .inr (13, z_59)), (qf100, .inl (cf100, 48000, .inl f100)), (qf128, .inl (cf128, 31, .inl g959_1)), (qf127, .inl (cf127, 30, .inl g127_820)), (qf104, .inl (cf104, 8, .inl f104)), (qf102, .inl (cf102, 2048, .inl f102)), (qf118, .inl (cf118, 2100, .inl g118_820)), (qf119, .inl (cf119, 2100, .inl g119_820)), (qf105, .inl (cf105, 8, .inl f105)), (qf137, .inl (cf137, 6, .inl g137_820))]) [8, 0, 9, 1, 2, 3, 4, 5, 6, 7] rfl
      have hD9 := hD.sub (ws' := [(h0, .inr (13, z_59)), (qf100, .inl (cf100, 48000, .inl f100)), (qf128, .inl (cf128, 31, .inl g959_1)), (qf127, .inl (cf127, 30, .inl g127_820)), (qf104, .inl (cf104, 8, .inl f104)), (qf102, .inl (cf102, 2048, .inl f102)), (qf118, .inl (cf118, 2100, .inl g118_820)), (qf119, .inl (cf119, 2100, .inl g119_820)), (qf105, .inl (cf105, 8, .inl f105)), (qf137, .inl (cf137, 6, .inl g137_820))]) [8, 0, 9, 1, 2, 3, 4, 5, 6, 7] (by decide) rfl
      have hK9 := hK.sub (tys' := [(cf100, .int), (cf128, .int), (cf127, .int), (cf104, .int), (cf102, .int), (cf118, .int), (cf119, .int), (cf105, .int), (cf137, .int)]) [0, 8, 1, 2, 3, 4, 5, 6, 7] rfl
      exact W.zret hx hb hr (by decide) (fun t ht hW => ⟨⟨(0), (z_59), rfl, ⟨⟨rfl, Or.inl rfl⟩, hln_59, hrq_59, hfk_59_117, hfk_59_120, hch_59_131⟩, by rw [ht]; exact hP9, va_K.moved hW.alike hK9, hD9⟩, hS.F ht⟩) hS.2.2 dX13_wanted_825
    · rw [if_neg (by decide)] at hsp
      have hr0 := Option.some.inj hsp
      clear hsp
      obtain ⟨hq0, hr1⟩ := Prod.mk.inj hr0
      clear hr0
      obtain ⟨hq1, hr2⟩ := Prod.mk.inj hr1
      clear hr1
      obtain ⟨hq2, hr3⟩ := Prod.mk.inj hr2
      clear hr2
      obtain ⟨hq3, hr4⟩ := Prod.mk.inj hr3
      clear hr3
      obtain ⟨hq4, hr5⟩ := Prod.mk.inj hr4
      clear hr4
      obtain ⟨hq5, hr6⟩ := Prod.mk.inj hr5
      clear hr5
      obtain ⟨hq6, hr7⟩ := Prod.mk.inj hr6
      clear hr6
      obtain ⟨hq7, hr8⟩ := Prod.mk.inj hr7
      clear hr7
      subst hq0
      subst hq1
      subst hq2
      subst hq3
      subst hq4
      subst hq5
      subst hq6
      subst hq7
      subst hr8
      have hP9 := hP.sub (ws' := [(h0, .inr (13, z_59)), (qf100, .inl (cf100, 48000, .inl f100)), (qf128, .inl (cf128, 31, .inl g959_1)), (qf127, .inl (cf127, 30, .inl g127_820)), (qf104, .inl (cf104, 8, .inl f104)), (qf102, .inl (cf102, 2048, .inl f102)), (qf118, .inl (cf118, 2100, .inl g118_820)), (qf119, .inl (cf119, 2100, .inl g119_820)), (qf105, .inl (cf105, 8, .inl f105)), (qf137, .inl (cf137, 6, .inl g137_820))]) [8, 0, 9, 1, 2, 3, 4, 5, 6, 7] rfl
      have hD9 := hD.sub (ws' := [(h0, .inr (13, z_59)), (qf100, .inl (cf100, 48000, .inl f100)), (qf128, .inl (cf128, 31, .inl g959_1)), (qf127, .inl (cf127, 30, .inl g127_820)), (qf104, .inl (cf104, 8, .inl f104)), (qf102, .inl (cf102, 2048, .inl f102)), (qf118, .inl (cf118, 2100, .inl g118_820)), (qf119, .inl (cf119, 2100, .inl g119_820)), (qf105, .inl (cf105, 8, .inl f105)), (qf137, .inl (cf137, 6, .inl g137_820))]) [8, 0, 9, 1, 2, 3, 4, 5, 6, 7] (by decide) rfl
      have hK9 := hK.sub (tys' := [(cf100, .int), (cf128, .int), (cf127, .int), (cf104, .int), (cf102, .int), (cf118, .int), (cf119, .int), (cf105, .int), (cf137, .int)]) [0, 8, 1, 2, 3, 4, 5, 6, 7] rfl
      exact W.zret hx hb hr (by decide) (fun t ht hW => ⟨⟨(1), (z_59), rfl, ⟨⟨rfl, Or.inr rfl⟩, hln_59, hrq_59, hfk_59_117, hfk_59_120, hch_59_131⟩, by rw [ht]; exact hP9, va_K.moved hW.alike hK9, hD9⟩, hS.F ht⟩) hS.2.2 dX13_wanted_825
  intro hj_820
  refine jn_use (α := Heap × List Loc × Array Slot × List Value × (Nat → Int32) × (Nat → Int32) × (Nat → Int32) × (Nat → Int32) × (Nat → Int32) × Int32 × Int32 × Int32) (fun x9 => x9.1) (fun x9 => x9.2.1) (fun x9 => F0 m 812 x9.2.2.1 []) (fun x9 => match x9 with | (H, locs, ls, z812, g118_812, g119_812, g127_812, g128_812, g137_812, x117_812, x120_812, x131_812) => lv_has ls 5 [] ∧ va_S A s.heap H locs ∧ va_D A [(h0, .inr (13, z812)), (qf100, .inl (cf100, 48000, .inl f100)), (qf128, .inl (cf128, 31, .inl g128_812)), (qf127, .inl (cf127, 30, .inl g127_812)), (qf104, .inl (cf104, 8, .inl f104)), (qf102, .inl (cf102, 2048, .inl f102)), (qf118, .inl (cf118, 2100, .inl g118_812)), (qf119, .inl (cf119, 2100, .inl g119_812)), (qf105, .inl (cf105, 8, .inl f105)), (qf137, .inl (cf137, 6, .inl g137_812))] ∧ va_P (dC, dI) vwCl [(h0, .inr (13, z812)), (qf100, .inl (cf100, 48000, .inl f100)), (qf128, .inl (cf128, 31, .inl g128_812)), (qf127, .inl (cf127, 30, .inl g127_812)), (qf104, .inl (cf104, 8, .inl f104)), (qf102, .inl (cf102, 2048, .inl f102)), (qf118, .inl (cf118, 2100, .inl g118_812)), (qf119, .inl (cf119, 2100, .inl g119_812)), (qf105, .inl (cf105, 8, .inl f105)), (qf137, .inl (cf137, 6, .inl g137_812))] H ∧ z812[98]? = some (.int v98) ∧ z812[100]? = some (.ref qf100) ∧ z812[102]? = some (.ref qf102) ∧ z812[104]? = some (.ref qf104) ∧ z812[105]? = some (.ref qf105) ∧ z812[117]? = some (.int x117_812) ∧ z812[118]? = some (.ref qf118) ∧ z812[119]? = some (.ref qf119) ∧ z812[120]? = some (.int x120_812) ∧ z812[127]? = some (.ref qf127) ∧ z812[128]? = some (.ref qf128) ∧ z812[129]? = some (.int v129) ∧ z812[130]? = some (.int v130) ∧ z812[131]? = some (.int x131_812) ∧ z812[132]? = some (.int v132) ∧ z812[134]? = some (.int v134) ∧ z812[136]? = some (.int v136) ∧ z812[137]? = some (.ref qf137) ∧ z812.length = 155 ∧ (∀ j : Nat, j ≠ 117 → j ≠ 120 → j ≠ 131 → z812[j]? = zs[j]?) ∧ jn_vm_wanted_812 nf a1 v98 v117 v120 v129 v130 v131 v132 v134 v136 f100 f128 f127 f104 f102 f118 f119 f105 f137 nS477 fS477 g118_812 g119_812 g127_812 g128_812 g137_812 x117_812 x120_812 x131_812 = some (r0, o118, o119, o127, o128, o137, w117, w120, w131)) ?_ ?_
  · intro x9 hJ9
    obtain ⟨H, locs, ls, z812, g118_812, g119_812, g127_812, g128_812, g137_812, x117_812, x120_812, x131_812⟩ := x9
    obtain ⟨hl, hS, hD, hP, hfh_812_98, hfh_812_100, hfh_812_102, hfh_812_104, hfh_812_105, hfh_812_117, hfh_812_118, hfh_812_119, hfh_812_120, hfh_812_127, hfh_812_128, hfh_812_129, hfh_812_130, hfh_812_131, hfh_812_132, hfh_812_134, hfh_812_136, hfh_812_137, hlh_812, hrh_812, hsp⟩ := hJ9
    replace hl : lv_has ls 5 [] := hl
    replace hS : va_S A s.heap H locs := hS
    replace hD : va_D A [(h0, .inr (13, z812)), (qf100, .inl (cf100, 48000, .inl f100)), (qf128, .inl (cf128, 31, .inl g128_812)), (qf127, .inl (cf127, 30, .inl g127_812)), (qf104, .inl (cf104, 8, .inl f104)), (qf102, .inl (cf102, 2048, .inl f102)), (qf118, .inl (cf118, 2100, .inl g118_812)), (qf119, .inl (cf119, 2100, .inl g119_812)), (qf105, .inl (cf105, 8, .inl f105)), (qf137, .inl (cf137, 6, .inl g137_812))] := hD
    replace hP : va_P (dC, dI) vwCl [(h0, .inr (13, z812)), (qf100, .inl (cf100, 48000, .inl f100)), (qf128, .inl (cf128, 31, .inl g128_812)), (qf127, .inl (cf127, 30, .inl g127_812)), (qf104, .inl (cf104, 8, .inl f104)), (qf102, .inl (cf102, 2048, .inl f102)), (qf118, .inl (cf118, 2100, .inl g118_812)), (qf119, .inl (cf119, 2100, .inl g119_812)), (qf105, .inl (cf105, 8, .inl f105)), (qf137, .inl (cf137, 6, .inl g137_812))] H := hP
    replace hsp : jn_vm_wanted_812 nf a1 v98 v117 v120 v129 v130 v131 v132 v134 v136 f100 f128 f127 f104 f102 f118 f119 f105 f137 nS477 fS477 g118_812 g119_812 g127_812 g128_812 g137_812 x117_812 x120_812 x131_812 = some (r0, o118, o119, o127, o128, o137, w117, w120, w131) := hsp
    show W _ _ _ _ _ _ _ _ _ _ H locs _ _ _ (F0 m 812 ls [])
    unfold jn_vm_wanted_812 at hsp
    try dsimp only at hsp
    refine lv_iconst (v := 1) hx hb dX13_wanted_812 (by decide) ?_
    have hr0 := Option.some.inj hsp
    clear hsp
    obtain ⟨hq0, hr1⟩ := Prod.mk.inj hr0
    clear hr0
    obtain ⟨hq1, hr2⟩ := Prod.mk.inj hr1
    clear hr1
    obtain ⟨hq2, hr3⟩ := Prod.mk.inj hr2
    clear hr2
    obtain ⟨hq3, hr4⟩ := Prod.mk.inj hr3
    clear hr3
    obtain ⟨hq4, hr5⟩ := Prod.mk.inj hr4
    clear hr4
    obtain ⟨hq5, hr6⟩ := Prod.mk.inj hr5
    clear hr5
    obtain ⟨hq6, hr7⟩ := Prod.mk.inj hr6
    clear hr6
    obtain ⟨hq7, hr8⟩ := Prod.mk.inj hr7
    clear hr7
    subst hq0
    subst hq1
    subst hq2
    subst hq3
    subst hq4
    subst hq5
    subst hq6
    subst hq7
    subst hr8
    have hP9 := hP.sub (ws' := [(h0, .inr (13, z812)), (qf100, .inl (cf100, 48000, .inl f100)), (qf128, .inl (cf128, 31, .inl g128_812)), (qf127, .inl (cf127, 30, .inl g127_812)), (qf104, .inl (cf104, 8, .inl f104)), (qf102, .inl (cf102, 2048, .inl f102)), (qf118, .inl (cf118, 2100, .inl g118_812)), (qf119, .inl (cf119, 2100, .inl g119_812)), (qf105, .inl (cf105, 8, .inl f105)), (qf137, .inl (cf137, 6, .inl g137_812))]) [0, 1, 2, 3, 4, 5, 6, 7, 8, 9] rfl
    have hD9 := hD.sub (ws' := [(h0, .inr (13, z812)), (qf100, .inl (cf100, 48000, .inl f100)), (qf128, .inl (cf128, 31, .inl g128_812)), (qf127, .inl (cf127, 30, .inl g127_812)), (qf104, .inl (cf104, 8, .inl f104)), (qf102, .inl (cf102, 2048, .inl f102)), (qf118, .inl (cf118, 2100, .inl g118_812)), (qf119, .inl (cf119, 2100, .inl g119_812)), (qf105, .inl (cf105, 8, .inl f105)), (qf137, .inl (cf137, 6, .inl g137_812))]) [0, 1, 2, 3, 4, 5, 6, 7, 8, 9] (by decide) rfl
    have hK9 := hK.sub (tys' := [(cf100, .int), (cf128, .int), (cf127, .int), (cf104, .int), (cf102, .int), (cf118, .int), (cf119, .int), (cf105, .int), (cf137, .int)]) [0, 1, 2, 3, 4, 5, 6, 7, 8] rfl
    exact W.zret hx hb hr (by decide) (fun t ht hW => ⟨⟨(1), (z812), rfl, ⟨⟨rfl, Or.inr rfl⟩, hlh_812, hrh_812, hfh_812_117, hfh_812_120, hfh_812_131⟩, by rw [ht]; exact hP9, va_K.moved hW.alike hK9, hD9⟩, hS.F ht⟩) hS.2.2 dX13_wanted_813
  intro hj_812
  refine jn_use (α := Heap × List Loc × Array Slot × List Value × Int32 × Int32 × (Nat → Int32) × (Nat → Int32) × (Nat → Int32) × (Nat → Int32) × (Nat → Int32) × Int32 × Int32 × Int32) (fun x9 => x9.1) (fun x9 => x9.2.1) (fun x9 => F0 m 25 x9.2.2.1 [.int (x9.2.2.2.2.2.1)]) (fun x9 => match x9 with | (H, locs, ls, z25, l2_25, s0_25, g118_25, g119_25, g127_25, g128_25, g137_25, x117_25, x120_25, x131_25) => lv_has ls 5 [(0, .ref h0), (2, .int l2_25)] ∧ va_S A s.heap H locs ∧ va_D A [(h0, .inr (13, z25)), (qf100, .inl (cf100, 48000, .inl f100)), (qf128, .inl (cf128, 31, .inl g128_25)), (qf127, .inl (cf127, 30, .inl g127_25)), (qf104, .inl (cf104, 8, .inl f104)), (qf102, .inl (cf102, 2048, .inl f102)), (qf118, .inl (cf118, 2100, .inl g118_25)), (qf119, .inl (cf119, 2100, .inl g119_25)), (qf105, .inl (cf105, 8, .inl f105)), (qf137, .inl (cf137, 6, .inl g137_25))] ∧ va_P (dC, dI) vwCl [(h0, .inr (13, z25)), (qf100, .inl (cf100, 48000, .inl f100)), (qf128, .inl (cf128, 31, .inl g128_25)), (qf127, .inl (cf127, 30, .inl g127_25)), (qf104, .inl (cf104, 8, .inl f104)), (qf102, .inl (cf102, 2048, .inl f102)), (qf118, .inl (cf118, 2100, .inl g118_25)), (qf119, .inl (cf119, 2100, .inl g119_25)), (qf105, .inl (cf105, 8, .inl f105)), (qf137, .inl (cf137, 6, .inl g137_25))] H ∧ z25[98]? = some (.int v98) ∧ z25[100]? = some (.ref qf100) ∧ z25[102]? = some (.ref qf102) ∧ z25[104]? = some (.ref qf104) ∧ z25[105]? = some (.ref qf105) ∧ z25[117]? = some (.int x117_25) ∧ z25[118]? = some (.ref qf118) ∧ z25[119]? = some (.ref qf119) ∧ z25[120]? = some (.int x120_25) ∧ z25[127]? = some (.ref qf127) ∧ z25[128]? = some (.ref qf128) ∧ z25[129]? = some (.int v129) ∧ z25[130]? = some (.int v130) ∧ z25[131]? = some (.int x131_25) ∧ z25[132]? = some (.int v132) ∧ z25[134]? = some (.int v134) ∧ z25[136]? = some (.int v136) ∧ z25[137]? = some (.ref qf137) ∧ z25.length = 155 ∧ (∀ j : Nat, j ≠ 117 → j ≠ 120 → j ≠ 131 → z25[j]? = zs[j]?) ∧ jn_vm_wanted_25 nf a1 v98 v117 v120 v129 v130 v131 v132 v134 v136 f100 f128 f127 f104 f102 f118 f119 f105 f137 nS477 fS477 l2_25 s0_25 g118_25 g119_25 g127_25 g128_25 g137_25 x117_25 x120_25 x131_25 = some (r0, o118, o119, o127, o128, o137, w117, w120, w131)) ?_ ?_
  · intro x9 hJ9
    obtain ⟨H, locs, ls, z25, l2_25, s0_25, g118_25, g119_25, g127_25, g128_25, g137_25, x117_25, x120_25, x131_25⟩ := x9
    obtain ⟨hl, hS, hD, hP, hfh_25_98, hfh_25_100, hfh_25_102, hfh_25_104, hfh_25_105, hfh_25_117, hfh_25_118, hfh_25_119, hfh_25_120, hfh_25_127, hfh_25_128, hfh_25_129, hfh_25_130, hfh_25_131, hfh_25_132, hfh_25_134, hfh_25_136, hfh_25_137, hlh_25, hrh_25, hsp⟩ := hJ9
    replace hl : lv_has ls 5 [(0, .ref h0), (2, .int l2_25)] := hl
    replace hS : va_S A s.heap H locs := hS
    replace hD : va_D A [(h0, .inr (13, z25)), (qf100, .inl (cf100, 48000, .inl f100)), (qf128, .inl (cf128, 31, .inl g128_25)), (qf127, .inl (cf127, 30, .inl g127_25)), (qf104, .inl (cf104, 8, .inl f104)), (qf102, .inl (cf102, 2048, .inl f102)), (qf118, .inl (cf118, 2100, .inl g118_25)), (qf119, .inl (cf119, 2100, .inl g119_25)), (qf105, .inl (cf105, 8, .inl f105)), (qf137, .inl (cf137, 6, .inl g137_25))] := hD
    replace hP : va_P (dC, dI) vwCl [(h0, .inr (13, z25)), (qf100, .inl (cf100, 48000, .inl f100)), (qf128, .inl (cf128, 31, .inl g128_25)), (qf127, .inl (cf127, 30, .inl g127_25)), (qf104, .inl (cf104, 8, .inl f104)), (qf102, .inl (cf102, 2048, .inl f102)), (qf118, .inl (cf118, 2100, .inl g118_25)), (qf119, .inl (cf119, 2100, .inl g119_25)), (qf105, .inl (cf105, 8, .inl f105)), (qf137, .inl (cf137, 6, .inl g137_25))] H := hP
    replace hsp : jn_vm_wanted_25 nf a1 v98 v117 v120 v129 v130 v131 v132 v134 v136 f100 f128 f127 f104 f102 f118 f119 f105 f137 nS477 fS477 l2_25 s0_25 g118_25 g119_25 g127_25 g128_25 g137_25 x117_25 x120_25 x131_25 = some (r0, o118, o119, o127, o128, o137, w117, w120, w131) := hsp
    show W _ _ _ _ _ _ _ _ _ _ H locs _ _ _ (F0 m 25 ls [.int s0_25])
    unfold jn_vm_wanted_25 at hsp
    try dsimp only at hsp
    refine lv_istore_n (lv' := [(3, .int s0_25), (0, .ref h0), (2, .int l2_25)]) hx hb dX13_wanted_25 rfl hl (by decide) rfl (fun ls hl => ?_)
    refine lv_iload_n hx hb dX13_wanted_26 rfl (lv_at hl 2 rfl) ?_
    by_cases hs_5 : l2_25 = 0
    · rw [if_pos hs_5] at hsp
      refine lv_tableIn (tgt := 812) hx hb dX13_wanted_27 (by rw [hs_5]; decide) (by rw [hs_5]; decide) (off := 785) (by rw [hs_5]; rfl) (by decide) ?_
      exact hj_812 (H, locs, ls, z25, g118_25, g119_25, g127_25, g128_25, g137_25, x117_25, x120_25, x131_25) ⟨lv_sub hl [] rfl, hS, hD.sub (ws' := [(h0, .inr (13, z25)), (qf100, .inl (cf100, 48000, .inl f100)), (qf128, .inl (cf128, 31, .inl g128_25)), (qf127, .inl (cf127, 30, .inl g127_25)), (qf104, .inl (cf104, 8, .inl f104)), (qf102, .inl (cf102, 2048, .inl f102)), (qf118, .inl (cf118, 2100, .inl g118_25)), (qf119, .inl (cf119, 2100, .inl g119_25)), (qf105, .inl (cf105, 8, .inl f105)), (qf137, .inl (cf137, 6, .inl g137_25))]) [0, 1, 2, 3, 4, 5, 6, 7, 8, 9] (by decide) rfl, hP.sub (ws' := [(h0, .inr (13, z25)), (qf100, .inl (cf100, 48000, .inl f100)), (qf128, .inl (cf128, 31, .inl g128_25)), (qf127, .inl (cf127, 30, .inl g127_25)), (qf104, .inl (cf104, 8, .inl f104)), (qf102, .inl (cf102, 2048, .inl f102)), (qf118, .inl (cf118, 2100, .inl g118_25)), (qf119, .inl (cf119, 2100, .inl g119_25)), (qf105, .inl (cf105, 8, .inl f105)), (qf137, .inl (cf137, 6, .inl g137_25))]) [0, 1, 2, 3, 4, 5, 6, 7, 8, 9] rfl, hfh_25_98, hfh_25_100, hfh_25_102, hfh_25_104, hfh_25_105, hfh_25_117, hfh_25_118, hfh_25_119, hfh_25_120, hfh_25_127, hfh_25_128, hfh_25_129, hfh_25_130, hfh_25_131, hfh_25_132, hfh_25_134, hfh_25_136, hfh_25_137, hlh_25, hrh_25, hsp⟩
    rw [if_neg hs_5] at hsp
    by_cases hs_6 : l2_25 = 1
    · rw [if_pos hs_6] at hsp
      refine lv_tableIn (tgt := 814) hx hb dX13_wanted_27 (by rw [hs_6]; decide) (by rw [hs_6]; decide) (off := 787) (by rw [hs_6]; rfl) (by decide) ?_
      refine lv_aload_n hx hb dX13_wanted_814 rfl (lv_at hl 1 rfl) ?_
      refine lv_iconst (v := 2) hx hb dX13_wanted_815 (by decide) ?_
      obtain ⟨⟨u4_0, g904_1, u4_2⟩, hu_4, hsp⟩ := ox_bind hsp
      try dsimp only at hsp
      have hPc := hP.sub (ws' := [(h0, .inr (13, z25)), (qf128, .inl (cf128, 31, .inl g128_25))]) [0, 2] rfl
      have hDc := hD.sub (ws' := [(h0, .inr (13, z25)), (qf128, .inl (cf128, 31, .inl g128_25))]) [0, 2] (by decide) rfl
      have hKc := hK.sub (tys' := [(cf128, .int)]) [1] rfl
      have hFc := va_free (wc := [(h0, .inr (13, z25)), (qf128, .inl (cf128, 31, .inl g128_25))]) hD hS hA [0, 2] rfl
      refine va_calli (va_runV (As := [.int 2]) (rest := []) ⟨hx, hb, hml, hown, hts⟩ (tm_comesBack l dC dI H.size h0 z25 2 qf128 v130 x131_25 cf128 g128_25 nf u4_0 g904_1 u4_2 hlh_25 hfh_25_128 hfh_25_130 hfh_25_131 hu_4) (cwV 1 hts gv_h9_69 rfl rfl rfl (by decide +kernel) ⟨Nat.le_of_ble_eq_true rfl, Nat.le_of_ble_eq_true rfl⟩) ⟨fun a U g mk q => by obtain ⟨q0, q1, qP, qK, qD⟩ := q; exact ⟨q0, q1, qP, va_K.moved (u := U) (U := U.calling g mk a) (Vm.Alike.refl U.vm) qK, qD⟩, va_recv hKc hPc (ci := 13) (q0 := 0) rfl rfl, fun U hU hW => ⟨rfl, by rw [hU], by rw [hU]; exact hPc, va_K.moved hW.alike hKc, hDc.weaken (fun _ _ _ _ => trivial)⟩⟩ rfl rfl hl.1 rfl (lv_room (Nat.le_of_ble_eq_true rfl)) dX13_wanted_816 ⟨Nat.le_of_ble_eq_true rfl, Nat.le_of_ble_eq_true rfl⟩) hS (fun q _ h => hFc q h) hFc ?_
      clear hS
      intro r_7 u t H1 locs ht hvm hw hB hz1 hk1 hS
      obtain ⟨z_4, rfl⟩ : ∃ z, z = u := ⟨_, rfl⟩
      obtain ⟨hP1, hK1, hD1⟩ := hB
      rw [ht] at hP1
      have hK1 := va_K.moved hvm.symm hK1
      try dsimp only at hw
      have hPD := va_join (wr := [(qf100, .inl (cf100, 48000, .inl f100)), (qf127, .inl (cf127, 30, .inl g127_25)), (qf104, .inl (cf104, 8, .inl f104)), (qf102, .inl (cf102, 2048, .inl f102)), (qf118, .inl (cf118, 2100, .inl g118_25)), (qf119, .inl (cf119, 2100, .inl g119_25)), (qf105, .inl (cf105, 8, .inl f105)), (qf137, .inl (cf137, 6, .inl g137_25))]) (w1 := [(h0, .inr (13, z_4)), (qf128, .inl (cf128, 31, .inl g904_1))]) hP hD [0, 2] [1, 3, 4, 5, 6, 7, 8, 9] rfl rfl (by decide) (by decide) hk1 hFc hP1 hD1
      clear hP hD
      obtain ⟨hP, hD⟩ := hPD
      replace hK := (hK.sub (tys' := [(cf100, .int), (cf127, .int), (cf104, .int), (cf102, .int), (cf118, .int), (cf119, .int), (cf105, .int), (cf137, .int)]) [0, 2, 3, 4, 5, 6, 7, 8] rfl).app hK1
      clear hPc hDc hKc hFc hP1 hK1 hD1 hz1 hk1 ht hvm
      generalize H1 = H at hP hS ⊢
      replace hP : va_P (dC, dI) vwCl [(qf100, .inl (cf100, 48000, .inl f100)), (qf127, .inl (cf127, 30, .inl g127_25)), (qf104, .inl (cf104, 8, .inl f104)), (qf102, .inl (cf102, 2048, .inl f102)), (qf118, .inl (cf118, 2100, .inl g118_25)), (qf119, .inl (cf119, 2100, .inl g119_25)), (qf105, .inl (cf105, 8, .inl f105)), (qf137, .inl (cf137, 6, .inl g137_25)), (h0, .inr (13, z_4)), (qf128, .inl (cf128, 31, .inl g904_1))] H := hP
      replace hD : va_D A [(qf100, .inl (cf100, 48000, .inl f100)), (qf127, .inl (cf127, 30, .inl g127_25)), (qf104, .inl (cf104, 8, .inl f104)), (qf102, .inl (cf102, 2048, .inl f102)), (qf118, .inl (cf118, 2100, .inl g118_25)), (qf119, .inl (cf119, 2100, .inl g119_25)), (qf105, .inl (cf105, 8, .inl f105)), (qf137, .inl (cf137, 6, .inl g137_25)), (h0, .inr (13, z_4)), (qf128, .inl (cf128, 31, .inl g904_1))] := hD
      replace hK : va_K (dC, dI) vwCl [(cf100, .int), (cf127, .int), (cf104, .int), (cf102, .int), (cf118, .int), (cf119, .int), (cf105, .int), (cf137, .int), (cf128, .int)] s := hK
      obtain ⟨hwa_4, hln_4, hre_4, hch_4_131⟩ := hw
      have hfk_4_98 : z_4[98]? = some (.int v98) := (hre_4 98 (by decide)).trans (hfh_25_98)
      have hfk_4_100 : z_4[100]? = some (.ref qf100) := (hre_4 100 (by decide)).trans (hfh_25_100)
      have hfk_4_102 : z_4[102]? = some (.ref qf102) := (hre_4 102 (by decide)).trans (hfh_25_102)
      have hfk_4_104 : z_4[104]? = some (.ref qf104) := (hre_4 104 (by decide)).trans (hfh_25_104)
      have hfk_4_105 : z_4[105]? = some (.ref qf105) := (hre_4 105 (by decide)).trans (hfh_25_105)
      have hfk_4_117 : z_4[117]? = some (.int x117_25) := (hre_4 117 (by decide)).trans (hfh_25_117)
      have hfk_4_118 : z_4[118]? = some (.ref qf118) := (hre_4 118 (by decide)).trans (hfh_25_118)
      have hfk_4_119 : z_4[119]? = some (.ref qf119) := (hre_4 119 (by decide)).trans (hfh_25_119)
      have hfk_4_120 : z_4[120]? = some (.int x120_25) := (hre_4 120 (by decide)).trans (hfh_25_120)
      have hfk_4_127 : z_4[127]? = some (.ref qf127) := (hre_4 127 (by decide)).trans (hfh_25_127)
      have hfk_4_128 : z_4[128]? = some (.ref qf128) := (hre_4 128 (by decide)).trans (hfh_25_128)
      have hfk_4_129 : z_4[129]? = some (.int v129) := (hre_4 129 (by decide)).trans (hfh_25_129)
      have hfk_4_130 : z_4[130]? = some (.int v130) := (hre_4 130 (by decide)).trans (hfh_25_130)
      have hfk_4_132 : z_4[132]? = some (.int v132) := (hre_4 132 (by decide)).trans (hfh_25_132)
      have hfk_4_134 : z_4[134]? = some (.int v134) := (hre_4 134 (by decide)).trans (hfh_25_134)
      have hfk_4_136 : z_4[136]? = some (.int v136) := (hre_4 136 (by decide)).trans (hfh_25_136)
      have hfk_4_137 : z_4[137]? = some (.ref qf137) := (hre_4 137 (by decide)).trans (hfh_25_137)
      have hrq_4 : ∀ j : Nat, j ≠ 117 → j ≠ 120 → j ≠ 131 → z_4[j]? = zs[j]? := fun j g117 g120 g131 => (hre_4 j g131).trans (hrh_25 j g117 g120 g131)
      obtain ⟨rfl, hz_4⟩ := hwa_4
      rcases hz_4 with rfl | rfl
      · rw [if_pos rfl] at hsp
        have hr0 := Option.some.inj hsp
        clear hsp
        obtain ⟨hq0, hr1⟩ := Prod.mk.inj hr0
        clear hr0
        obtain ⟨hq1, hr2⟩ := Prod.mk.inj hr1
        clear hr1
        obtain ⟨hq2, hr3⟩ := Prod.mk.inj hr2
        clear hr2
        obtain ⟨hq3, hr4⟩ := Prod.mk.inj hr3
        clear hr3
        obtain ⟨hq4, hr5⟩ := Prod.mk.inj hr4
        clear hr4
        obtain ⟨hq5, hr6⟩ := Prod.mk.inj hr5
        clear hr5
        obtain ⟨hq6, hr7⟩ := Prod.mk.inj hr6
        clear hr6
        obtain ⟨hq7, hr8⟩ := Prod.mk.inj hr7
        clear hr7
        subst hq0
        subst hq1
        subst hq2
        subst hq3
        subst hq4
        subst hq5
        subst hq6
        subst hq7
        subst hr8
        have hP9 := hP.sub (ws' := [(h0, .inr (13, z_4)), (qf100, .inl (cf100, 48000, .inl f100)), (qf128, .inl (cf128, 31, .inl g904_1)), (qf127, .inl (cf127, 30, .inl g127_25)), (qf104, .inl (cf104, 8, .inl f104)), (qf102, .inl (cf102, 2048, .inl f102)), (qf118, .inl (cf118, 2100, .inl g118_25)), (qf119, .inl (cf119, 2100, .inl g119_25)), (qf105, .inl (cf105, 8, .inl f105)), (qf137, .inl (cf137, 6, .inl g137_25))]) [8, 0, 9, 1, 2, 3, 4, 5, 6, 7] rfl
        have hD9 := hD.sub (ws' := [(h0, .inr (13, z_4)), (qf100, .inl (cf100, 48000, .inl f100)), (qf128, .inl (cf128, 31, .inl g904_1)), (qf127, .inl (cf127, 30, .inl g127_25)), (qf104, .inl (cf104, 8, .inl f104)), (qf102, .inl (cf102, 2048, .inl f102)), (qf118, .inl (cf118, 2100, .inl g118_25)), (qf119, .inl (cf119, 2100, .inl g119_25)), (qf105, .inl (cf105, 8, .inl f105)), (qf137, .inl (cf137, 6, .inl g137_25))]) [8, 0, 9, 1, 2, 3, 4, 5, 6, 7] (by decide) rfl
        have hK9 := hK.sub (tys' := [(cf100, .int), (cf128, .int), (cf127, .int), (cf104, .int), (cf102, .int), (cf118, .int), (cf119, .int), (cf105, .int), (cf137, .int)]) [0, 8, 1, 2, 3, 4, 5, 6, 7] rfl
        exact W.zret hx hb hr (by decide) (fun t ht hW => ⟨⟨(0), (z_4), rfl, ⟨⟨rfl, Or.inl rfl⟩, hln_4, hrq_4, hfk_4_117, hfk_4_120, hch_4_131⟩, by rw [ht]; exact hP9, va_K.moved hW.alike hK9, hD9⟩, hS.F ht⟩) hS.2.2 dX13_wanted_819
      · rw [if_neg (by decide)] at hsp
        have hr0 := Option.some.inj hsp
        clear hsp
        obtain ⟨hq0, hr1⟩ := Prod.mk.inj hr0
        clear hr0
        obtain ⟨hq1, hr2⟩ := Prod.mk.inj hr1
        clear hr1
        obtain ⟨hq2, hr3⟩ := Prod.mk.inj hr2
        clear hr2
        obtain ⟨hq3, hr4⟩ := Prod.mk.inj hr3
        clear hr3
        obtain ⟨hq4, hr5⟩ := Prod.mk.inj hr4
        clear hr4
        obtain ⟨hq5, hr6⟩ := Prod.mk.inj hr5
        clear hr5
        obtain ⟨hq6, hr7⟩ := Prod.mk.inj hr6
        clear hr6
        obtain ⟨hq7, hr8⟩ := Prod.mk.inj hr7
        clear hr7
        subst hq0
        subst hq1
        subst hq2
        subst hq3
        subst hq4
        subst hq5
        subst hq6
        subst hq7
        subst hr8
        have hP9 := hP.sub (ws' := [(h0, .inr (13, z_4)), (qf100, .inl (cf100, 48000, .inl f100)), (qf128, .inl (cf128, 31, .inl g904_1)), (qf127, .inl (cf127, 30, .inl g127_25)), (qf104, .inl (cf104, 8, .inl f104)), (qf102, .inl (cf102, 2048, .inl f102)), (qf118, .inl (cf118, 2100, .inl g118_25)), (qf119, .inl (cf119, 2100, .inl g119_25)), (qf105, .inl (cf105, 8, .inl f105)), (qf137, .inl (cf137, 6, .inl g137_25))]) [8, 0, 9, 1, 2, 3, 4, 5, 6, 7] rfl
        have hD9 := hD.sub (ws' := [(h0, .inr (13, z_4)), (qf100, .inl (cf100, 48000, .inl f100)), (qf128, .inl (cf128, 31, .inl g904_1)), (qf127, .inl (cf127, 30, .inl g127_25)), (qf104, .inl (cf104, 8, .inl f104)), (qf102, .inl (cf102, 2048, .inl f102)), (qf118, .inl (cf118, 2100, .inl g118_25)), (qf119, .inl (cf119, 2100, .inl g119_25)), (qf105, .inl (cf105, 8, .inl f105)), (qf137, .inl (cf137, 6, .inl g137_25))]) [8, 0, 9, 1, 2, 3, 4, 5, 6, 7] (by decide) rfl
        have hK9 := hK.sub (tys' := [(cf100, .int), (cf128, .int), (cf127, .int), (cf104, .int), (cf102, .int), (cf118, .int), (cf119, .int), (cf105, .int), (cf137, .int)]) [0, 8, 1, 2, 3, 4, 5, 6, 7] rfl
        exact W.zret hx hb hr (by decide) (fun t ht hW => ⟨⟨(1), (z_4), rfl, ⟨⟨rfl, Or.inr rfl⟩, hln_4, hrq_4, hfk_4_117, hfk_4_120, hch_4_131⟩, by rw [ht]; exact hP9, va_K.moved hW.alike hK9, hD9⟩, hS.F ht⟩) hS.2.2 dX13_wanted_819
    rw [if_neg hs_6] at hsp
    by_cases hs_8 : l2_25 = 2
    · rw [if_pos hs_8] at hsp
      refine lv_tableIn (tgt := 820) hx hb dX13_wanted_27 (by rw [hs_8]; decide) (by rw [hs_8]; decide) (off := 793) (by rw [hs_8]; rfl) (by decide) ?_
      exact hj_820 (H, locs, ls, z25, g118_25, g119_25, g127_25, g128_25, g137_25, x117_25, x120_25, x131_25) ⟨lv_sub hl [1] rfl, hS, hD.sub (ws' := [(h0, .inr (13, z25)), (qf100, .inl (cf100, 48000, .inl f100)), (qf128, .inl (cf128, 31, .inl g128_25)), (qf127, .inl (cf127, 30, .inl g127_25)), (qf104, .inl (cf104, 8, .inl f104)), (qf102, .inl (cf102, 2048, .inl f102)), (qf118, .inl (cf118, 2100, .inl g118_25)), (qf119, .inl (cf119, 2100, .inl g119_25)), (qf105, .inl (cf105, 8, .inl f105)), (qf137, .inl (cf137, 6, .inl g137_25))]) [0, 1, 2, 3, 4, 5, 6, 7, 8, 9] (by decide) rfl, hP.sub (ws' := [(h0, .inr (13, z25)), (qf100, .inl (cf100, 48000, .inl f100)), (qf128, .inl (cf128, 31, .inl g128_25)), (qf127, .inl (cf127, 30, .inl g127_25)), (qf104, .inl (cf104, 8, .inl f104)), (qf102, .inl (cf102, 2048, .inl f102)), (qf118, .inl (cf118, 2100, .inl g118_25)), (qf119, .inl (cf119, 2100, .inl g119_25)), (qf105, .inl (cf105, 8, .inl f105)), (qf137, .inl (cf137, 6, .inl g137_25))]) [0, 1, 2, 3, 4, 5, 6, 7, 8, 9] rfl, hfh_25_98, hfh_25_100, hfh_25_102, hfh_25_104, hfh_25_105, hfh_25_117, hfh_25_118, hfh_25_119, hfh_25_120, hfh_25_127, hfh_25_128, hfh_25_129, hfh_25_130, hfh_25_131, hfh_25_132, hfh_25_134, hfh_25_136, hfh_25_137, hlh_25, hrh_25, hsp⟩
    rw [if_neg hs_8] at hsp
    by_cases hs_9 : l2_25 = 3
    · rw [if_pos hs_9] at hsp
      refine lv_tableIn (tgt := 820) hx hb dX13_wanted_27 (by rw [hs_9]; decide) (by rw [hs_9]; decide) (off := 793) (by rw [hs_9]; rfl) (by decide) ?_
      exact hj_820 (H, locs, ls, z25, g118_25, g119_25, g127_25, g128_25, g137_25, x117_25, x120_25, x131_25) ⟨lv_sub hl [1] rfl, hS, hD.sub (ws' := [(h0, .inr (13, z25)), (qf100, .inl (cf100, 48000, .inl f100)), (qf128, .inl (cf128, 31, .inl g128_25)), (qf127, .inl (cf127, 30, .inl g127_25)), (qf104, .inl (cf104, 8, .inl f104)), (qf102, .inl (cf102, 2048, .inl f102)), (qf118, .inl (cf118, 2100, .inl g118_25)), (qf119, .inl (cf119, 2100, .inl g119_25)), (qf105, .inl (cf105, 8, .inl f105)), (qf137, .inl (cf137, 6, .inl g137_25))]) [0, 1, 2, 3, 4, 5, 6, 7, 8, 9] (by decide) rfl, hP.sub (ws' := [(h0, .inr (13, z25)), (qf100, .inl (cf100, 48000, .inl f100)), (qf128, .inl (cf128, 31, .inl g128_25)), (qf127, .inl (cf127, 30, .inl g127_25)), (qf104, .inl (cf104, 8, .inl f104)), (qf102, .inl (cf102, 2048, .inl f102)), (qf118, .inl (cf118, 2100, .inl g118_25)), (qf119, .inl (cf119, 2100, .inl g119_25)), (qf105, .inl (cf105, 8, .inl f105)), (qf137, .inl (cf137, 6, .inl g137_25))]) [0, 1, 2, 3, 4, 5, 6, 7, 8, 9] rfl, hfh_25_98, hfh_25_100, hfh_25_102, hfh_25_104, hfh_25_105, hfh_25_117, hfh_25_118, hfh_25_119, hfh_25_120, hfh_25_127, hfh_25_128, hfh_25_129, hfh_25_130, hfh_25_131, hfh_25_132, hfh_25_134, hfh_25_136, hfh_25_137, hlh_25, hrh_25, hsp⟩
    rw [if_neg hs_9] at hsp
    by_cases hs_10 : l2_25 = 4
    · rw [if_pos hs_10] at hsp
      refine lv_tableIn (tgt := 820) hx hb dX13_wanted_27 (by rw [hs_10]; decide) (by rw [hs_10]; decide) (off := 793) (by rw [hs_10]; rfl) (by decide) ?_
      exact hj_820 (H, locs, ls, z25, g118_25, g119_25, g127_25, g128_25, g137_25, x117_25, x120_25, x131_25) ⟨lv_sub hl [1] rfl, hS, hD.sub (ws' := [(h0, .inr (13, z25)), (qf100, .inl (cf100, 48000, .inl f100)), (qf128, .inl (cf128, 31, .inl g128_25)), (qf127, .inl (cf127, 30, .inl g127_25)), (qf104, .inl (cf104, 8, .inl f104)), (qf102, .inl (cf102, 2048, .inl f102)), (qf118, .inl (cf118, 2100, .inl g118_25)), (qf119, .inl (cf119, 2100, .inl g119_25)), (qf105, .inl (cf105, 8, .inl f105)), (qf137, .inl (cf137, 6, .inl g137_25))]) [0, 1, 2, 3, 4, 5, 6, 7, 8, 9] (by decide) rfl, hP.sub (ws' := [(h0, .inr (13, z25)), (qf100, .inl (cf100, 48000, .inl f100)), (qf128, .inl (cf128, 31, .inl g128_25)), (qf127, .inl (cf127, 30, .inl g127_25)), (qf104, .inl (cf104, 8, .inl f104)), (qf102, .inl (cf102, 2048, .inl f102)), (qf118, .inl (cf118, 2100, .inl g118_25)), (qf119, .inl (cf119, 2100, .inl g119_25)), (qf105, .inl (cf105, 8, .inl f105)), (qf137, .inl (cf137, 6, .inl g137_25))]) [0, 1, 2, 3, 4, 5, 6, 7, 8, 9] rfl, hfh_25_98, hfh_25_100, hfh_25_102, hfh_25_104, hfh_25_105, hfh_25_117, hfh_25_118, hfh_25_119, hfh_25_120, hfh_25_127, hfh_25_128, hfh_25_129, hfh_25_130, hfh_25_131, hfh_25_132, hfh_25_134, hfh_25_136, hfh_25_137, hlh_25, hrh_25, hsp⟩
    rw [if_neg hs_10] at hsp
    by_cases hs_11 : l2_25 = 5
    · rw [if_pos hs_11] at hsp
      refine lv_tableIn (tgt := 820) hx hb dX13_wanted_27 (by rw [hs_11]; decide) (by rw [hs_11]; decide) (off := 793) (by rw [hs_11]; rfl) (by decide) ?_
      exact hj_820 (H, locs, ls, z25, g118_25, g119_25, g127_25, g128_25, g137_25, x117_25, x120_25, x131_25) ⟨lv_sub hl [1] rfl, hS, hD.sub (ws' := [(h0, .inr (13, z25)), (qf100, .inl (cf100, 48000, .inl f100)), (qf128, .inl (cf128, 31, .inl g128_25)), (qf127, .inl (cf127, 30, .inl g127_25)), (qf104, .inl (cf104, 8, .inl f104)), (qf102, .inl (cf102, 2048, .inl f102)), (qf118, .inl (cf118, 2100, .inl g118_25)), (qf119, .inl (cf119, 2100, .inl g119_25)), (qf105, .inl (cf105, 8, .inl f105)), (qf137, .inl (cf137, 6, .inl g137_25))]) [0, 1, 2, 3, 4, 5, 6, 7, 8, 9] (by decide) rfl, hP.sub (ws' := [(h0, .inr (13, z25)), (qf100, .inl (cf100, 48000, .inl f100)), (qf128, .inl (cf128, 31, .inl g128_25)), (qf127, .inl (cf127, 30, .inl g127_25)), (qf104, .inl (cf104, 8, .inl f104)), (qf102, .inl (cf102, 2048, .inl f102)), (qf118, .inl (cf118, 2100, .inl g118_25)), (qf119, .inl (cf119, 2100, .inl g119_25)), (qf105, .inl (cf105, 8, .inl f105)), (qf137, .inl (cf137, 6, .inl g137_25))]) [0, 1, 2, 3, 4, 5, 6, 7, 8, 9] rfl, hfh_25_98, hfh_25_100, hfh_25_102, hfh_25_104, hfh_25_105, hfh_25_117, hfh_25_118, hfh_25_119, hfh_25_120, hfh_25_127, hfh_25_128, hfh_25_129, hfh_25_130, hfh_25_131, hfh_25_132, hfh_25_134, hfh_25_136, hfh_25_137, hlh_25, hrh_25, hsp⟩
    rw [if_neg hs_11] at hsp
    by_cases hs_12 : l2_25 = 6
    · rw [if_pos hs_12] at hsp
      refine lv_tableIn (tgt := 820) hx hb dX13_wanted_27 (by rw [hs_12]; decide) (by rw [hs_12]; decide) (off := 793) (by rw [hs_12]; rfl) (by decide) ?_
      exact hj_820 (H, locs, ls, z25, g118_25, g119_25, g127_25, g128_25, g137_25, x117_25, x120_25, x131_25) ⟨lv_sub hl [1] rfl, hS, hD.sub (ws' := [(h0, .inr (13, z25)), (qf100, .inl (cf100, 48000, .inl f100)), (qf128, .inl (cf128, 31, .inl g128_25)), (qf127, .inl (cf127, 30, .inl g127_25)), (qf104, .inl (cf104, 8, .inl f104)), (qf102, .inl (cf102, 2048, .inl f102)), (qf118, .inl (cf118, 2100, .inl g118_25)), (qf119, .inl (cf119, 2100, .inl g119_25)), (qf105, .inl (cf105, 8, .inl f105)), (qf137, .inl (cf137, 6, .inl g137_25))]) [0, 1, 2, 3, 4, 5, 6, 7, 8, 9] (by decide) rfl, hP.sub (ws' := [(h0, .inr (13, z25)), (qf100, .inl (cf100, 48000, .inl f100)), (qf128, .inl (cf128, 31, .inl g128_25)), (qf127, .inl (cf127, 30, .inl g127_25)), (qf104, .inl (cf104, 8, .inl f104)), (qf102, .inl (cf102, 2048, .inl f102)), (qf118, .inl (cf118, 2100, .inl g118_25)), (qf119, .inl (cf119, 2100, .inl g119_25)), (qf105, .inl (cf105, 8, .inl f105)), (qf137, .inl (cf137, 6, .inl g137_25))]) [0, 1, 2, 3, 4, 5, 6, 7, 8, 9] rfl, hfh_25_98, hfh_25_100, hfh_25_102, hfh_25_104, hfh_25_105, hfh_25_117, hfh_25_118, hfh_25_119, hfh_25_120, hfh_25_127, hfh_25_128, hfh_25_129, hfh_25_130, hfh_25_131, hfh_25_132, hfh_25_134, hfh_25_136, hfh_25_137, hlh_25, hrh_25, hsp⟩
    rw [if_neg hs_12] at hsp
    by_cases hs_13 : l2_25 = 7
    · rw [if_pos hs_13] at hsp
      refine lv_tableIn (tgt := 820) hx hb dX13_wanted_27 (by rw [hs_13]; decide) (by rw [hs_13]; decide) (off := 793) (by rw [hs_13]; rfl) (by decide) ?_
      exact hj_820 (H, locs, ls, z25, g118_25, g119_25, g127_25, g128_25, g137_25, x117_25, x120_25, x131_25) ⟨lv_sub hl [1] rfl, hS, hD.sub (ws' := [(h0, .inr (13, z25)), (qf100, .inl (cf100, 48000, .inl f100)), (qf128, .inl (cf128, 31, .inl g128_25)), (qf127, .inl (cf127, 30, .inl g127_25)), (qf104, .inl (cf104, 8, .inl f104)), (qf102, .inl (cf102, 2048, .inl f102)), (qf118, .inl (cf118, 2100, .inl g118_25)), (qf119, .inl (cf119, 2100, .inl g119_25)), (qf105, .inl (cf105, 8, .inl f105)), (qf137, .inl (cf137, 6, .inl g137_25))]) [0, 1, 2, 3, 4, 5, 6, 7, 8, 9] (by decide) rfl, hP.sub (ws' := [(h0, .inr (13, z25)), (qf100, .inl (cf100, 48000, .inl f100)), (qf128, .inl (cf128, 31, .inl g128_25)), (qf127, .inl (cf127, 30, .inl g127_25)), (qf104, .inl (cf104, 8, .inl f104)), (qf102, .inl (cf102, 2048, .inl f102)), (qf118, .inl (cf118, 2100, .inl g118_25)), (qf119, .inl (cf119, 2100, .inl g119_25)), (qf105, .inl (cf105, 8, .inl f105)), (qf137, .inl (cf137, 6, .inl g137_25))]) [0, 1, 2, 3, 4, 5, 6, 7, 8, 9] rfl, hfh_25_98, hfh_25_100, hfh_25_102, hfh_25_104, hfh_25_105, hfh_25_117, hfh_25_118, hfh_25_119, hfh_25_120, hfh_25_127, hfh_25_128, hfh_25_129, hfh_25_130, hfh_25_131, hfh_25_132, hfh_25_134, hfh_25_136, hfh_25_137, hlh_25, hrh_25, hsp⟩
    rw [if_neg hs_13] at hsp
    by_cases hs_14 : l2_25 = 8
    · rw [if_pos hs_14] at hsp
      refine lv_tableIn (tgt := 820) hx hb dX13_wanted_27 (by rw [hs_14]; decide) (by rw [hs_14]; decide) (off := 793) (by rw [hs_14]; rfl) (by decide) ?_
      exact hj_820 (H, locs, ls, z25, g118_25, g119_25, g127_25, g128_25, g137_25, x117_25, x120_25, x131_25) ⟨lv_sub hl [1] rfl, hS, hD.sub (ws' := [(h0, .inr (13, z25)), (qf100, .inl (cf100, 48000, .inl f100)), (qf128, .inl (cf128, 31, .inl g128_25)), (qf127, .inl (cf127, 30, .inl g127_25)), (qf104, .inl (cf104, 8, .inl f104)), (qf102, .inl (cf102, 2048, .inl f102)), (qf118, .inl (cf118, 2100, .inl g118_25)), (qf119, .inl (cf119, 2100, .inl g119_25)), (qf105, .inl (cf105, 8, .inl f105)), (qf137, .inl (cf137, 6, .inl g137_25))]) [0, 1, 2, 3, 4, 5, 6, 7, 8, 9] (by decide) rfl, hP.sub (ws' := [(h0, .inr (13, z25)), (qf100, .inl (cf100, 48000, .inl f100)), (qf128, .inl (cf128, 31, .inl g128_25)), (qf127, .inl (cf127, 30, .inl g127_25)), (qf104, .inl (cf104, 8, .inl f104)), (qf102, .inl (cf102, 2048, .inl f102)), (qf118, .inl (cf118, 2100, .inl g118_25)), (qf119, .inl (cf119, 2100, .inl g119_25)), (qf105, .inl (cf105, 8, .inl f105)), (qf137, .inl (cf137, 6, .inl g137_25))]) [0, 1, 2, 3, 4, 5, 6, 7, 8, 9] rfl, hfh_25_98, hfh_25_100, hfh_25_102, hfh_25_104, hfh_25_105, hfh_25_117, hfh_25_118, hfh_25_119, hfh_25_120, hfh_25_127, hfh_25_128, hfh_25_129, hfh_25_130, hfh_25_131, hfh_25_132, hfh_25_134, hfh_25_136, hfh_25_137, hlh_25, hrh_25, hsp⟩
    rw [if_neg hs_14] at hsp
    by_cases hs_15 : l2_25 = 9
    · rw [if_pos hs_15] at hsp
      refine lv_tableIn (tgt := 1642) hx hb dX13_wanted_27 (by rw [hs_15]; decide) (by rw [hs_15]; decide) (off := 1615) (by rw [hs_15]; rfl) (by decide) ?_
      exact hj_1642 (H, locs, ls, z25, g118_25, g119_25, g127_25, g128_25, g137_25, x117_25, x120_25, x131_25) ⟨lv_sub hl [1] rfl, hS, hD.sub (ws' := [(h0, .inr (13, z25)), (qf100, .inl (cf100, 48000, .inl f100)), (qf128, .inl (cf128, 31, .inl g128_25)), (qf127, .inl (cf127, 30, .inl g127_25)), (qf104, .inl (cf104, 8, .inl f104)), (qf102, .inl (cf102, 2048, .inl f102)), (qf118, .inl (cf118, 2100, .inl g118_25)), (qf119, .inl (cf119, 2100, .inl g119_25)), (qf105, .inl (cf105, 8, .inl f105)), (qf137, .inl (cf137, 6, .inl g137_25))]) [0, 1, 2, 3, 4, 5, 6, 7, 8, 9] (by decide) rfl, hP.sub (ws' := [(h0, .inr (13, z25)), (qf100, .inl (cf100, 48000, .inl f100)), (qf128, .inl (cf128, 31, .inl g128_25)), (qf127, .inl (cf127, 30, .inl g127_25)), (qf104, .inl (cf104, 8, .inl f104)), (qf102, .inl (cf102, 2048, .inl f102)), (qf118, .inl (cf118, 2100, .inl g118_25)), (qf119, .inl (cf119, 2100, .inl g119_25)), (qf105, .inl (cf105, 8, .inl f105)), (qf137, .inl (cf137, 6, .inl g137_25))]) [0, 1, 2, 3, 4, 5, 6, 7, 8, 9] rfl, hfh_25_98, hfh_25_100, hfh_25_102, hfh_25_104, hfh_25_105, hfh_25_117, hfh_25_118, hfh_25_119, hfh_25_120, hfh_25_127, hfh_25_128, hfh_25_129, hfh_25_130, hfh_25_131, hfh_25_132, hfh_25_134, hfh_25_136, hfh_25_137, hlh_25, hrh_25, hsp⟩
    rw [if_neg hs_15] at hsp
    by_cases hs_16 : l2_25 = 10
    · rw [if_pos hs_16] at hsp
      refine lv_tableIn (tgt := 1642) hx hb dX13_wanted_27 (by rw [hs_16]; decide) (by rw [hs_16]; decide) (off := 1615) (by rw [hs_16]; rfl) (by decide) ?_
      exact hj_1642 (H, locs, ls, z25, g118_25, g119_25, g127_25, g128_25, g137_25, x117_25, x120_25, x131_25) ⟨lv_sub hl [1] rfl, hS, hD.sub (ws' := [(h0, .inr (13, z25)), (qf100, .inl (cf100, 48000, .inl f100)), (qf128, .inl (cf128, 31, .inl g128_25)), (qf127, .inl (cf127, 30, .inl g127_25)), (qf104, .inl (cf104, 8, .inl f104)), (qf102, .inl (cf102, 2048, .inl f102)), (qf118, .inl (cf118, 2100, .inl g118_25)), (qf119, .inl (cf119, 2100, .inl g119_25)), (qf105, .inl (cf105, 8, .inl f105)), (qf137, .inl (cf137, 6, .inl g137_25))]) [0, 1, 2, 3, 4, 5, 6, 7, 8, 9] (by decide) rfl, hP.sub (ws' := [(h0, .inr (13, z25)), (qf100, .inl (cf100, 48000, .inl f100)), (qf128, .inl (cf128, 31, .inl g128_25)), (qf127, .inl (cf127, 30, .inl g127_25)), (qf104, .inl (cf104, 8, .inl f104)), (qf102, .inl (cf102, 2048, .inl f102)), (qf118, .inl (cf118, 2100, .inl g118_25)), (qf119, .inl (cf119, 2100, .inl g119_25)), (qf105, .inl (cf105, 8, .inl f105)), (qf137, .inl (cf137, 6, .inl g137_25))]) [0, 1, 2, 3, 4, 5, 6, 7, 8, 9] rfl, hfh_25_98, hfh_25_100, hfh_25_102, hfh_25_104, hfh_25_105, hfh_25_117, hfh_25_118, hfh_25_119, hfh_25_120, hfh_25_127, hfh_25_128, hfh_25_129, hfh_25_130, hfh_25_131, hfh_25_132, hfh_25_134, hfh_25_136, hfh_25_137, hlh_25, hrh_25, hsp⟩
    rw [if_neg hs_16] at hsp
    by_cases hs_17 : l2_25 = 11
    · rw [if_pos hs_17] at hsp
      refine lv_tableIn (tgt := 1642) hx hb dX13_wanted_27 (by rw [hs_17]; decide) (by rw [hs_17]; decide) (off := 1615) (by rw [hs_17]; rfl) (by decide) ?_
      exact hj_1642 (H, locs, ls, z25, g118_25, g119_25, g127_25, g128_25, g137_25, x117_25, x120_25, x131_25) ⟨lv_sub hl [1] rfl, hS, hD.sub (ws' := [(h0, .inr (13, z25)), (qf100, .inl (cf100, 48000, .inl f100)), (qf128, .inl (cf128, 31, .inl g128_25)), (qf127, .inl (cf127, 30, .inl g127_25)), (qf104, .inl (cf104, 8, .inl f104)), (qf102, .inl (cf102, 2048, .inl f102)), (qf118, .inl (cf118, 2100, .inl g118_25)), (qf119, .inl (cf119, 2100, .inl g119_25)), (qf105, .inl (cf105, 8, .inl f105)), (qf137, .inl (cf137, 6, .inl g137_25))]) [0, 1, 2, 3, 4, 5, 6, 7, 8, 9] (by decide) rfl, hP.sub (ws' := [(h0, .inr (13, z25)), (qf100, .inl (cf100, 48000, .inl f100)), (qf128, .inl (cf128, 31, .inl g128_25)), (qf127, .inl (cf127, 30, .inl g127_25)), (qf104, .inl (cf104, 8, .inl f104)), (qf102, .inl (cf102, 2048, .inl f102)), (qf118, .inl (cf118, 2100, .inl g118_25)), (qf119, .inl (cf119, 2100, .inl g119_25)), (qf105, .inl (cf105, 8, .inl f105)), (qf137, .inl (cf137, 6, .inl g137_25))]) [0, 1, 2, 3, 4, 5, 6, 7, 8, 9] rfl, hfh_25_98, hfh_25_100, hfh_25_102, hfh_25_104, hfh_25_105, hfh_25_117, hfh_25_118, hfh_25_119, hfh_25_120, hfh_25_127, hfh_25_128, hfh_25_129, hfh_25_130, hfh_25_131, hfh_25_132, hfh_25_134, hfh_25_136, hfh_25_137, hlh_25, hrh_25, hsp⟩
    rw [if_neg hs_17] at hsp
    by_cases hs_18 : l2_25 = 12
    · rw [if_pos hs_18] at hsp
      refine lv_tableIn (tgt := 1642) hx hb dX13_wanted_27 (by rw [hs_18]; decide) (by rw [hs_18]; decide) (off := 1615) (by rw [hs_18]; rfl) (by decide) ?_
      exact hj_1642 (H, locs, ls, z25, g118_25, g119_25, g127_25, g128_25, g137_25, x117_25, x120_25, x131_25) ⟨lv_sub hl [1] rfl, hS, hD.sub (ws' := [(h0, .inr (13, z25)), (qf100, .inl (cf100, 48000, .inl f100)), (qf128, .inl (cf128, 31, .inl g128_25)), (qf127, .inl (cf127, 30, .inl g127_25)), (qf104, .inl (cf104, 8, .inl f104)), (qf102, .inl (cf102, 2048, .inl f102)), (qf118, .inl (cf118, 2100, .inl g118_25)), (qf119, .inl (cf119, 2100, .inl g119_25)), (qf105, .inl (cf105, 8, .inl f105)), (qf137, .inl (cf137, 6, .inl g137_25))]) [0, 1, 2, 3, 4, 5, 6, 7, 8, 9] (by decide) rfl, hP.sub (ws' := [(h0, .inr (13, z25)), (qf100, .inl (cf100, 48000, .inl f100)), (qf128, .inl (cf128, 31, .inl g128_25)), (qf127, .inl (cf127, 30, .inl g127_25)), (qf104, .inl (cf104, 8, .inl f104)), (qf102, .inl (cf102, 2048, .inl f102)), (qf118, .inl (cf118, 2100, .inl g118_25)), (qf119, .inl (cf119, 2100, .inl g119_25)), (qf105, .inl (cf105, 8, .inl f105)), (qf137, .inl (cf137, 6, .inl g137_25))]) [0, 1, 2, 3, 4, 5, 6, 7, 8, 9] rfl, hfh_25_98, hfh_25_100, hfh_25_102, hfh_25_104, hfh_25_105, hfh_25_117, hfh_25_118, hfh_25_119, hfh_25_120, hfh_25_127, hfh_25_128, hfh_25_129, hfh_25_130, hfh_25_131, hfh_25_132, hfh_25_134, hfh_25_136, hfh_25_137, hlh_25, hrh_25, hsp⟩
    rw [if_neg hs_18] at hsp
    by_cases hs_19 : l2_25 = 13
    · rw [if_pos hs_19] at hsp
      refine lv_tableIn (tgt := 1642) hx hb dX13_wanted_27 (by rw [hs_19]; decide) (by rw [hs_19]; decide) (off := 1615) (by rw [hs_19]; rfl) (by decide) ?_
      exact hj_1642 (H, locs, ls, z25, g118_25, g119_25, g127_25, g128_25, g137_25, x117_25, x120_25, x131_25) ⟨lv_sub hl [1] rfl, hS, hD.sub (ws' := [(h0, .inr (13, z25)), (qf100, .inl (cf100, 48000, .inl f100)), (qf128, .inl (cf128, 31, .inl g128_25)), (qf127, .inl (cf127, 30, .inl g127_25)), (qf104, .inl (cf104, 8, .inl f104)), (qf102, .inl (cf102, 2048, .inl f102)), (qf118, .inl (cf118, 2100, .inl g118_25)), (qf119, .inl (cf119, 2100, .inl g119_25)), (qf105, .inl (cf105, 8, .inl f105)), (qf137, .inl (cf137, 6, .inl g137_25))]) [0, 1, 2, 3, 4, 5, 6, 7, 8, 9] (by decide) rfl, hP.sub (ws' := [(h0, .inr (13, z25)), (qf100, .inl (cf100, 48000, .inl f100)), (qf128, .inl (cf128, 31, .inl g128_25)), (qf127, .inl (cf127, 30, .inl g127_25)), (qf104, .inl (cf104, 8, .inl f104)), (qf102, .inl (cf102, 2048, .inl f102)), (qf118, .inl (cf118, 2100, .inl g118_25)), (qf119, .inl (cf119, 2100, .inl g119_25)), (qf105, .inl (cf105, 8, .inl f105)), (qf137, .inl (cf137, 6, .inl g137_25))]) [0, 1, 2, 3, 4, 5, 6, 7, 8, 9] rfl, hfh_25_98, hfh_25_100, hfh_25_102, hfh_25_104, hfh_25_105, hfh_25_117, hfh_25_118, hfh_25_119, hfh_25_120, hfh_25_127, hfh_25_128, hfh_25_129, hfh_25_130, hfh_25_131, hfh_25_132, hfh_25_134, hfh_25_136, hfh_25_137, hlh_25, hrh_25, hsp⟩
    rw [if_neg hs_19] at hsp
    by_cases hs_20 : l2_25 = 14
    · rw [if_pos hs_20] at hsp
      refine lv_tableIn (tgt := 1642) hx hb dX13_wanted_27 (by rw [hs_20]; decide) (by rw [hs_20]; decide) (off := 1615) (by rw [hs_20]; rfl) (by decide) ?_
      exact hj_1642 (H, locs, ls, z25, g118_25, g119_25, g127_25, g128_25, g137_25, x117_25, x120_25, x131_25) ⟨lv_sub hl [1] rfl, hS, hD.sub (ws' := [(h0, .inr (13, z25)), (qf100, .inl (cf100, 48000, .inl f100)), (qf128, .inl (cf128, 31, .inl g128_25)), (qf127, .inl (cf127, 30, .inl g127_25)), (qf104, .inl (cf104, 8, .inl f104)), (qf102, .inl (cf102, 2048, .inl f102)), (qf118, .inl (cf118, 2100, .inl g118_25)), (qf119, .inl (cf119, 2100, .inl g119_25)), (qf105, .inl (cf105, 8, .inl f105)), (qf137, .inl (cf137, 6, .inl g137_25))]) [0, 1, 2, 3, 4, 5, 6, 7, 8, 9] (by decide) rfl, hP.sub (ws' := [(h0, .inr (13, z25)), (qf100, .inl (cf100, 48000, .inl f100)), (qf128, .inl (cf128, 31, .inl g128_25)), (qf127, .inl (cf127, 30, .inl g127_25)), (qf104, .inl (cf104, 8, .inl f104)), (qf102, .inl (cf102, 2048, .inl f102)), (qf118, .inl (cf118, 2100, .inl g118_25)), (qf119, .inl (cf119, 2100, .inl g119_25)), (qf105, .inl (cf105, 8, .inl f105)), (qf137, .inl (cf137, 6, .inl g137_25))]) [0, 1, 2, 3, 4, 5, 6, 7, 8, 9] rfl, hfh_25_98, hfh_25_100, hfh_25_102, hfh_25_104, hfh_25_105, hfh_25_117, hfh_25_118, hfh_25_119, hfh_25_120, hfh_25_127, hfh_25_128, hfh_25_129, hfh_25_130, hfh_25_131, hfh_25_132, hfh_25_134, hfh_25_136, hfh_25_137, hlh_25, hrh_25, hsp⟩
    rw [if_neg hs_20] at hsp
    by_cases hs_21 : l2_25 = 15
    · rw [if_pos hs_21] at hsp
      refine lv_tableIn (tgt := 1642) hx hb dX13_wanted_27 (by rw [hs_21]; decide) (by rw [hs_21]; decide) (off := 1615) (by rw [hs_21]; rfl) (by decide) ?_
      exact hj_1642 (H, locs, ls, z25, g118_25, g119_25, g127_25, g128_25, g137_25, x117_25, x120_25, x131_25) ⟨lv_sub hl [1] rfl, hS, hD.sub (ws' := [(h0, .inr (13, z25)), (qf100, .inl (cf100, 48000, .inl f100)), (qf128, .inl (cf128, 31, .inl g128_25)), (qf127, .inl (cf127, 30, .inl g127_25)), (qf104, .inl (cf104, 8, .inl f104)), (qf102, .inl (cf102, 2048, .inl f102)), (qf118, .inl (cf118, 2100, .inl g118_25)), (qf119, .inl (cf119, 2100, .inl g119_25)), (qf105, .inl (cf105, 8, .inl f105)), (qf137, .inl (cf137, 6, .inl g137_25))]) [0, 1, 2, 3, 4, 5, 6, 7, 8, 9] (by decide) rfl, hP.sub (ws' := [(h0, .inr (13, z25)), (qf100, .inl (cf100, 48000, .inl f100)), (qf128, .inl (cf128, 31, .inl g128_25)), (qf127, .inl (cf127, 30, .inl g127_25)), (qf104, .inl (cf104, 8, .inl f104)), (qf102, .inl (cf102, 2048, .inl f102)), (qf118, .inl (cf118, 2100, .inl g118_25)), (qf119, .inl (cf119, 2100, .inl g119_25)), (qf105, .inl (cf105, 8, .inl f105)), (qf137, .inl (cf137, 6, .inl g137_25))]) [0, 1, 2, 3, 4, 5, 6, 7, 8, 9] rfl, hfh_25_98, hfh_25_100, hfh_25_102, hfh_25_104, hfh_25_105, hfh_25_117, hfh_25_118, hfh_25_119, hfh_25_120, hfh_25_127, hfh_25_128, hfh_25_129, hfh_25_130, hfh_25_131, hfh_25_132, hfh_25_134, hfh_25_136, hfh_25_137, hlh_25, hrh_25, hsp⟩
    rw [if_neg hs_21] at hsp
    by_cases hs_22 : l2_25 = 16
    · rw [if_pos hs_22] at hsp
      refine lv_tableIn (tgt := 820) hx hb dX13_wanted_27 (by rw [hs_22]; decide) (by rw [hs_22]; decide) (off := 793) (by rw [hs_22]; rfl) (by decide) ?_
      exact hj_820 (H, locs, ls, z25, g118_25, g119_25, g127_25, g128_25, g137_25, x117_25, x120_25, x131_25) ⟨lv_sub hl [1] rfl, hS, hD.sub (ws' := [(h0, .inr (13, z25)), (qf100, .inl (cf100, 48000, .inl f100)), (qf128, .inl (cf128, 31, .inl g128_25)), (qf127, .inl (cf127, 30, .inl g127_25)), (qf104, .inl (cf104, 8, .inl f104)), (qf102, .inl (cf102, 2048, .inl f102)), (qf118, .inl (cf118, 2100, .inl g118_25)), (qf119, .inl (cf119, 2100, .inl g119_25)), (qf105, .inl (cf105, 8, .inl f105)), (qf137, .inl (cf137, 6, .inl g137_25))]) [0, 1, 2, 3, 4, 5, 6, 7, 8, 9] (by decide) rfl, hP.sub (ws' := [(h0, .inr (13, z25)), (qf100, .inl (cf100, 48000, .inl f100)), (qf128, .inl (cf128, 31, .inl g128_25)), (qf127, .inl (cf127, 30, .inl g127_25)), (qf104, .inl (cf104, 8, .inl f104)), (qf102, .inl (cf102, 2048, .inl f102)), (qf118, .inl (cf118, 2100, .inl g118_25)), (qf119, .inl (cf119, 2100, .inl g119_25)), (qf105, .inl (cf105, 8, .inl f105)), (qf137, .inl (cf137, 6, .inl g137_25))]) [0, 1, 2, 3, 4, 5, 6, 7, 8, 9] rfl, hfh_25_98, hfh_25_100, hfh_25_102, hfh_25_104, hfh_25_105, hfh_25_117, hfh_25_118, hfh_25_119, hfh_25_120, hfh_25_127, hfh_25_128, hfh_25_129, hfh_25_130, hfh_25_131, hfh_25_132, hfh_25_134, hfh_25_136, hfh_25_137, hlh_25, hrh_25, hsp⟩
    rw [if_neg hs_22] at hsp
    by_cases hs_23 : l2_25 = 17
    · rw [if_pos hs_23] at hsp
      refine lv_tableIn (tgt := 1642) hx hb dX13_wanted_27 (by rw [hs_23]; decide) (by rw [hs_23]; decide) (off := 1615) (by rw [hs_23]; rfl) (by decide) ?_
      exact hj_1642 (H, locs, ls, z25, g118_25, g119_25, g127_25, g128_25, g137_25, x117_25, x120_25, x131_25) ⟨lv_sub hl [1] rfl, hS, hD.sub (ws' := [(h0, .inr (13, z25)), (qf100, .inl (cf100, 48000, .inl f100)), (qf128, .inl (cf128, 31, .inl g128_25)), (qf127, .inl (cf127, 30, .inl g127_25)), (qf104, .inl (cf104, 8, .inl f104)), (qf102, .inl (cf102, 2048, .inl f102)), (qf118, .inl (cf118, 2100, .inl g118_25)), (qf119, .inl (cf119, 2100, .inl g119_25)), (qf105, .inl (cf105, 8, .inl f105)), (qf137, .inl (cf137, 6, .inl g137_25))]) [0, 1, 2, 3, 4, 5, 6, 7, 8, 9] (by decide) rfl, hP.sub (ws' := [(h0, .inr (13, z25)), (qf100, .inl (cf100, 48000, .inl f100)), (qf128, .inl (cf128, 31, .inl g128_25)), (qf127, .inl (cf127, 30, .inl g127_25)), (qf104, .inl (cf104, 8, .inl f104)), (qf102, .inl (cf102, 2048, .inl f102)), (qf118, .inl (cf118, 2100, .inl g118_25)), (qf119, .inl (cf119, 2100, .inl g119_25)), (qf105, .inl (cf105, 8, .inl f105)), (qf137, .inl (cf137, 6, .inl g137_25))]) [0, 1, 2, 3, 4, 5, 6, 7, 8, 9] rfl, hfh_25_98, hfh_25_100, hfh_25_102, hfh_25_104, hfh_25_105, hfh_25_117, hfh_25_118, hfh_25_119, hfh_25_120, hfh_25_127, hfh_25_128, hfh_25_129, hfh_25_130, hfh_25_131, hfh_25_132, hfh_25_134, hfh_25_136, hfh_25_137, hlh_25, hrh_25, hsp⟩
    rw [if_neg hs_23] at hsp
    by_cases hs_24 : l2_25 = 18
    · rw [if_pos hs_24] at hsp
      refine lv_tableIn (tgt := 820) hx hb dX13_wanted_27 (by rw [hs_24]; decide) (by rw [hs_24]; decide) (off := 793) (by rw [hs_24]; rfl) (by decide) ?_
      exact hj_820 (H, locs, ls, z25, g118_25, g119_25, g127_25, g128_25, g137_25, x117_25, x120_25, x131_25) ⟨lv_sub hl [1] rfl, hS, hD.sub (ws' := [(h0, .inr (13, z25)), (qf100, .inl (cf100, 48000, .inl f100)), (qf128, .inl (cf128, 31, .inl g128_25)), (qf127, .inl (cf127, 30, .inl g127_25)), (qf104, .inl (cf104, 8, .inl f104)), (qf102, .inl (cf102, 2048, .inl f102)), (qf118, .inl (cf118, 2100, .inl g118_25)), (qf119, .inl (cf119, 2100, .inl g119_25)), (qf105, .inl (cf105, 8, .inl f105)), (qf137, .inl (cf137, 6, .inl g137_25))]) [0, 1, 2, 3, 4, 5, 6, 7, 8, 9] (by decide) rfl, hP.sub (ws' := [(h0, .inr (13, z25)), (qf100, .inl (cf100, 48000, .inl f100)), (qf128, .inl (cf128, 31, .inl g128_25)), (qf127, .inl (cf127, 30, .inl g127_25)), (qf104, .inl (cf104, 8, .inl f104)), (qf102, .inl (cf102, 2048, .inl f102)), (qf118, .inl (cf118, 2100, .inl g118_25)), (qf119, .inl (cf119, 2100, .inl g119_25)), (qf105, .inl (cf105, 8, .inl f105)), (qf137, .inl (cf137, 6, .inl g137_25))]) [0, 1, 2, 3, 4, 5, 6, 7, 8, 9] rfl, hfh_25_98, hfh_25_100, hfh_25_102, hfh_25_104, hfh_25_105, hfh_25_117, hfh_25_118, hfh_25_119, hfh_25_120, hfh_25_127, hfh_25_128, hfh_25_129, hfh_25_130, hfh_25_131, hfh_25_132, hfh_25_134, hfh_25_136, hfh_25_137, hlh_25, hrh_25, hsp⟩
    rw [if_neg hs_24] at hsp
    by_cases hs_25 : l2_25 = 19
    · rw [if_pos hs_25] at hsp
      refine lv_tableIn (tgt := 1642) hx hb dX13_wanted_27 (by rw [hs_25]; decide) (by rw [hs_25]; decide) (off := 1615) (by rw [hs_25]; rfl) (by decide) ?_
      exact hj_1642 (H, locs, ls, z25, g118_25, g119_25, g127_25, g128_25, g137_25, x117_25, x120_25, x131_25) ⟨lv_sub hl [1] rfl, hS, hD.sub (ws' := [(h0, .inr (13, z25)), (qf100, .inl (cf100, 48000, .inl f100)), (qf128, .inl (cf128, 31, .inl g128_25)), (qf127, .inl (cf127, 30, .inl g127_25)), (qf104, .inl (cf104, 8, .inl f104)), (qf102, .inl (cf102, 2048, .inl f102)), (qf118, .inl (cf118, 2100, .inl g118_25)), (qf119, .inl (cf119, 2100, .inl g119_25)), (qf105, .inl (cf105, 8, .inl f105)), (qf137, .inl (cf137, 6, .inl g137_25))]) [0, 1, 2, 3, 4, 5, 6, 7, 8, 9] (by decide) rfl, hP.sub (ws' := [(h0, .inr (13, z25)), (qf100, .inl (cf100, 48000, .inl f100)), (qf128, .inl (cf128, 31, .inl g128_25)), (qf127, .inl (cf127, 30, .inl g127_25)), (qf104, .inl (cf104, 8, .inl f104)), (qf102, .inl (cf102, 2048, .inl f102)), (qf118, .inl (cf118, 2100, .inl g118_25)), (qf119, .inl (cf119, 2100, .inl g119_25)), (qf105, .inl (cf105, 8, .inl f105)), (qf137, .inl (cf137, 6, .inl g137_25))]) [0, 1, 2, 3, 4, 5, 6, 7, 8, 9] rfl, hfh_25_98, hfh_25_100, hfh_25_102, hfh_25_104, hfh_25_105, hfh_25_117, hfh_25_118, hfh_25_119, hfh_25_120, hfh_25_127, hfh_25_128, hfh_25_129, hfh_25_130, hfh_25_131, hfh_25_132, hfh_25_134, hfh_25_136, hfh_25_137, hlh_25, hrh_25, hsp⟩
    rw [if_neg hs_25] at hsp
    by_cases hs_26 : l2_25 = 20
    · rw [if_pos hs_26] at hsp
      refine lv_tableIn (tgt := 1642) hx hb dX13_wanted_27 (by rw [hs_26]; decide) (by rw [hs_26]; decide) (off := 1615) (by rw [hs_26]; rfl) (by decide) ?_
      exact hj_1642 (H, locs, ls, z25, g118_25, g119_25, g127_25, g128_25, g137_25, x117_25, x120_25, x131_25) ⟨lv_sub hl [1] rfl, hS, hD.sub (ws' := [(h0, .inr (13, z25)), (qf100, .inl (cf100, 48000, .inl f100)), (qf128, .inl (cf128, 31, .inl g128_25)), (qf127, .inl (cf127, 30, .inl g127_25)), (qf104, .inl (cf104, 8, .inl f104)), (qf102, .inl (cf102, 2048, .inl f102)), (qf118, .inl (cf118, 2100, .inl g118_25)), (qf119, .inl (cf119, 2100, .inl g119_25)), (qf105, .inl (cf105, 8, .inl f105)), (qf137, .inl (cf137, 6, .inl g137_25))]) [0, 1, 2, 3, 4, 5, 6, 7, 8, 9] (by decide) rfl, hP.sub (ws' := [(h0, .inr (13, z25)), (qf100, .inl (cf100, 48000, .inl f100)), (qf128, .inl (cf128, 31, .inl g128_25)), (qf127, .inl (cf127, 30, .inl g127_25)), (qf104, .inl (cf104, 8, .inl f104)), (qf102, .inl (cf102, 2048, .inl f102)), (qf118, .inl (cf118, 2100, .inl g118_25)), (qf119, .inl (cf119, 2100, .inl g119_25)), (qf105, .inl (cf105, 8, .inl f105)), (qf137, .inl (cf137, 6, .inl g137_25))]) [0, 1, 2, 3, 4, 5, 6, 7, 8, 9] rfl, hfh_25_98, hfh_25_100, hfh_25_102, hfh_25_104, hfh_25_105, hfh_25_117, hfh_25_118, hfh_25_119, hfh_25_120, hfh_25_127, hfh_25_128, hfh_25_129, hfh_25_130, hfh_25_131, hfh_25_132, hfh_25_134, hfh_25_136, hfh_25_137, hlh_25, hrh_25, hsp⟩
    rw [if_neg hs_26] at hsp
    by_cases hs_27 : l2_25 = 21
    · rw [if_pos hs_27] at hsp
      refine lv_tableIn (tgt := 826) hx hb dX13_wanted_27 (by rw [hs_27]; decide) (by rw [hs_27]; decide) (off := 799) (by rw [hs_27]; rfl) (by decide) ?_
      refine lv_iload_n hx hb dX13_wanted_826 rfl (lv_at hl 0 rfl) ?_
      refine lv_aload_n hx hb dX13_wanted_827 rfl (lv_at hl 1 rfl) ?_
      refine va_get (D := (dC, dI)) (ci := 13) (v := .int v129) (C := RX13) (T := TX13) (N := 155) hx hb hts uV_h9_X13 hown hK hP 0 rfl rfl 129 (by decide) (hts (.fieldLink RX13 964 "ClassMillModel" "localMany" "I") mw_h9_561) (fun _ h9 => h9) hfh_25_129 dX13_wanted_828 ?_
      refine lv_icmp_ge (tgt := 856) hx hb dX13_wanted_831 (by decide) (fun c_28 => ?_) (fun c_28 => ?_)
      · rw [if_pos c_28] at hsp
        refine lv_iconst (v := 0) hx hb dX13_wanted_856 (by decide) ?_
        have hr0 := Option.some.inj hsp
        clear hsp
        obtain ⟨hq0, hr1⟩ := Prod.mk.inj hr0
        clear hr0
        obtain ⟨hq1, hr2⟩ := Prod.mk.inj hr1
        clear hr1
        obtain ⟨hq2, hr3⟩ := Prod.mk.inj hr2
        clear hr2
        obtain ⟨hq3, hr4⟩ := Prod.mk.inj hr3
        clear hr3
        obtain ⟨hq4, hr5⟩ := Prod.mk.inj hr4
        clear hr4
        obtain ⟨hq5, hr6⟩ := Prod.mk.inj hr5
        clear hr5
        obtain ⟨hq6, hr7⟩ := Prod.mk.inj hr6
        clear hr6
        obtain ⟨hq7, hr8⟩ := Prod.mk.inj hr7
        clear hr7
        subst hq0
        subst hq1
        subst hq2
        subst hq3
        subst hq4
        subst hq5
        subst hq6
        subst hq7
        subst hr8
        have hP9 := hP.sub (ws' := [(h0, .inr (13, z25)), (qf100, .inl (cf100, 48000, .inl f100)), (qf128, .inl (cf128, 31, .inl g128_25)), (qf127, .inl (cf127, 30, .inl g127_25)), (qf104, .inl (cf104, 8, .inl f104)), (qf102, .inl (cf102, 2048, .inl f102)), (qf118, .inl (cf118, 2100, .inl g118_25)), (qf119, .inl (cf119, 2100, .inl g119_25)), (qf105, .inl (cf105, 8, .inl f105)), (qf137, .inl (cf137, 6, .inl g137_25))]) [0, 1, 2, 3, 4, 5, 6, 7, 8, 9] rfl
        have hD9 := hD.sub (ws' := [(h0, .inr (13, z25)), (qf100, .inl (cf100, 48000, .inl f100)), (qf128, .inl (cf128, 31, .inl g128_25)), (qf127, .inl (cf127, 30, .inl g127_25)), (qf104, .inl (cf104, 8, .inl f104)), (qf102, .inl (cf102, 2048, .inl f102)), (qf118, .inl (cf118, 2100, .inl g118_25)), (qf119, .inl (cf119, 2100, .inl g119_25)), (qf105, .inl (cf105, 8, .inl f105)), (qf137, .inl (cf137, 6, .inl g137_25))]) [0, 1, 2, 3, 4, 5, 6, 7, 8, 9] (by decide) rfl
        have hK9 := hK.sub (tys' := [(cf100, .int), (cf128, .int), (cf127, .int), (cf104, .int), (cf102, .int), (cf118, .int), (cf119, .int), (cf105, .int), (cf137, .int)]) [0, 1, 2, 3, 4, 5, 6, 7, 8] rfl
        exact W.zret hx hb hr (by decide) (fun t ht hW => ⟨⟨(0), (z25), rfl, ⟨⟨rfl, Or.inl rfl⟩, hlh_25, hrh_25, hfh_25_117, hfh_25_120, hfh_25_131⟩, by rw [ht]; exact hP9, va_K.moved hW.alike hK9, hD9⟩, hS.F ht⟩) hS.2.2 dX13_wanted_857
      · rw [if_neg c_28] at hsp
        refine lv_aload_n hx hb dX13_wanted_834 rfl (lv_at hl 1 rfl) ?_
        refine va_get (D := (dC, dI)) (ci := 13) (v := .ref qf127) (C := RX13) (T := TX13) (N := 155) hx hb hts uV_h9_X13 hown hK hP 0 rfl rfl 127 (by decide) (hts (.fieldLink RX13 270 "ClassMillModel" "locals" "[I") mw_h9_558) (fun _ h9 => h9) hfh_25_127 dX13_wanted_835 ?_
        refine lv_iload_n hx hb dX13_wanted_838 rfl (lv_at hl 0 rfl) ?_
        obtain ⟨hi_29, hsp⟩ := ox_in hsp
        refine va_iald hx hb hK hP 3 2 rfl rfl (i := s0_25) hi_29 dX13_wanted_839 ?_
        refine lv_iconst (v := 1) hx hb dX13_wanted_840 (by decide) ?_
        refine lv_icmp_ne (tgt := 856) hx hb dX13_wanted_841 (by decide) (fun c_30 => ?_) (fun c_30 => ?_)
        · rw [if_neg c_30] at hsp
          refine lv_iconst (v := 0) hx hb dX13_wanted_856 (by decide) ?_
          have hr0 := Option.some.inj hsp
          clear hsp
          obtain ⟨hq0, hr1⟩ := Prod.mk.inj hr0
          clear hr0
          obtain ⟨hq1, hr2⟩ := Prod.mk.inj hr1
          clear hr1
          obtain ⟨hq2, hr3⟩ := Prod.mk.inj hr2
          clear hr2
          obtain ⟨hq3, hr4⟩ := Prod.mk.inj hr3
          clear hr3
          obtain ⟨hq4, hr5⟩ := Prod.mk.inj hr4
          clear hr4
          obtain ⟨hq5, hr6⟩ := Prod.mk.inj hr5
          clear hr5
          obtain ⟨hq6, hr7⟩ := Prod.mk.inj hr6
          clear hr6
          obtain ⟨hq7, hr8⟩ := Prod.mk.inj hr7
          clear hr7
          subst hq0
          subst hq1
          subst hq2
          subst hq3
          subst hq4
          subst hq5
          subst hq6
          subst hq7
          subst hr8
          have hP9 := hP.sub (ws' := [(h0, .inr (13, z25)), (qf100, .inl (cf100, 48000, .inl f100)), (qf128, .inl (cf128, 31, .inl g128_25)), (qf127, .inl (cf127, 30, .inl g127_25)), (qf104, .inl (cf104, 8, .inl f104)), (qf102, .inl (cf102, 2048, .inl f102)), (qf118, .inl (cf118, 2100, .inl g118_25)), (qf119, .inl (cf119, 2100, .inl g119_25)), (qf105, .inl (cf105, 8, .inl f105)), (qf137, .inl (cf137, 6, .inl g137_25))]) [0, 1, 2, 3, 4, 5, 6, 7, 8, 9] rfl
          have hD9 := hD.sub (ws' := [(h0, .inr (13, z25)), (qf100, .inl (cf100, 48000, .inl f100)), (qf128, .inl (cf128, 31, .inl g128_25)), (qf127, .inl (cf127, 30, .inl g127_25)), (qf104, .inl (cf104, 8, .inl f104)), (qf102, .inl (cf102, 2048, .inl f102)), (qf118, .inl (cf118, 2100, .inl g118_25)), (qf119, .inl (cf119, 2100, .inl g119_25)), (qf105, .inl (cf105, 8, .inl f105)), (qf137, .inl (cf137, 6, .inl g137_25))]) [0, 1, 2, 3, 4, 5, 6, 7, 8, 9] (by decide) rfl
          have hK9 := hK.sub (tys' := [(cf100, .int), (cf128, .int), (cf127, .int), (cf104, .int), (cf102, .int), (cf118, .int), (cf119, .int), (cf105, .int), (cf137, .int)]) [0, 1, 2, 3, 4, 5, 6, 7, 8] rfl
          exact W.zret hx hb hr (by decide) (fun t ht hW => ⟨⟨(0), (z25), rfl, ⟨⟨rfl, Or.inl rfl⟩, hlh_25, hrh_25, hfh_25_117, hfh_25_120, hfh_25_131⟩, by rw [ht]; exact hP9, va_K.moved hW.alike hK9, hD9⟩, hS.F ht⟩) hS.2.2 dX13_wanted_857
        · rw [if_pos c_30] at hsp
          refine lv_aload_n hx hb dX13_wanted_844 rfl (lv_at hl 1 rfl) ?_
          refine lv_iconst (v := 1) hx hb dX13_wanted_845 (by decide) ?_
          obtain ⟨⟨u5_0, g905_1, u5_2⟩, hu_5, hsp⟩ := ox_bind hsp
          try dsimp only at hsp
          have hPc := hP.sub (ws' := [(h0, .inr (13, z25)), (qf128, .inl (cf128, 31, .inl g128_25))]) [0, 2] rfl
          have hDc := hD.sub (ws' := [(h0, .inr (13, z25)), (qf128, .inl (cf128, 31, .inl g128_25))]) [0, 2] (by decide) rfl
          have hKc := hK.sub (tys' := [(cf128, .int)]) [1] rfl
          have hFc := va_free (wc := [(h0, .inr (13, z25)), (qf128, .inl (cf128, 31, .inl g128_25))]) hD hS hA [0, 2] rfl
          refine va_calli (va_runV (As := [.int 1]) (rest := []) ⟨hx, hb, hml, hown, hts⟩ (tm_comesBack l dC dI H.size h0 z25 1 qf128 v130 x131_25 cf128 g128_25 nf u5_0 g905_1 u5_2 hlh_25 hfh_25_128 hfh_25_130 hfh_25_131 hu_5) (cwV 1 hts gv_h9_69 rfl rfl rfl (by decide +kernel) ⟨Nat.le_of_ble_eq_true rfl, Nat.le_of_ble_eq_true rfl⟩) ⟨fun a U g mk q => by obtain ⟨q0, q1, qP, qK, qD⟩ := q; exact ⟨q0, q1, qP, va_K.moved (u := U) (U := U.calling g mk a) (Vm.Alike.refl U.vm) qK, qD⟩, va_recv hKc hPc (ci := 13) (q0 := 0) rfl rfl, fun U hU hW => ⟨rfl, by rw [hU], by rw [hU]; exact hPc, va_K.moved hW.alike hKc, hDc.weaken (fun _ _ _ _ => trivial)⟩⟩ rfl rfl hl.1 rfl (lv_room (Nat.le_of_ble_eq_true rfl)) dX13_wanted_846 ⟨Nat.le_of_ble_eq_true rfl, Nat.le_of_ble_eq_true rfl⟩) hS (fun q _ h => hFc q h) hFc ?_
          clear hS
          intro r_31 u t H1 locs ht hvm hw hB hz1 hk1 hS
          obtain ⟨z_5, rfl⟩ : ∃ z, z = u := ⟨_, rfl⟩
          obtain ⟨hP1, hK1, hD1⟩ := hB
          rw [ht] at hP1
          have hK1 := va_K.moved hvm.symm hK1
          try dsimp only at hw
          have hPD := va_join (wr := [(qf100, .inl (cf100, 48000, .inl f100)), (qf127, .inl (cf127, 30, .inl g127_25)), (qf104, .inl (cf104, 8, .inl f104)), (qf102, .inl (cf102, 2048, .inl f102)), (qf118, .inl (cf118, 2100, .inl g118_25)), (qf119, .inl (cf119, 2100, .inl g119_25)), (qf105, .inl (cf105, 8, .inl f105)), (qf137, .inl (cf137, 6, .inl g137_25))]) (w1 := [(h0, .inr (13, z_5)), (qf128, .inl (cf128, 31, .inl g905_1))]) hP hD [0, 2] [1, 3, 4, 5, 6, 7, 8, 9] rfl rfl (by decide) (by decide) hk1 hFc hP1 hD1
          clear hP hD
          obtain ⟨hP, hD⟩ := hPD
          replace hK := (hK.sub (tys' := [(cf100, .int), (cf127, .int), (cf104, .int), (cf102, .int), (cf118, .int), (cf119, .int), (cf105, .int), (cf137, .int)]) [0, 2, 3, 4, 5, 6, 7, 8] rfl).app hK1
          clear hPc hDc hKc hFc hP1 hK1 hD1 hz1 hk1 ht hvm
          generalize H1 = H at hP hS ⊢
          replace hP : va_P (dC, dI) vwCl [(qf100, .inl (cf100, 48000, .inl f100)), (qf127, .inl (cf127, 30, .inl g127_25)), (qf104, .inl (cf104, 8, .inl f104)), (qf102, .inl (cf102, 2048, .inl f102)), (qf118, .inl (cf118, 2100, .inl g118_25)), (qf119, .inl (cf119, 2100, .inl g119_25)), (qf105, .inl (cf105, 8, .inl f105)), (qf137, .inl (cf137, 6, .inl g137_25)), (h0, .inr (13, z_5)), (qf128, .inl (cf128, 31, .inl g905_1))] H := hP
          replace hD : va_D A [(qf100, .inl (cf100, 48000, .inl f100)), (qf127, .inl (cf127, 30, .inl g127_25)), (qf104, .inl (cf104, 8, .inl f104)), (qf102, .inl (cf102, 2048, .inl f102)), (qf118, .inl (cf118, 2100, .inl g118_25)), (qf119, .inl (cf119, 2100, .inl g119_25)), (qf105, .inl (cf105, 8, .inl f105)), (qf137, .inl (cf137, 6, .inl g137_25)), (h0, .inr (13, z_5)), (qf128, .inl (cf128, 31, .inl g905_1))] := hD
          replace hK : va_K (dC, dI) vwCl [(cf100, .int), (cf127, .int), (cf104, .int), (cf102, .int), (cf118, .int), (cf119, .int), (cf105, .int), (cf137, .int), (cf128, .int)] s := hK
          obtain ⟨hwa_5, hln_5, hre_5, hch_5_131⟩ := hw
          have hfk_5_98 : z_5[98]? = some (.int v98) := (hre_5 98 (by decide)).trans (hfh_25_98)
          have hfk_5_100 : z_5[100]? = some (.ref qf100) := (hre_5 100 (by decide)).trans (hfh_25_100)
          have hfk_5_102 : z_5[102]? = some (.ref qf102) := (hre_5 102 (by decide)).trans (hfh_25_102)
          have hfk_5_104 : z_5[104]? = some (.ref qf104) := (hre_5 104 (by decide)).trans (hfh_25_104)
          have hfk_5_105 : z_5[105]? = some (.ref qf105) := (hre_5 105 (by decide)).trans (hfh_25_105)
          have hfk_5_117 : z_5[117]? = some (.int x117_25) := (hre_5 117 (by decide)).trans (hfh_25_117)
          have hfk_5_118 : z_5[118]? = some (.ref qf118) := (hre_5 118 (by decide)).trans (hfh_25_118)
          have hfk_5_119 : z_5[119]? = some (.ref qf119) := (hre_5 119 (by decide)).trans (hfh_25_119)
          have hfk_5_120 : z_5[120]? = some (.int x120_25) := (hre_5 120 (by decide)).trans (hfh_25_120)
          have hfk_5_127 : z_5[127]? = some (.ref qf127) := (hre_5 127 (by decide)).trans (hfh_25_127)
          have hfk_5_128 : z_5[128]? = some (.ref qf128) := (hre_5 128 (by decide)).trans (hfh_25_128)
          have hfk_5_129 : z_5[129]? = some (.int v129) := (hre_5 129 (by decide)).trans (hfh_25_129)
          have hfk_5_130 : z_5[130]? = some (.int v130) := (hre_5 130 (by decide)).trans (hfh_25_130)
          have hfk_5_132 : z_5[132]? = some (.int v132) := (hre_5 132 (by decide)).trans (hfh_25_132)
          have hfk_5_134 : z_5[134]? = some (.int v134) := (hre_5 134 (by decide)).trans (hfh_25_134)
          have hfk_5_136 : z_5[136]? = some (.int v136) := (hre_5 136 (by decide)).trans (hfh_25_136)
          have hfk_5_137 : z_5[137]? = some (.ref qf137) := (hre_5 137 (by decide)).trans (hfh_25_137)
          have hrq_5 : ∀ j : Nat, j ≠ 117 → j ≠ 120 → j ≠ 131 → z_5[j]? = zs[j]? := fun j g117 g120 g131 => (hre_5 j g131).trans (hrh_25 j g117 g120 g131)
          obtain ⟨rfl, hz_5⟩ := hwa_5
          rcases hz_5 with rfl | rfl
          · rw [if_pos rfl] at hsp
            refine lv_if_eq (tgt := 856) hx hb dX13_wanted_849 (by decide) (fun c_32 => ?_) (fun c_32 => (show False by revert c_32; decide).elim)
            refine lv_iconst (v := 0) hx hb dX13_wanted_856 (by decide) ?_
            have hr0 := Option.some.inj hsp
            clear hsp
            obtain ⟨hq0, hr1⟩ := Prod.mk.inj hr0
            clear hr0
            obtain ⟨hq1, hr2⟩ := Prod.mk.inj hr1
            clear hr1
            obtain ⟨hq2, hr3⟩ := Prod.mk.inj hr2
            clear hr2
            obtain ⟨hq3, hr4⟩ := Prod.mk.inj hr3
            clear hr3
            obtain ⟨hq4, hr5⟩ := Prod.mk.inj hr4
            clear hr4
            obtain ⟨hq5, hr6⟩ := Prod.mk.inj hr5
            clear hr5
            obtain ⟨hq6, hr7⟩ := Prod.mk.inj hr6
            clear hr6
            obtain ⟨hq7, hr8⟩ := Prod.mk.inj hr7
            clear hr7
            subst hq0
            subst hq1
            subst hq2
            subst hq3
            subst hq4
            subst hq5
            subst hq6
            subst hq7
            subst hr8
            have hP9 := hP.sub (ws' := [(h0, .inr (13, z_5)), (qf100, .inl (cf100, 48000, .inl f100)), (qf128, .inl (cf128, 31, .inl g905_1)), (qf127, .inl (cf127, 30, .inl g127_25)), (qf104, .inl (cf104, 8, .inl f104)), (qf102, .inl (cf102, 2048, .inl f102)), (qf118, .inl (cf118, 2100, .inl g118_25)), (qf119, .inl (cf119, 2100, .inl g119_25)), (qf105, .inl (cf105, 8, .inl f105)), (qf137, .inl (cf137, 6, .inl g137_25))]) [8, 0, 9, 1, 2, 3, 4, 5, 6, 7] rfl
            have hD9 := hD.sub (ws' := [(h0, .inr (13, z_5)), (qf100, .inl (cf100, 48000, .inl f100)), (qf128, .inl (cf128, 31, .inl g905_1)), (qf127, .inl (cf127, 30, .inl g127_25)), (qf104, .inl (cf104, 8, .inl f104)), (qf102, .inl (cf102, 2048, .inl f102)), (qf118, .inl (cf118, 2100, .inl g118_25)), (qf119, .inl (cf119, 2100, .inl g119_25)), (qf105, .inl (cf105, 8, .inl f105)), (qf137, .inl (cf137, 6, .inl g137_25))]) [8, 0, 9, 1, 2, 3, 4, 5, 6, 7] (by decide) rfl
            have hK9 := hK.sub (tys' := [(cf100, .int), (cf128, .int), (cf127, .int), (cf104, .int), (cf102, .int), (cf118, .int), (cf119, .int), (cf105, .int), (cf137, .int)]) [0, 8, 1, 2, 3, 4, 5, 6, 7] rfl
            exact W.zret hx hb hr (by decide) (fun t ht hW => ⟨⟨(0), (z_5), rfl, ⟨⟨rfl, Or.inl rfl⟩, hln_5, hrq_5, hfk_5_117, hfk_5_120, hch_5_131⟩, by rw [ht]; exact hP9, va_K.moved hW.alike hK9, hD9⟩, hS.F ht⟩) hS.2.2 dX13_wanted_857
          · rw [if_neg (by decide)] at hsp
            refine lv_if_eq (tgt := 856) hx hb dX13_wanted_849 (by decide) (fun c_33 => (show False by revert c_33; decide).elim) (fun c_33 => ?_)
            refine lv_iconst (v := 1) hx hb dX13_wanted_852 (by decide) ?_
            refine lv_goto (tgt := 857) hx hb dX13_wanted_853 (by decide) ?_
            have hr0 := Option.some.inj hsp
            clear hsp
            obtain ⟨hq0, hr1⟩ := Prod.mk.inj hr0
            clear hr0
            obtain ⟨hq1, hr2⟩ := Prod.mk.inj hr1
            clear hr1
            obtain ⟨hq2, hr3⟩ := Prod.mk.inj hr2
            clear hr2
            obtain ⟨hq3, hr4⟩ := Prod.mk.inj hr3
            clear hr3
            obtain ⟨hq4, hr5⟩ := Prod.mk.inj hr4
            clear hr4
            obtain ⟨hq5, hr6⟩ := Prod.mk.inj hr5
            clear hr5
            obtain ⟨hq6, hr7⟩ := Prod.mk.inj hr6
            clear hr6
            obtain ⟨hq7, hr8⟩ := Prod.mk.inj hr7
            clear hr7
            subst hq0
            subst hq1
            subst hq2
            subst hq3
            subst hq4
            subst hq5
            subst hq6
            subst hq7
            subst hr8
            have hP9 := hP.sub (ws' := [(h0, .inr (13, z_5)), (qf100, .inl (cf100, 48000, .inl f100)), (qf128, .inl (cf128, 31, .inl g905_1)), (qf127, .inl (cf127, 30, .inl g127_25)), (qf104, .inl (cf104, 8, .inl f104)), (qf102, .inl (cf102, 2048, .inl f102)), (qf118, .inl (cf118, 2100, .inl g118_25)), (qf119, .inl (cf119, 2100, .inl g119_25)), (qf105, .inl (cf105, 8, .inl f105)), (qf137, .inl (cf137, 6, .inl g137_25))]) [8, 0, 9, 1, 2, 3, 4, 5, 6, 7] rfl
            have hD9 := hD.sub (ws' := [(h0, .inr (13, z_5)), (qf100, .inl (cf100, 48000, .inl f100)), (qf128, .inl (cf128, 31, .inl g905_1)), (qf127, .inl (cf127, 30, .inl g127_25)), (qf104, .inl (cf104, 8, .inl f104)), (qf102, .inl (cf102, 2048, .inl f102)), (qf118, .inl (cf118, 2100, .inl g118_25)), (qf119, .inl (cf119, 2100, .inl g119_25)), (qf105, .inl (cf105, 8, .inl f105)), (qf137, .inl (cf137, 6, .inl g137_25))]) [8, 0, 9, 1, 2, 3, 4, 5, 6, 7] (by decide) rfl
            have hK9 := hK.sub (tys' := [(cf100, .int), (cf128, .int), (cf127, .int), (cf104, .int), (cf102, .int), (cf118, .int), (cf119, .int), (cf105, .int), (cf137, .int)]) [0, 8, 1, 2, 3, 4, 5, 6, 7] rfl
            exact W.zret hx hb hr (by decide) (fun t ht hW => ⟨⟨(1), (z_5), rfl, ⟨⟨rfl, Or.inr rfl⟩, hln_5, hrq_5, hfk_5_117, hfk_5_120, hch_5_131⟩, by rw [ht]; exact hP9, va_K.moved hW.alike hK9, hD9⟩, hS.F ht⟩) hS.2.2 dX13_wanted_857
    rw [if_neg hs_27] at hsp
    by_cases hs_34 : l2_25 = 22
    · rw [if_pos hs_34] at hsp
      refine lv_tableIn (tgt := 1642) hx hb dX13_wanted_27 (by rw [hs_34]; decide) (by rw [hs_34]; decide) (off := 1615) (by rw [hs_34]; rfl) (by decide) ?_
      exact hj_1642 (H, locs, ls, z25, g118_25, g119_25, g127_25, g128_25, g137_25, x117_25, x120_25, x131_25) ⟨lv_sub hl [1] rfl, hS, hD.sub (ws' := [(h0, .inr (13, z25)), (qf100, .inl (cf100, 48000, .inl f100)), (qf128, .inl (cf128, 31, .inl g128_25)), (qf127, .inl (cf127, 30, .inl g127_25)), (qf104, .inl (cf104, 8, .inl f104)), (qf102, .inl (cf102, 2048, .inl f102)), (qf118, .inl (cf118, 2100, .inl g118_25)), (qf119, .inl (cf119, 2100, .inl g119_25)), (qf105, .inl (cf105, 8, .inl f105)), (qf137, .inl (cf137, 6, .inl g137_25))]) [0, 1, 2, 3, 4, 5, 6, 7, 8, 9] (by decide) rfl, hP.sub (ws' := [(h0, .inr (13, z25)), (qf100, .inl (cf100, 48000, .inl f100)), (qf128, .inl (cf128, 31, .inl g128_25)), (qf127, .inl (cf127, 30, .inl g127_25)), (qf104, .inl (cf104, 8, .inl f104)), (qf102, .inl (cf102, 2048, .inl f102)), (qf118, .inl (cf118, 2100, .inl g118_25)), (qf119, .inl (cf119, 2100, .inl g119_25)), (qf105, .inl (cf105, 8, .inl f105)), (qf137, .inl (cf137, 6, .inl g137_25))]) [0, 1, 2, 3, 4, 5, 6, 7, 8, 9] rfl, hfh_25_98, hfh_25_100, hfh_25_102, hfh_25_104, hfh_25_105, hfh_25_117, hfh_25_118, hfh_25_119, hfh_25_120, hfh_25_127, hfh_25_128, hfh_25_129, hfh_25_130, hfh_25_131, hfh_25_132, hfh_25_134, hfh_25_136, hfh_25_137, hlh_25, hrh_25, hsp⟩
    rw [if_neg hs_34] at hsp
    by_cases hs_35 : l2_25 = 23
    · rw [if_pos hs_35] at hsp
      refine lv_tableIn (tgt := 1642) hx hb dX13_wanted_27 (by rw [hs_35]; decide) (by rw [hs_35]; decide) (off := 1615) (by rw [hs_35]; rfl) (by decide) ?_
      exact hj_1642 (H, locs, ls, z25, g118_25, g119_25, g127_25, g128_25, g137_25, x117_25, x120_25, x131_25) ⟨lv_sub hl [1] rfl, hS, hD.sub (ws' := [(h0, .inr (13, z25)), (qf100, .inl (cf100, 48000, .inl f100)), (qf128, .inl (cf128, 31, .inl g128_25)), (qf127, .inl (cf127, 30, .inl g127_25)), (qf104, .inl (cf104, 8, .inl f104)), (qf102, .inl (cf102, 2048, .inl f102)), (qf118, .inl (cf118, 2100, .inl g118_25)), (qf119, .inl (cf119, 2100, .inl g119_25)), (qf105, .inl (cf105, 8, .inl f105)), (qf137, .inl (cf137, 6, .inl g137_25))]) [0, 1, 2, 3, 4, 5, 6, 7, 8, 9] (by decide) rfl, hP.sub (ws' := [(h0, .inr (13, z25)), (qf100, .inl (cf100, 48000, .inl f100)), (qf128, .inl (cf128, 31, .inl g128_25)), (qf127, .inl (cf127, 30, .inl g127_25)), (qf104, .inl (cf104, 8, .inl f104)), (qf102, .inl (cf102, 2048, .inl f102)), (qf118, .inl (cf118, 2100, .inl g118_25)), (qf119, .inl (cf119, 2100, .inl g119_25)), (qf105, .inl (cf105, 8, .inl f105)), (qf137, .inl (cf137, 6, .inl g137_25))]) [0, 1, 2, 3, 4, 5, 6, 7, 8, 9] rfl, hfh_25_98, hfh_25_100, hfh_25_102, hfh_25_104, hfh_25_105, hfh_25_117, hfh_25_118, hfh_25_119, hfh_25_120, hfh_25_127, hfh_25_128, hfh_25_129, hfh_25_130, hfh_25_131, hfh_25_132, hfh_25_134, hfh_25_136, hfh_25_137, hlh_25, hrh_25, hsp⟩
    rw [if_neg hs_35] at hsp
    by_cases hs_36 : l2_25 = 24
    · rw [if_pos hs_36] at hsp
      refine lv_tableIn (tgt := 1642) hx hb dX13_wanted_27 (by rw [hs_36]; decide) (by rw [hs_36]; decide) (off := 1615) (by rw [hs_36]; rfl) (by decide) ?_
      exact hj_1642 (H, locs, ls, z25, g118_25, g119_25, g127_25, g128_25, g137_25, x117_25, x120_25, x131_25) ⟨lv_sub hl [1] rfl, hS, hD.sub (ws' := [(h0, .inr (13, z25)), (qf100, .inl (cf100, 48000, .inl f100)), (qf128, .inl (cf128, 31, .inl g128_25)), (qf127, .inl (cf127, 30, .inl g127_25)), (qf104, .inl (cf104, 8, .inl f104)), (qf102, .inl (cf102, 2048, .inl f102)), (qf118, .inl (cf118, 2100, .inl g118_25)), (qf119, .inl (cf119, 2100, .inl g119_25)), (qf105, .inl (cf105, 8, .inl f105)), (qf137, .inl (cf137, 6, .inl g137_25))]) [0, 1, 2, 3, 4, 5, 6, 7, 8, 9] (by decide) rfl, hP.sub (ws' := [(h0, .inr (13, z25)), (qf100, .inl (cf100, 48000, .inl f100)), (qf128, .inl (cf128, 31, .inl g128_25)), (qf127, .inl (cf127, 30, .inl g127_25)), (qf104, .inl (cf104, 8, .inl f104)), (qf102, .inl (cf102, 2048, .inl f102)), (qf118, .inl (cf118, 2100, .inl g118_25)), (qf119, .inl (cf119, 2100, .inl g119_25)), (qf105, .inl (cf105, 8, .inl f105)), (qf137, .inl (cf137, 6, .inl g137_25))]) [0, 1, 2, 3, 4, 5, 6, 7, 8, 9] rfl, hfh_25_98, hfh_25_100, hfh_25_102, hfh_25_104, hfh_25_105, hfh_25_117, hfh_25_118, hfh_25_119, hfh_25_120, hfh_25_127, hfh_25_128, hfh_25_129, hfh_25_130, hfh_25_131, hfh_25_132, hfh_25_134, hfh_25_136, hfh_25_137, hlh_25, hrh_25, hsp⟩
    rw [if_neg hs_36] at hsp
    by_cases hs_37 : l2_25 = 25
    · rw [if_pos hs_37] at hsp
      refine lv_tableIn (tgt := 858) hx hb dX13_wanted_27 (by rw [hs_37]; decide) (by rw [hs_37]; decide) (off := 831) (by rw [hs_37]; rfl) (by decide) ?_
      refine lv_iload_n hx hb dX13_wanted_858 rfl (lv_at hl 0 rfl) ?_
      refine lv_aload_n hx hb dX13_wanted_859 rfl (lv_at hl 1 rfl) ?_
      refine va_get (D := (dC, dI)) (ci := 13) (v := .int v129) (C := RX13) (T := TX13) (N := 155) hx hb hts uV_h9_X13 hown hK hP 0 rfl rfl 129 (by decide) (hts (.fieldLink RX13 964 "ClassMillModel" "localMany" "I") mw_h9_561) (fun _ h9 => h9) hfh_25_129 dX13_wanted_860 ?_
      refine lv_icmp_ge (tgt := 893) hx hb dX13_wanted_863 (by decide) (fun c_38 => ?_) (fun c_38 => ?_)
      · rw [if_pos c_38] at hsp
        refine lv_iconst (v := 0) hx hb dX13_wanted_893 (by decide) ?_
        have hr0 := Option.some.inj hsp
        clear hsp
        obtain ⟨hq0, hr1⟩ := Prod.mk.inj hr0
        clear hr0
        obtain ⟨hq1, hr2⟩ := Prod.mk.inj hr1
        clear hr1
        obtain ⟨hq2, hr3⟩ := Prod.mk.inj hr2
        clear hr2
        obtain ⟨hq3, hr4⟩ := Prod.mk.inj hr3
        clear hr3
        obtain ⟨hq4, hr5⟩ := Prod.mk.inj hr4
        clear hr4
        obtain ⟨hq5, hr6⟩ := Prod.mk.inj hr5
        clear hr5
        obtain ⟨hq6, hr7⟩ := Prod.mk.inj hr6
        clear hr6
        obtain ⟨hq7, hr8⟩ := Prod.mk.inj hr7
        clear hr7
        subst hq0
        subst hq1
        subst hq2
        subst hq3
        subst hq4
        subst hq5
        subst hq6
        subst hq7
        subst hr8
        have hP9 := hP.sub (ws' := [(h0, .inr (13, z25)), (qf100, .inl (cf100, 48000, .inl f100)), (qf128, .inl (cf128, 31, .inl g128_25)), (qf127, .inl (cf127, 30, .inl g127_25)), (qf104, .inl (cf104, 8, .inl f104)), (qf102, .inl (cf102, 2048, .inl f102)), (qf118, .inl (cf118, 2100, .inl g118_25)), (qf119, .inl (cf119, 2100, .inl g119_25)), (qf105, .inl (cf105, 8, .inl f105)), (qf137, .inl (cf137, 6, .inl g137_25))]) [0, 1, 2, 3, 4, 5, 6, 7, 8, 9] rfl
        have hD9 := hD.sub (ws' := [(h0, .inr (13, z25)), (qf100, .inl (cf100, 48000, .inl f100)), (qf128, .inl (cf128, 31, .inl g128_25)), (qf127, .inl (cf127, 30, .inl g127_25)), (qf104, .inl (cf104, 8, .inl f104)), (qf102, .inl (cf102, 2048, .inl f102)), (qf118, .inl (cf118, 2100, .inl g118_25)), (qf119, .inl (cf119, 2100, .inl g119_25)), (qf105, .inl (cf105, 8, .inl f105)), (qf137, .inl (cf137, 6, .inl g137_25))]) [0, 1, 2, 3, 4, 5, 6, 7, 8, 9] (by decide) rfl
        have hK9 := hK.sub (tys' := [(cf100, .int), (cf128, .int), (cf127, .int), (cf104, .int), (cf102, .int), (cf118, .int), (cf119, .int), (cf105, .int), (cf137, .int)]) [0, 1, 2, 3, 4, 5, 6, 7, 8] rfl
        exact W.zret hx hb hr (by decide) (fun t ht hW => ⟨⟨(0), (z25), rfl, ⟨⟨rfl, Or.inl rfl⟩, hlh_25, hrh_25, hfh_25_117, hfh_25_120, hfh_25_131⟩, by rw [ht]; exact hP9, va_K.moved hW.alike hK9, hD9⟩, hS.F ht⟩) hS.2.2 dX13_wanted_894
      · rw [if_neg c_38] at hsp
        refine lv_aload_n hx hb dX13_wanted_866 rfl (lv_at hl 1 rfl) ?_
        refine va_get (D := (dC, dI)) (ci := 13) (v := .ref qf127) (C := RX13) (T := TX13) (N := 155) hx hb hts uV_h9_X13 hown hK hP 0 rfl rfl 127 (by decide) (hts (.fieldLink RX13 270 "ClassMillModel" "locals" "[I") mw_h9_558) (fun _ h9 => h9) hfh_25_127 dX13_wanted_867 ?_
        refine lv_iload_n hx hb dX13_wanted_870 rfl (lv_at hl 0 rfl) ?_
        obtain ⟨hi_39, hsp⟩ := ox_in hsp
        refine va_iald hx hb hK hP 3 2 rfl rfl (i := s0_25) hi_39 dX13_wanted_871 ?_
        refine lv_iconst (v := 2) hx hb dX13_wanted_872 (by decide) ?_
        refine lv_icmp_lt (tgt := 893) hx hb dX13_wanted_873 (by decide) (fun c_40 => ?_) (fun c_40 => ?_)
        · rw [if_pos c_40] at hsp
          refine lv_iconst (v := 0) hx hb dX13_wanted_893 (by decide) ?_
          have hr0 := Option.some.inj hsp
          clear hsp
          obtain ⟨hq0, hr1⟩ := Prod.mk.inj hr0
          clear hr0
          obtain ⟨hq1, hr2⟩ := Prod.mk.inj hr1
          clear hr1
          obtain ⟨hq2, hr3⟩ := Prod.mk.inj hr2
          clear hr2
          obtain ⟨hq3, hr4⟩ := Prod.mk.inj hr3
          clear hr3
          obtain ⟨hq4, hr5⟩ := Prod.mk.inj hr4
          clear hr4
          obtain ⟨hq5, hr6⟩ := Prod.mk.inj hr5
          clear hr5
          obtain ⟨hq6, hr7⟩ := Prod.mk.inj hr6
          clear hr6
          obtain ⟨hq7, hr8⟩ := Prod.mk.inj hr7
          clear hr7
          subst hq0
          subst hq1
          subst hq2
          subst hq3
          subst hq4
          subst hq5
          subst hq6
          subst hq7
          subst hr8
          have hP9 := hP.sub (ws' := [(h0, .inr (13, z25)), (qf100, .inl (cf100, 48000, .inl f100)), (qf128, .inl (cf128, 31, .inl g128_25)), (qf127, .inl (cf127, 30, .inl g127_25)), (qf104, .inl (cf104, 8, .inl f104)), (qf102, .inl (cf102, 2048, .inl f102)), (qf118, .inl (cf118, 2100, .inl g118_25)), (qf119, .inl (cf119, 2100, .inl g119_25)), (qf105, .inl (cf105, 8, .inl f105)), (qf137, .inl (cf137, 6, .inl g137_25))]) [0, 1, 2, 3, 4, 5, 6, 7, 8, 9] rfl
          have hD9 := hD.sub (ws' := [(h0, .inr (13, z25)), (qf100, .inl (cf100, 48000, .inl f100)), (qf128, .inl (cf128, 31, .inl g128_25)), (qf127, .inl (cf127, 30, .inl g127_25)), (qf104, .inl (cf104, 8, .inl f104)), (qf102, .inl (cf102, 2048, .inl f102)), (qf118, .inl (cf118, 2100, .inl g118_25)), (qf119, .inl (cf119, 2100, .inl g119_25)), (qf105, .inl (cf105, 8, .inl f105)), (qf137, .inl (cf137, 6, .inl g137_25))]) [0, 1, 2, 3, 4, 5, 6, 7, 8, 9] (by decide) rfl
          have hK9 := hK.sub (tys' := [(cf100, .int), (cf128, .int), (cf127, .int), (cf104, .int), (cf102, .int), (cf118, .int), (cf119, .int), (cf105, .int), (cf137, .int)]) [0, 1, 2, 3, 4, 5, 6, 7, 8] rfl
          exact W.zret hx hb hr (by decide) (fun t ht hW => ⟨⟨(0), (z25), rfl, ⟨⟨rfl, Or.inl rfl⟩, hlh_25, hrh_25, hfh_25_117, hfh_25_120, hfh_25_131⟩, by rw [ht]; exact hP9, va_K.moved hW.alike hK9, hD9⟩, hS.F ht⟩) hS.2.2 dX13_wanted_894
        · rw [if_neg c_40] at hsp
          refine lv_aload_n hx hb dX13_wanted_876 rfl (lv_at hl 1 rfl) ?_
          refine lv_aload_n hx hb dX13_wanted_877 rfl (lv_at hl 1 rfl) ?_
          refine va_get (D := (dC, dI)) (ci := 13) (v := .ref qf127) (C := RX13) (T := TX13) (N := 155) hx hb hts uV_h9_X13 hown hK hP 0 rfl rfl 127 (by decide) (hts (.fieldLink RX13 270 "ClassMillModel" "locals" "[I") mw_h9_558) (fun _ h9 => h9) hfh_25_127 dX13_wanted_878 ?_
          refine lv_iload_n hx hb dX13_wanted_881 rfl (lv_at hl 0 rfl) ?_
          obtain ⟨hi_41, hsp⟩ := ox_in hsp
          refine va_iald hx hb hK hP 3 2 rfl rfl (i := s0_25) hi_41 dX13_wanted_882 ?_
          obtain ⟨⟨u6_0, g906_1, u6_2⟩, hu_6, hsp⟩ := ox_bind hsp
          try dsimp only at hsp
          have hPc := hP.sub (ws' := [(h0, .inr (13, z25)), (qf128, .inl (cf128, 31, .inl g128_25))]) [0, 2] rfl
          have hDc := hD.sub (ws' := [(h0, .inr (13, z25)), (qf128, .inl (cf128, 31, .inl g128_25))]) [0, 2] (by decide) rfl
          have hKc := hK.sub (tys' := [(cf128, .int)]) [1] rfl
          have hFc := va_free (wc := [(h0, .inr (13, z25)), (qf128, .inl (cf128, 31, .inl g128_25))]) hD hS hA [0, 2] rfl
          refine va_calli (va_runV (As := [.int (g127_25 (s0_25 : Int32).toNatClampNeg)]) (rest := []) ⟨hx, hb, hml, hown, hts⟩ (tm_comesBack l dC dI H.size h0 z25 ((g127_25 (s0_25 : Int32).toNatClampNeg)) qf128 v130 x131_25 cf128 g128_25 nf u6_0 g906_1 u6_2 hlh_25 hfh_25_128 hfh_25_130 hfh_25_131 hu_6) (cwV 1 hts gv_h9_69 rfl rfl rfl (by decide +kernel) ⟨Nat.le_of_ble_eq_true rfl, Nat.le_of_ble_eq_true rfl⟩) ⟨fun a U g mk q => by obtain ⟨q0, q1, qP, qK, qD⟩ := q; exact ⟨q0, q1, qP, va_K.moved (u := U) (U := U.calling g mk a) (Vm.Alike.refl U.vm) qK, qD⟩, va_recv hKc hPc (ci := 13) (q0 := 0) rfl rfl, fun U hU hW => ⟨rfl, by rw [hU], by rw [hU]; exact hPc, va_K.moved hW.alike hKc, hDc.weaken (fun _ _ _ _ => trivial)⟩⟩ rfl rfl hl.1 rfl (lv_room (Nat.le_of_ble_eq_true rfl)) dX13_wanted_883 ⟨Nat.le_of_ble_eq_true rfl, Nat.le_of_ble_eq_true rfl⟩) hS (fun q _ h => hFc q h) hFc ?_
          clear hS
          intro r_42 u t H1 locs ht hvm hw hB hz1 hk1 hS
          obtain ⟨z_6, rfl⟩ : ∃ z, z = u := ⟨_, rfl⟩
          obtain ⟨hP1, hK1, hD1⟩ := hB
          rw [ht] at hP1
          have hK1 := va_K.moved hvm.symm hK1
          try dsimp only at hw
          have hPD := va_join (wr := [(qf100, .inl (cf100, 48000, .inl f100)), (qf127, .inl (cf127, 30, .inl g127_25)), (qf104, .inl (cf104, 8, .inl f104)), (qf102, .inl (cf102, 2048, .inl f102)), (qf118, .inl (cf118, 2100, .inl g118_25)), (qf119, .inl (cf119, 2100, .inl g119_25)), (qf105, .inl (cf105, 8, .inl f105)), (qf137, .inl (cf137, 6, .inl g137_25))]) (w1 := [(h0, .inr (13, z_6)), (qf128, .inl (cf128, 31, .inl g906_1))]) hP hD [0, 2] [1, 3, 4, 5, 6, 7, 8, 9] rfl rfl (by decide) (by decide) hk1 hFc hP1 hD1
          clear hP hD
          obtain ⟨hP, hD⟩ := hPD
          replace hK := (hK.sub (tys' := [(cf100, .int), (cf127, .int), (cf104, .int), (cf102, .int), (cf118, .int), (cf119, .int), (cf105, .int), (cf137, .int)]) [0, 2, 3, 4, 5, 6, 7, 8] rfl).app hK1
          clear hPc hDc hKc hFc hP1 hK1 hD1 hz1 hk1 ht hvm
          generalize H1 = H at hP hS ⊢
          replace hP : va_P (dC, dI) vwCl [(qf100, .inl (cf100, 48000, .inl f100)), (qf127, .inl (cf127, 30, .inl g127_25)), (qf104, .inl (cf104, 8, .inl f104)), (qf102, .inl (cf102, 2048, .inl f102)), (qf118, .inl (cf118, 2100, .inl g118_25)), (qf119, .inl (cf119, 2100, .inl g119_25)), (qf105, .inl (cf105, 8, .inl f105)), (qf137, .inl (cf137, 6, .inl g137_25)), (h0, .inr (13, z_6)), (qf128, .inl (cf128, 31, .inl g906_1))] H := hP
          replace hD : va_D A [(qf100, .inl (cf100, 48000, .inl f100)), (qf127, .inl (cf127, 30, .inl g127_25)), (qf104, .inl (cf104, 8, .inl f104)), (qf102, .inl (cf102, 2048, .inl f102)), (qf118, .inl (cf118, 2100, .inl g118_25)), (qf119, .inl (cf119, 2100, .inl g119_25)), (qf105, .inl (cf105, 8, .inl f105)), (qf137, .inl (cf137, 6, .inl g137_25)), (h0, .inr (13, z_6)), (qf128, .inl (cf128, 31, .inl g906_1))] := hD
          replace hK : va_K (dC, dI) vwCl [(cf100, .int), (cf127, .int), (cf104, .int), (cf102, .int), (cf118, .int), (cf119, .int), (cf105, .int), (cf137, .int), (cf128, .int)] s := hK
          obtain ⟨hwa_6, hln_6, hre_6, hch_6_131⟩ := hw
          have hfk_6_98 : z_6[98]? = some (.int v98) := (hre_6 98 (by decide)).trans (hfh_25_98)
          have hfk_6_100 : z_6[100]? = some (.ref qf100) := (hre_6 100 (by decide)).trans (hfh_25_100)
          have hfk_6_102 : z_6[102]? = some (.ref qf102) := (hre_6 102 (by decide)).trans (hfh_25_102)
          have hfk_6_104 : z_6[104]? = some (.ref qf104) := (hre_6 104 (by decide)).trans (hfh_25_104)
          have hfk_6_105 : z_6[105]? = some (.ref qf105) := (hre_6 105 (by decide)).trans (hfh_25_105)
          have hfk_6_117 : z_6[117]? = some (.int x117_25) := (hre_6 117 (by decide)).trans (hfh_25_117)
          have hfk_6_118 : z_6[118]? = some (.ref qf118) := (hre_6 118 (by decide)).trans (hfh_25_118)
          have hfk_6_119 : z_6[119]? = some (.ref qf119) := (hre_6 119 (by decide)).trans (hfh_25_119)
          have hfk_6_120 : z_6[120]? = some (.int x120_25) := (hre_6 120 (by decide)).trans (hfh_25_120)
          have hfk_6_127 : z_6[127]? = some (.ref qf127) := (hre_6 127 (by decide)).trans (hfh_25_127)
          have hfk_6_128 : z_6[128]? = some (.ref qf128) := (hre_6 128 (by decide)).trans (hfh_25_128)
          have hfk_6_129 : z_6[129]? = some (.int v129) := (hre_6 129 (by decide)).trans (hfh_25_129)
          have hfk_6_130 : z_6[130]? = some (.int v130) := (hre_6 130 (by decide)).trans (hfh_25_130)
          have hfk_6_132 : z_6[132]? = some (.int v132) := (hre_6 132 (by decide)).trans (hfh_25_132)
          have hfk_6_134 : z_6[134]? = some (.int v134) := (hre_6 134 (by decide)).trans (hfh_25_134)
          have hfk_6_136 : z_6[136]? = some (.int v136) := (hre_6 136 (by decide)).trans (hfh_25_136)
          have hfk_6_137 : z_6[137]? = some (.ref qf137) := (hre_6 137 (by decide)).trans (hfh_25_137)
          have hrq_6 : ∀ j : Nat, j ≠ 117 → j ≠ 120 → j ≠ 131 → z_6[j]? = zs[j]? := fun j g117 g120 g131 => (hre_6 j g131).trans (hrh_25 j g117 g120 g131)
          obtain ⟨rfl, hz_6⟩ := hwa_6
          rcases hz_6 with rfl | rfl
          · rw [if_pos rfl] at hsp
            refine lv_if_eq (tgt := 893) hx hb dX13_wanted_886 (by decide) (fun c_43 => ?_) (fun c_43 => (show False by revert c_43; decide).elim)
            refine lv_iconst (v := 0) hx hb dX13_wanted_893 (by decide) ?_
            have hr0 := Option.some.inj hsp
            clear hsp
            obtain ⟨hq0, hr1⟩ := Prod.mk.inj hr0
            clear hr0
            obtain ⟨hq1, hr2⟩ := Prod.mk.inj hr1
            clear hr1
            obtain ⟨hq2, hr3⟩ := Prod.mk.inj hr2
            clear hr2
            obtain ⟨hq3, hr4⟩ := Prod.mk.inj hr3
            clear hr3
            obtain ⟨hq4, hr5⟩ := Prod.mk.inj hr4
            clear hr4
            obtain ⟨hq5, hr6⟩ := Prod.mk.inj hr5
            clear hr5
            obtain ⟨hq6, hr7⟩ := Prod.mk.inj hr6
            clear hr6
            obtain ⟨hq7, hr8⟩ := Prod.mk.inj hr7
            clear hr7
            subst hq0
            subst hq1
            subst hq2
            subst hq3
            subst hq4
            subst hq5
            subst hq6
            subst hq7
            subst hr8
            have hP9 := hP.sub (ws' := [(h0, .inr (13, z_6)), (qf100, .inl (cf100, 48000, .inl f100)), (qf128, .inl (cf128, 31, .inl g906_1)), (qf127, .inl (cf127, 30, .inl g127_25)), (qf104, .inl (cf104, 8, .inl f104)), (qf102, .inl (cf102, 2048, .inl f102)), (qf118, .inl (cf118, 2100, .inl g118_25)), (qf119, .inl (cf119, 2100, .inl g119_25)), (qf105, .inl (cf105, 8, .inl f105)), (qf137, .inl (cf137, 6, .inl g137_25))]) [8, 0, 9, 1, 2, 3, 4, 5, 6, 7] rfl
            have hD9 := hD.sub (ws' := [(h0, .inr (13, z_6)), (qf100, .inl (cf100, 48000, .inl f100)), (qf128, .inl (cf128, 31, .inl g906_1)), (qf127, .inl (cf127, 30, .inl g127_25)), (qf104, .inl (cf104, 8, .inl f104)), (qf102, .inl (cf102, 2048, .inl f102)), (qf118, .inl (cf118, 2100, .inl g118_25)), (qf119, .inl (cf119, 2100, .inl g119_25)), (qf105, .inl (cf105, 8, .inl f105)), (qf137, .inl (cf137, 6, .inl g137_25))]) [8, 0, 9, 1, 2, 3, 4, 5, 6, 7] (by decide) rfl
            have hK9 := hK.sub (tys' := [(cf100, .int), (cf128, .int), (cf127, .int), (cf104, .int), (cf102, .int), (cf118, .int), (cf119, .int), (cf105, .int), (cf137, .int)]) [0, 8, 1, 2, 3, 4, 5, 6, 7] rfl
            exact W.zret hx hb hr (by decide) (fun t ht hW => ⟨⟨(0), (z_6), rfl, ⟨⟨rfl, Or.inl rfl⟩, hln_6, hrq_6, hfk_6_117, hfk_6_120, hch_6_131⟩, by rw [ht]; exact hP9, va_K.moved hW.alike hK9, hD9⟩, hS.F ht⟩) hS.2.2 dX13_wanted_894
          · rw [if_neg (by decide)] at hsp
            refine lv_if_eq (tgt := 893) hx hb dX13_wanted_886 (by decide) (fun c_44 => (show False by revert c_44; decide).elim) (fun c_44 => ?_)
            refine lv_iconst (v := 1) hx hb dX13_wanted_889 (by decide) ?_
            refine lv_goto (tgt := 894) hx hb dX13_wanted_890 (by decide) ?_
            have hr0 := Option.some.inj hsp
            clear hsp
            obtain ⟨hq0, hr1⟩ := Prod.mk.inj hr0
            clear hr0
            obtain ⟨hq1, hr2⟩ := Prod.mk.inj hr1
            clear hr1
            obtain ⟨hq2, hr3⟩ := Prod.mk.inj hr2
            clear hr2
            obtain ⟨hq3, hr4⟩ := Prod.mk.inj hr3
            clear hr3
            obtain ⟨hq4, hr5⟩ := Prod.mk.inj hr4
            clear hr4
            obtain ⟨hq5, hr6⟩ := Prod.mk.inj hr5
            clear hr5
            obtain ⟨hq6, hr7⟩ := Prod.mk.inj hr6
            clear hr6
            obtain ⟨hq7, hr8⟩ := Prod.mk.inj hr7
            clear hr7
            subst hq0
            subst hq1
            subst hq2
            subst hq3
            subst hq4
            subst hq5
            subst hq6
            subst hq7
            subst hr8
            have hP9 := hP.sub (ws' := [(h0, .inr (13, z_6)), (qf100, .inl (cf100, 48000, .inl f100)), (qf128, .inl (cf128, 31, .inl g906_1)), (qf127, .inl (cf127, 30, .inl g127_25)), (qf104, .inl (cf104, 8, .inl f104)), (qf102, .inl (cf102, 2048, .inl f102)), (qf118, .inl (cf118, 2100, .inl g118_25)), (qf119, .inl (cf119, 2100, .inl g119_25)), (qf105, .inl (cf105, 8, .inl f105)), (qf137, .inl (cf137, 6, .inl g137_25))]) [8, 0, 9, 1, 2, 3, 4, 5, 6, 7] rfl
            have hD9 := hD.sub (ws' := [(h0, .inr (13, z_6)), (qf100, .inl (cf100, 48000, .inl f100)), (qf128, .inl (cf128, 31, .inl g906_1)), (qf127, .inl (cf127, 30, .inl g127_25)), (qf104, .inl (cf104, 8, .inl f104)), (qf102, .inl (cf102, 2048, .inl f102)), (qf118, .inl (cf118, 2100, .inl g118_25)), (qf119, .inl (cf119, 2100, .inl g119_25)), (qf105, .inl (cf105, 8, .inl f105)), (qf137, .inl (cf137, 6, .inl g137_25))]) [8, 0, 9, 1, 2, 3, 4, 5, 6, 7] (by decide) rfl
            have hK9 := hK.sub (tys' := [(cf100, .int), (cf128, .int), (cf127, .int), (cf104, .int), (cf102, .int), (cf118, .int), (cf119, .int), (cf105, .int), (cf137, .int)]) [0, 8, 1, 2, 3, 4, 5, 6, 7] rfl
            exact W.zret hx hb hr (by decide) (fun t ht hW => ⟨⟨(1), (z_6), rfl, ⟨⟨rfl, Or.inr rfl⟩, hln_6, hrq_6, hfk_6_117, hfk_6_120, hch_6_131⟩, by rw [ht]; exact hP9, va_K.moved hW.alike hK9, hD9⟩, hS.F ht⟩) hS.2.2 dX13_wanted_894
    rw [if_neg hs_37] at hsp
    by_cases hs_45 : l2_25 = 26
    · rw [if_pos hs_45] at hsp
      refine lv_tableIn (tgt := 1642) hx hb dX13_wanted_27 (by rw [hs_45]; decide) (by rw [hs_45]; decide) (off := 1615) (by rw [hs_45]; rfl) (by decide) ?_
      exact hj_1642 (H, locs, ls, z25, g118_25, g119_25, g127_25, g128_25, g137_25, x117_25, x120_25, x131_25) ⟨lv_sub hl [1] rfl, hS, hD.sub (ws' := [(h0, .inr (13, z25)), (qf100, .inl (cf100, 48000, .inl f100)), (qf128, .inl (cf128, 31, .inl g128_25)), (qf127, .inl (cf127, 30, .inl g127_25)), (qf104, .inl (cf104, 8, .inl f104)), (qf102, .inl (cf102, 2048, .inl f102)), (qf118, .inl (cf118, 2100, .inl g118_25)), (qf119, .inl (cf119, 2100, .inl g119_25)), (qf105, .inl (cf105, 8, .inl f105)), (qf137, .inl (cf137, 6, .inl g137_25))]) [0, 1, 2, 3, 4, 5, 6, 7, 8, 9] (by decide) rfl, hP.sub (ws' := [(h0, .inr (13, z25)), (qf100, .inl (cf100, 48000, .inl f100)), (qf128, .inl (cf128, 31, .inl g128_25)), (qf127, .inl (cf127, 30, .inl g127_25)), (qf104, .inl (cf104, 8, .inl f104)), (qf102, .inl (cf102, 2048, .inl f102)), (qf118, .inl (cf118, 2100, .inl g118_25)), (qf119, .inl (cf119, 2100, .inl g119_25)), (qf105, .inl (cf105, 8, .inl f105)), (qf137, .inl (cf137, 6, .inl g137_25))]) [0, 1, 2, 3, 4, 5, 6, 7, 8, 9] rfl, hfh_25_98, hfh_25_100, hfh_25_102, hfh_25_104, hfh_25_105, hfh_25_117, hfh_25_118, hfh_25_119, hfh_25_120, hfh_25_127, hfh_25_128, hfh_25_129, hfh_25_130, hfh_25_131, hfh_25_132, hfh_25_134, hfh_25_136, hfh_25_137, hlh_25, hrh_25, hsp⟩
    rw [if_neg hs_45] at hsp
    by_cases hs_46 : l2_25 = 27
    · rw [if_pos hs_46] at hsp
      refine lv_tableIn (tgt := 1642) hx hb dX13_wanted_27 (by rw [hs_46]; decide) (by rw [hs_46]; decide) (off := 1615) (by rw [hs_46]; rfl) (by decide) ?_
      exact hj_1642 (H, locs, ls, z25, g118_25, g119_25, g127_25, g128_25, g137_25, x117_25, x120_25, x131_25) ⟨lv_sub hl [1] rfl, hS, hD.sub (ws' := [(h0, .inr (13, z25)), (qf100, .inl (cf100, 48000, .inl f100)), (qf128, .inl (cf128, 31, .inl g128_25)), (qf127, .inl (cf127, 30, .inl g127_25)), (qf104, .inl (cf104, 8, .inl f104)), (qf102, .inl (cf102, 2048, .inl f102)), (qf118, .inl (cf118, 2100, .inl g118_25)), (qf119, .inl (cf119, 2100, .inl g119_25)), (qf105, .inl (cf105, 8, .inl f105)), (qf137, .inl (cf137, 6, .inl g137_25))]) [0, 1, 2, 3, 4, 5, 6, 7, 8, 9] (by decide) rfl, hP.sub (ws' := [(h0, .inr (13, z25)), (qf100, .inl (cf100, 48000, .inl f100)), (qf128, .inl (cf128, 31, .inl g128_25)), (qf127, .inl (cf127, 30, .inl g127_25)), (qf104, .inl (cf104, 8, .inl f104)), (qf102, .inl (cf102, 2048, .inl f102)), (qf118, .inl (cf118, 2100, .inl g118_25)), (qf119, .inl (cf119, 2100, .inl g119_25)), (qf105, .inl (cf105, 8, .inl f105)), (qf137, .inl (cf137, 6, .inl g137_25))]) [0, 1, 2, 3, 4, 5, 6, 7, 8, 9] rfl, hfh_25_98, hfh_25_100, hfh_25_102, hfh_25_104, hfh_25_105, hfh_25_117, hfh_25_118, hfh_25_119, hfh_25_120, hfh_25_127, hfh_25_128, hfh_25_129, hfh_25_130, hfh_25_131, hfh_25_132, hfh_25_134, hfh_25_136, hfh_25_137, hlh_25, hrh_25, hsp⟩
    rw [if_neg hs_46] at hsp
    by_cases hs_47 : l2_25 = 28
    · rw [if_pos hs_47] at hsp
      refine lv_tableIn (tgt := 1642) hx hb dX13_wanted_27 (by rw [hs_47]; decide) (by rw [hs_47]; decide) (off := 1615) (by rw [hs_47]; rfl) (by decide) ?_
      exact hj_1642 (H, locs, ls, z25, g118_25, g119_25, g127_25, g128_25, g137_25, x117_25, x120_25, x131_25) ⟨lv_sub hl [1] rfl, hS, hD.sub (ws' := [(h0, .inr (13, z25)), (qf100, .inl (cf100, 48000, .inl f100)), (qf128, .inl (cf128, 31, .inl g128_25)), (qf127, .inl (cf127, 30, .inl g127_25)), (qf104, .inl (cf104, 8, .inl f104)), (qf102, .inl (cf102, 2048, .inl f102)), (qf118, .inl (cf118, 2100, .inl g118_25)), (qf119, .inl (cf119, 2100, .inl g119_25)), (qf105, .inl (cf105, 8, .inl f105)), (qf137, .inl (cf137, 6, .inl g137_25))]) [0, 1, 2, 3, 4, 5, 6, 7, 8, 9] (by decide) rfl, hP.sub (ws' := [(h0, .inr (13, z25)), (qf100, .inl (cf100, 48000, .inl f100)), (qf128, .inl (cf128, 31, .inl g128_25)), (qf127, .inl (cf127, 30, .inl g127_25)), (qf104, .inl (cf104, 8, .inl f104)), (qf102, .inl (cf102, 2048, .inl f102)), (qf118, .inl (cf118, 2100, .inl g118_25)), (qf119, .inl (cf119, 2100, .inl g119_25)), (qf105, .inl (cf105, 8, .inl f105)), (qf137, .inl (cf137, 6, .inl g137_25))]) [0, 1, 2, 3, 4, 5, 6, 7, 8, 9] rfl, hfh_25_98, hfh_25_100, hfh_25_102, hfh_25_104, hfh_25_105, hfh_25_117, hfh_25_118, hfh_25_119, hfh_25_120, hfh_25_127, hfh_25_128, hfh_25_129, hfh_25_130, hfh_25_131, hfh_25_132, hfh_25_134, hfh_25_136, hfh_25_137, hlh_25, hrh_25, hsp⟩
    rw [if_neg hs_47] at hsp
    by_cases hs_48 : l2_25 = 29
    · rw [if_pos hs_48] at hsp
      refine lv_tableIn (tgt := 1642) hx hb dX13_wanted_27 (by rw [hs_48]; decide) (by rw [hs_48]; decide) (off := 1615) (by rw [hs_48]; rfl) (by decide) ?_
      exact hj_1642 (H, locs, ls, z25, g118_25, g119_25, g127_25, g128_25, g137_25, x117_25, x120_25, x131_25) ⟨lv_sub hl [1] rfl, hS, hD.sub (ws' := [(h0, .inr (13, z25)), (qf100, .inl (cf100, 48000, .inl f100)), (qf128, .inl (cf128, 31, .inl g128_25)), (qf127, .inl (cf127, 30, .inl g127_25)), (qf104, .inl (cf104, 8, .inl f104)), (qf102, .inl (cf102, 2048, .inl f102)), (qf118, .inl (cf118, 2100, .inl g118_25)), (qf119, .inl (cf119, 2100, .inl g119_25)), (qf105, .inl (cf105, 8, .inl f105)), (qf137, .inl (cf137, 6, .inl g137_25))]) [0, 1, 2, 3, 4, 5, 6, 7, 8, 9] (by decide) rfl, hP.sub (ws' := [(h0, .inr (13, z25)), (qf100, .inl (cf100, 48000, .inl f100)), (qf128, .inl (cf128, 31, .inl g128_25)), (qf127, .inl (cf127, 30, .inl g127_25)), (qf104, .inl (cf104, 8, .inl f104)), (qf102, .inl (cf102, 2048, .inl f102)), (qf118, .inl (cf118, 2100, .inl g118_25)), (qf119, .inl (cf119, 2100, .inl g119_25)), (qf105, .inl (cf105, 8, .inl f105)), (qf137, .inl (cf137, 6, .inl g137_25))]) [0, 1, 2, 3, 4, 5, 6, 7, 8, 9] rfl, hfh_25_98, hfh_25_100, hfh_25_102, hfh_25_104, hfh_25_105, hfh_25_117, hfh_25_118, hfh_25_119, hfh_25_120, hfh_25_127, hfh_25_128, hfh_25_129, hfh_25_130, hfh_25_131, hfh_25_132, hfh_25_134, hfh_25_136, hfh_25_137, hlh_25, hrh_25, hsp⟩
    rw [if_neg hs_48] at hsp
    by_cases hs_49 : l2_25 = 30
    · rw [if_pos hs_49] at hsp
      refine lv_tableIn (tgt := 1642) hx hb dX13_wanted_27 (by rw [hs_49]; decide) (by rw [hs_49]; decide) (off := 1615) (by rw [hs_49]; rfl) (by decide) ?_
      exact hj_1642 (H, locs, ls, z25, g118_25, g119_25, g127_25, g128_25, g137_25, x117_25, x120_25, x131_25) ⟨lv_sub hl [1] rfl, hS, hD.sub (ws' := [(h0, .inr (13, z25)), (qf100, .inl (cf100, 48000, .inl f100)), (qf128, .inl (cf128, 31, .inl g128_25)), (qf127, .inl (cf127, 30, .inl g127_25)), (qf104, .inl (cf104, 8, .inl f104)), (qf102, .inl (cf102, 2048, .inl f102)), (qf118, .inl (cf118, 2100, .inl g118_25)), (qf119, .inl (cf119, 2100, .inl g119_25)), (qf105, .inl (cf105, 8, .inl f105)), (qf137, .inl (cf137, 6, .inl g137_25))]) [0, 1, 2, 3, 4, 5, 6, 7, 8, 9] (by decide) rfl, hP.sub (ws' := [(h0, .inr (13, z25)), (qf100, .inl (cf100, 48000, .inl f100)), (qf128, .inl (cf128, 31, .inl g128_25)), (qf127, .inl (cf127, 30, .inl g127_25)), (qf104, .inl (cf104, 8, .inl f104)), (qf102, .inl (cf102, 2048, .inl f102)), (qf118, .inl (cf118, 2100, .inl g118_25)), (qf119, .inl (cf119, 2100, .inl g119_25)), (qf105, .inl (cf105, 8, .inl f105)), (qf137, .inl (cf137, 6, .inl g137_25))]) [0, 1, 2, 3, 4, 5, 6, 7, 8, 9] rfl, hfh_25_98, hfh_25_100, hfh_25_102, hfh_25_104, hfh_25_105, hfh_25_117, hfh_25_118, hfh_25_119, hfh_25_120, hfh_25_127, hfh_25_128, hfh_25_129, hfh_25_130, hfh_25_131, hfh_25_132, hfh_25_134, hfh_25_136, hfh_25_137, hlh_25, hrh_25, hsp⟩
    rw [if_neg hs_49] at hsp
    by_cases hs_50 : l2_25 = 31
    · rw [if_pos hs_50] at hsp
      refine lv_tableIn (tgt := 1642) hx hb dX13_wanted_27 (by rw [hs_50]; decide) (by rw [hs_50]; decide) (off := 1615) (by rw [hs_50]; rfl) (by decide) ?_
      exact hj_1642 (H, locs, ls, z25, g118_25, g119_25, g127_25, g128_25, g137_25, x117_25, x120_25, x131_25) ⟨lv_sub hl [1] rfl, hS, hD.sub (ws' := [(h0, .inr (13, z25)), (qf100, .inl (cf100, 48000, .inl f100)), (qf128, .inl (cf128, 31, .inl g128_25)), (qf127, .inl (cf127, 30, .inl g127_25)), (qf104, .inl (cf104, 8, .inl f104)), (qf102, .inl (cf102, 2048, .inl f102)), (qf118, .inl (cf118, 2100, .inl g118_25)), (qf119, .inl (cf119, 2100, .inl g119_25)), (qf105, .inl (cf105, 8, .inl f105)), (qf137, .inl (cf137, 6, .inl g137_25))]) [0, 1, 2, 3, 4, 5, 6, 7, 8, 9] (by decide) rfl, hP.sub (ws' := [(h0, .inr (13, z25)), (qf100, .inl (cf100, 48000, .inl f100)), (qf128, .inl (cf128, 31, .inl g128_25)), (qf127, .inl (cf127, 30, .inl g127_25)), (qf104, .inl (cf104, 8, .inl f104)), (qf102, .inl (cf102, 2048, .inl f102)), (qf118, .inl (cf118, 2100, .inl g118_25)), (qf119, .inl (cf119, 2100, .inl g119_25)), (qf105, .inl (cf105, 8, .inl f105)), (qf137, .inl (cf137, 6, .inl g137_25))]) [0, 1, 2, 3, 4, 5, 6, 7, 8, 9] rfl, hfh_25_98, hfh_25_100, hfh_25_102, hfh_25_104, hfh_25_105, hfh_25_117, hfh_25_118, hfh_25_119, hfh_25_120, hfh_25_127, hfh_25_128, hfh_25_129, hfh_25_130, hfh_25_131, hfh_25_132, hfh_25_134, hfh_25_136, hfh_25_137, hlh_25, hrh_25, hsp⟩
    rw [if_neg hs_50] at hsp
    by_cases hs_51 : l2_25 = 32
    · rw [if_pos hs_51] at hsp
      refine lv_tableIn (tgt := 1642) hx hb dX13_wanted_27 (by rw [hs_51]; decide) (by rw [hs_51]; decide) (off := 1615) (by rw [hs_51]; rfl) (by decide) ?_
      exact hj_1642 (H, locs, ls, z25, g118_25, g119_25, g127_25, g128_25, g137_25, x117_25, x120_25, x131_25) ⟨lv_sub hl [1] rfl, hS, hD.sub (ws' := [(h0, .inr (13, z25)), (qf100, .inl (cf100, 48000, .inl f100)), (qf128, .inl (cf128, 31, .inl g128_25)), (qf127, .inl (cf127, 30, .inl g127_25)), (qf104, .inl (cf104, 8, .inl f104)), (qf102, .inl (cf102, 2048, .inl f102)), (qf118, .inl (cf118, 2100, .inl g118_25)), (qf119, .inl (cf119, 2100, .inl g119_25)), (qf105, .inl (cf105, 8, .inl f105)), (qf137, .inl (cf137, 6, .inl g137_25))]) [0, 1, 2, 3, 4, 5, 6, 7, 8, 9] (by decide) rfl, hP.sub (ws' := [(h0, .inr (13, z25)), (qf100, .inl (cf100, 48000, .inl f100)), (qf128, .inl (cf128, 31, .inl g128_25)), (qf127, .inl (cf127, 30, .inl g127_25)), (qf104, .inl (cf104, 8, .inl f104)), (qf102, .inl (cf102, 2048, .inl f102)), (qf118, .inl (cf118, 2100, .inl g118_25)), (qf119, .inl (cf119, 2100, .inl g119_25)), (qf105, .inl (cf105, 8, .inl f105)), (qf137, .inl (cf137, 6, .inl g137_25))]) [0, 1, 2, 3, 4, 5, 6, 7, 8, 9] rfl, hfh_25_98, hfh_25_100, hfh_25_102, hfh_25_104, hfh_25_105, hfh_25_117, hfh_25_118, hfh_25_119, hfh_25_120, hfh_25_127, hfh_25_128, hfh_25_129, hfh_25_130, hfh_25_131, hfh_25_132, hfh_25_134, hfh_25_136, hfh_25_137, hlh_25, hrh_25, hsp⟩
    rw [if_neg hs_51] at hsp
    by_cases hs_52 : l2_25 = 33
    · rw [if_pos hs_52] at hsp
      refine lv_tableIn (tgt := 1642) hx hb dX13_wanted_27 (by rw [hs_52]; decide) (by rw [hs_52]; decide) (off := 1615) (by rw [hs_52]; rfl) (by decide) ?_
      exact hj_1642 (H, locs, ls, z25, g118_25, g119_25, g127_25, g128_25, g137_25, x117_25, x120_25, x131_25) ⟨lv_sub hl [1] rfl, hS, hD.sub (ws' := [(h0, .inr (13, z25)), (qf100, .inl (cf100, 48000, .inl f100)), (qf128, .inl (cf128, 31, .inl g128_25)), (qf127, .inl (cf127, 30, .inl g127_25)), (qf104, .inl (cf104, 8, .inl f104)), (qf102, .inl (cf102, 2048, .inl f102)), (qf118, .inl (cf118, 2100, .inl g118_25)), (qf119, .inl (cf119, 2100, .inl g119_25)), (qf105, .inl (cf105, 8, .inl f105)), (qf137, .inl (cf137, 6, .inl g137_25))]) [0, 1, 2, 3, 4, 5, 6, 7, 8, 9] (by decide) rfl, hP.sub (ws' := [(h0, .inr (13, z25)), (qf100, .inl (cf100, 48000, .inl f100)), (qf128, .inl (cf128, 31, .inl g128_25)), (qf127, .inl (cf127, 30, .inl g127_25)), (qf104, .inl (cf104, 8, .inl f104)), (qf102, .inl (cf102, 2048, .inl f102)), (qf118, .inl (cf118, 2100, .inl g118_25)), (qf119, .inl (cf119, 2100, .inl g119_25)), (qf105, .inl (cf105, 8, .inl f105)), (qf137, .inl (cf137, 6, .inl g137_25))]) [0, 1, 2, 3, 4, 5, 6, 7, 8, 9] rfl, hfh_25_98, hfh_25_100, hfh_25_102, hfh_25_104, hfh_25_105, hfh_25_117, hfh_25_118, hfh_25_119, hfh_25_120, hfh_25_127, hfh_25_128, hfh_25_129, hfh_25_130, hfh_25_131, hfh_25_132, hfh_25_134, hfh_25_136, hfh_25_137, hlh_25, hrh_25, hsp⟩
    rw [if_neg hs_52] at hsp
    by_cases hs_53 : l2_25 = 34
    · rw [if_pos hs_53] at hsp
      refine lv_tableIn (tgt := 1642) hx hb dX13_wanted_27 (by rw [hs_53]; decide) (by rw [hs_53]; decide) (off := 1615) (by rw [hs_53]; rfl) (by decide) ?_
      exact hj_1642 (H, locs, ls, z25, g118_25, g119_25, g127_25, g128_25, g137_25, x117_25, x120_25, x131_25) ⟨lv_sub hl [1] rfl, hS, hD.sub (ws' := [(h0, .inr (13, z25)), (qf100, .inl (cf100, 48000, .inl f100)), (qf128, .inl (cf128, 31, .inl g128_25)), (qf127, .inl (cf127, 30, .inl g127_25)), (qf104, .inl (cf104, 8, .inl f104)), (qf102, .inl (cf102, 2048, .inl f102)), (qf118, .inl (cf118, 2100, .inl g118_25)), (qf119, .inl (cf119, 2100, .inl g119_25)), (qf105, .inl (cf105, 8, .inl f105)), (qf137, .inl (cf137, 6, .inl g137_25))]) [0, 1, 2, 3, 4, 5, 6, 7, 8, 9] (by decide) rfl, hP.sub (ws' := [(h0, .inr (13, z25)), (qf100, .inl (cf100, 48000, .inl f100)), (qf128, .inl (cf128, 31, .inl g128_25)), (qf127, .inl (cf127, 30, .inl g127_25)), (qf104, .inl (cf104, 8, .inl f104)), (qf102, .inl (cf102, 2048, .inl f102)), (qf118, .inl (cf118, 2100, .inl g118_25)), (qf119, .inl (cf119, 2100, .inl g119_25)), (qf105, .inl (cf105, 8, .inl f105)), (qf137, .inl (cf137, 6, .inl g137_25))]) [0, 1, 2, 3, 4, 5, 6, 7, 8, 9] rfl, hfh_25_98, hfh_25_100, hfh_25_102, hfh_25_104, hfh_25_105, hfh_25_117, hfh_25_118, hfh_25_119, hfh_25_120, hfh_25_127, hfh_25_128, hfh_25_129, hfh_25_130, hfh_25_131, hfh_25_132, hfh_25_134, hfh_25_136, hfh_25_137, hlh_25, hrh_25, hsp⟩
    rw [if_neg hs_53] at hsp
    by_cases hs_54 : l2_25 = 35
    · rw [if_pos hs_54] at hsp
      refine lv_tableIn (tgt := 1642) hx hb dX13_wanted_27 (by rw [hs_54]; decide) (by rw [hs_54]; decide) (off := 1615) (by rw [hs_54]; rfl) (by decide) ?_
      exact hj_1642 (H, locs, ls, z25, g118_25, g119_25, g127_25, g128_25, g137_25, x117_25, x120_25, x131_25) ⟨lv_sub hl [1] rfl, hS, hD.sub (ws' := [(h0, .inr (13, z25)), (qf100, .inl (cf100, 48000, .inl f100)), (qf128, .inl (cf128, 31, .inl g128_25)), (qf127, .inl (cf127, 30, .inl g127_25)), (qf104, .inl (cf104, 8, .inl f104)), (qf102, .inl (cf102, 2048, .inl f102)), (qf118, .inl (cf118, 2100, .inl g118_25)), (qf119, .inl (cf119, 2100, .inl g119_25)), (qf105, .inl (cf105, 8, .inl f105)), (qf137, .inl (cf137, 6, .inl g137_25))]) [0, 1, 2, 3, 4, 5, 6, 7, 8, 9] (by decide) rfl, hP.sub (ws' := [(h0, .inr (13, z25)), (qf100, .inl (cf100, 48000, .inl f100)), (qf128, .inl (cf128, 31, .inl g128_25)), (qf127, .inl (cf127, 30, .inl g127_25)), (qf104, .inl (cf104, 8, .inl f104)), (qf102, .inl (cf102, 2048, .inl f102)), (qf118, .inl (cf118, 2100, .inl g118_25)), (qf119, .inl (cf119, 2100, .inl g119_25)), (qf105, .inl (cf105, 8, .inl f105)), (qf137, .inl (cf137, 6, .inl g137_25))]) [0, 1, 2, 3, 4, 5, 6, 7, 8, 9] rfl, hfh_25_98, hfh_25_100, hfh_25_102, hfh_25_104, hfh_25_105, hfh_25_117, hfh_25_118, hfh_25_119, hfh_25_120, hfh_25_127, hfh_25_128, hfh_25_129, hfh_25_130, hfh_25_131, hfh_25_132, hfh_25_134, hfh_25_136, hfh_25_137, hlh_25, hrh_25, hsp⟩
    rw [if_neg hs_54] at hsp
    by_cases hs_55 : l2_25 = 36
    · rw [if_pos hs_55] at hsp
      refine lv_tableIn (tgt := 1642) hx hb dX13_wanted_27 (by rw [hs_55]; decide) (by rw [hs_55]; decide) (off := 1615) (by rw [hs_55]; rfl) (by decide) ?_
      exact hj_1642 (H, locs, ls, z25, g118_25, g119_25, g127_25, g128_25, g137_25, x117_25, x120_25, x131_25) ⟨lv_sub hl [1] rfl, hS, hD.sub (ws' := [(h0, .inr (13, z25)), (qf100, .inl (cf100, 48000, .inl f100)), (qf128, .inl (cf128, 31, .inl g128_25)), (qf127, .inl (cf127, 30, .inl g127_25)), (qf104, .inl (cf104, 8, .inl f104)), (qf102, .inl (cf102, 2048, .inl f102)), (qf118, .inl (cf118, 2100, .inl g118_25)), (qf119, .inl (cf119, 2100, .inl g119_25)), (qf105, .inl (cf105, 8, .inl f105)), (qf137, .inl (cf137, 6, .inl g137_25))]) [0, 1, 2, 3, 4, 5, 6, 7, 8, 9] (by decide) rfl, hP.sub (ws' := [(h0, .inr (13, z25)), (qf100, .inl (cf100, 48000, .inl f100)), (qf128, .inl (cf128, 31, .inl g128_25)), (qf127, .inl (cf127, 30, .inl g127_25)), (qf104, .inl (cf104, 8, .inl f104)), (qf102, .inl (cf102, 2048, .inl f102)), (qf118, .inl (cf118, 2100, .inl g118_25)), (qf119, .inl (cf119, 2100, .inl g119_25)), (qf105, .inl (cf105, 8, .inl f105)), (qf137, .inl (cf137, 6, .inl g137_25))]) [0, 1, 2, 3, 4, 5, 6, 7, 8, 9] rfl, hfh_25_98, hfh_25_100, hfh_25_102, hfh_25_104, hfh_25_105, hfh_25_117, hfh_25_118, hfh_25_119, hfh_25_120, hfh_25_127, hfh_25_128, hfh_25_129, hfh_25_130, hfh_25_131, hfh_25_132, hfh_25_134, hfh_25_136, hfh_25_137, hlh_25, hrh_25, hsp⟩
    rw [if_neg hs_55] at hsp
    by_cases hs_56 : l2_25 = 37
    · rw [if_pos hs_56] at hsp
      refine lv_tableIn (tgt := 1642) hx hb dX13_wanted_27 (by rw [hs_56]; decide) (by rw [hs_56]; decide) (off := 1615) (by rw [hs_56]; rfl) (by decide) ?_
      exact hj_1642 (H, locs, ls, z25, g118_25, g119_25, g127_25, g128_25, g137_25, x117_25, x120_25, x131_25) ⟨lv_sub hl [1] rfl, hS, hD.sub (ws' := [(h0, .inr (13, z25)), (qf100, .inl (cf100, 48000, .inl f100)), (qf128, .inl (cf128, 31, .inl g128_25)), (qf127, .inl (cf127, 30, .inl g127_25)), (qf104, .inl (cf104, 8, .inl f104)), (qf102, .inl (cf102, 2048, .inl f102)), (qf118, .inl (cf118, 2100, .inl g118_25)), (qf119, .inl (cf119, 2100, .inl g119_25)), (qf105, .inl (cf105, 8, .inl f105)), (qf137, .inl (cf137, 6, .inl g137_25))]) [0, 1, 2, 3, 4, 5, 6, 7, 8, 9] (by decide) rfl, hP.sub (ws' := [(h0, .inr (13, z25)), (qf100, .inl (cf100, 48000, .inl f100)), (qf128, .inl (cf128, 31, .inl g128_25)), (qf127, .inl (cf127, 30, .inl g127_25)), (qf104, .inl (cf104, 8, .inl f104)), (qf102, .inl (cf102, 2048, .inl f102)), (qf118, .inl (cf118, 2100, .inl g118_25)), (qf119, .inl (cf119, 2100, .inl g119_25)), (qf105, .inl (cf105, 8, .inl f105)), (qf137, .inl (cf137, 6, .inl g137_25))]) [0, 1, 2, 3, 4, 5, 6, 7, 8, 9] rfl, hfh_25_98, hfh_25_100, hfh_25_102, hfh_25_104, hfh_25_105, hfh_25_117, hfh_25_118, hfh_25_119, hfh_25_120, hfh_25_127, hfh_25_128, hfh_25_129, hfh_25_130, hfh_25_131, hfh_25_132, hfh_25_134, hfh_25_136, hfh_25_137, hlh_25, hrh_25, hsp⟩
    rw [if_neg hs_56] at hsp
    by_cases hs_57 : l2_25 = 38
    · rw [if_pos hs_57] at hsp
      refine lv_tableIn (tgt := 1642) hx hb dX13_wanted_27 (by rw [hs_57]; decide) (by rw [hs_57]; decide) (off := 1615) (by rw [hs_57]; rfl) (by decide) ?_
      exact hj_1642 (H, locs, ls, z25, g118_25, g119_25, g127_25, g128_25, g137_25, x117_25, x120_25, x131_25) ⟨lv_sub hl [1] rfl, hS, hD.sub (ws' := [(h0, .inr (13, z25)), (qf100, .inl (cf100, 48000, .inl f100)), (qf128, .inl (cf128, 31, .inl g128_25)), (qf127, .inl (cf127, 30, .inl g127_25)), (qf104, .inl (cf104, 8, .inl f104)), (qf102, .inl (cf102, 2048, .inl f102)), (qf118, .inl (cf118, 2100, .inl g118_25)), (qf119, .inl (cf119, 2100, .inl g119_25)), (qf105, .inl (cf105, 8, .inl f105)), (qf137, .inl (cf137, 6, .inl g137_25))]) [0, 1, 2, 3, 4, 5, 6, 7, 8, 9] (by decide) rfl, hP.sub (ws' := [(h0, .inr (13, z25)), (qf100, .inl (cf100, 48000, .inl f100)), (qf128, .inl (cf128, 31, .inl g128_25)), (qf127, .inl (cf127, 30, .inl g127_25)), (qf104, .inl (cf104, 8, .inl f104)), (qf102, .inl (cf102, 2048, .inl f102)), (qf118, .inl (cf118, 2100, .inl g118_25)), (qf119, .inl (cf119, 2100, .inl g119_25)), (qf105, .inl (cf105, 8, .inl f105)), (qf137, .inl (cf137, 6, .inl g137_25))]) [0, 1, 2, 3, 4, 5, 6, 7, 8, 9] rfl, hfh_25_98, hfh_25_100, hfh_25_102, hfh_25_104, hfh_25_105, hfh_25_117, hfh_25_118, hfh_25_119, hfh_25_120, hfh_25_127, hfh_25_128, hfh_25_129, hfh_25_130, hfh_25_131, hfh_25_132, hfh_25_134, hfh_25_136, hfh_25_137, hlh_25, hrh_25, hsp⟩
    rw [if_neg hs_57] at hsp
    by_cases hs_58 : l2_25 = 39
    · rw [if_pos hs_58] at hsp
      refine lv_tableIn (tgt := 1642) hx hb dX13_wanted_27 (by rw [hs_58]; decide) (by rw [hs_58]; decide) (off := 1615) (by rw [hs_58]; rfl) (by decide) ?_
      exact hj_1642 (H, locs, ls, z25, g118_25, g119_25, g127_25, g128_25, g137_25, x117_25, x120_25, x131_25) ⟨lv_sub hl [1] rfl, hS, hD.sub (ws' := [(h0, .inr (13, z25)), (qf100, .inl (cf100, 48000, .inl f100)), (qf128, .inl (cf128, 31, .inl g128_25)), (qf127, .inl (cf127, 30, .inl g127_25)), (qf104, .inl (cf104, 8, .inl f104)), (qf102, .inl (cf102, 2048, .inl f102)), (qf118, .inl (cf118, 2100, .inl g118_25)), (qf119, .inl (cf119, 2100, .inl g119_25)), (qf105, .inl (cf105, 8, .inl f105)), (qf137, .inl (cf137, 6, .inl g137_25))]) [0, 1, 2, 3, 4, 5, 6, 7, 8, 9] (by decide) rfl, hP.sub (ws' := [(h0, .inr (13, z25)), (qf100, .inl (cf100, 48000, .inl f100)), (qf128, .inl (cf128, 31, .inl g128_25)), (qf127, .inl (cf127, 30, .inl g127_25)), (qf104, .inl (cf104, 8, .inl f104)), (qf102, .inl (cf102, 2048, .inl f102)), (qf118, .inl (cf118, 2100, .inl g118_25)), (qf119, .inl (cf119, 2100, .inl g119_25)), (qf105, .inl (cf105, 8, .inl f105)), (qf137, .inl (cf137, 6, .inl g137_25))]) [0, 1, 2, 3, 4, 5, 6, 7, 8, 9] rfl, hfh_25_98, hfh_25_100, hfh_25_102, hfh_25_104, hfh_25_105, hfh_25_117, hfh_25_118, hfh_25_119, hfh_25_120, hfh_25_127, hfh_25_128, hfh_25_129, hfh_25_130, hfh_25_131, hfh_25_132, hfh_25_134, hfh_25_136, hfh_25_137, hlh_25, hrh_25, hsp⟩
    rw [if_neg hs_58] at hsp
    by_cases hs_59 : l2_25 = 40
    · rw [if_pos hs_59] at hsp
      refine lv_tableIn (tgt := 1642) hx hb dX13_wanted_27 (by rw [hs_59]; decide) (by rw [hs_59]; decide) (off := 1615) (by rw [hs_59]; rfl) (by decide) ?_
      exact hj_1642 (H, locs, ls, z25, g118_25, g119_25, g127_25, g128_25, g137_25, x117_25, x120_25, x131_25) ⟨lv_sub hl [1] rfl, hS, hD.sub (ws' := [(h0, .inr (13, z25)), (qf100, .inl (cf100, 48000, .inl f100)), (qf128, .inl (cf128, 31, .inl g128_25)), (qf127, .inl (cf127, 30, .inl g127_25)), (qf104, .inl (cf104, 8, .inl f104)), (qf102, .inl (cf102, 2048, .inl f102)), (qf118, .inl (cf118, 2100, .inl g118_25)), (qf119, .inl (cf119, 2100, .inl g119_25)), (qf105, .inl (cf105, 8, .inl f105)), (qf137, .inl (cf137, 6, .inl g137_25))]) [0, 1, 2, 3, 4, 5, 6, 7, 8, 9] (by decide) rfl, hP.sub (ws' := [(h0, .inr (13, z25)), (qf100, .inl (cf100, 48000, .inl f100)), (qf128, .inl (cf128, 31, .inl g128_25)), (qf127, .inl (cf127, 30, .inl g127_25)), (qf104, .inl (cf104, 8, .inl f104)), (qf102, .inl (cf102, 2048, .inl f102)), (qf118, .inl (cf118, 2100, .inl g118_25)), (qf119, .inl (cf119, 2100, .inl g119_25)), (qf105, .inl (cf105, 8, .inl f105)), (qf137, .inl (cf137, 6, .inl g137_25))]) [0, 1, 2, 3, 4, 5, 6, 7, 8, 9] rfl, hfh_25_98, hfh_25_100, hfh_25_102, hfh_25_104, hfh_25_105, hfh_25_117, hfh_25_118, hfh_25_119, hfh_25_120, hfh_25_127, hfh_25_128, hfh_25_129, hfh_25_130, hfh_25_131, hfh_25_132, hfh_25_134, hfh_25_136, hfh_25_137, hlh_25, hrh_25, hsp⟩
    rw [if_neg hs_59] at hsp
    by_cases hs_60 : l2_25 = 41
    · rw [if_pos hs_60] at hsp
      refine lv_tableIn (tgt := 1642) hx hb dX13_wanted_27 (by rw [hs_60]; decide) (by rw [hs_60]; decide) (off := 1615) (by rw [hs_60]; rfl) (by decide) ?_
      exact hj_1642 (H, locs, ls, z25, g118_25, g119_25, g127_25, g128_25, g137_25, x117_25, x120_25, x131_25) ⟨lv_sub hl [1] rfl, hS, hD.sub (ws' := [(h0, .inr (13, z25)), (qf100, .inl (cf100, 48000, .inl f100)), (qf128, .inl (cf128, 31, .inl g128_25)), (qf127, .inl (cf127, 30, .inl g127_25)), (qf104, .inl (cf104, 8, .inl f104)), (qf102, .inl (cf102, 2048, .inl f102)), (qf118, .inl (cf118, 2100, .inl g118_25)), (qf119, .inl (cf119, 2100, .inl g119_25)), (qf105, .inl (cf105, 8, .inl f105)), (qf137, .inl (cf137, 6, .inl g137_25))]) [0, 1, 2, 3, 4, 5, 6, 7, 8, 9] (by decide) rfl, hP.sub (ws' := [(h0, .inr (13, z25)), (qf100, .inl (cf100, 48000, .inl f100)), (qf128, .inl (cf128, 31, .inl g128_25)), (qf127, .inl (cf127, 30, .inl g127_25)), (qf104, .inl (cf104, 8, .inl f104)), (qf102, .inl (cf102, 2048, .inl f102)), (qf118, .inl (cf118, 2100, .inl g118_25)), (qf119, .inl (cf119, 2100, .inl g119_25)), (qf105, .inl (cf105, 8, .inl f105)), (qf137, .inl (cf137, 6, .inl g137_25))]) [0, 1, 2, 3, 4, 5, 6, 7, 8, 9] rfl, hfh_25_98, hfh_25_100, hfh_25_102, hfh_25_104, hfh_25_105, hfh_25_117, hfh_25_118, hfh_25_119, hfh_25_120, hfh_25_127, hfh_25_128, hfh_25_129, hfh_25_130, hfh_25_131, hfh_25_132, hfh_25_134, hfh_25_136, hfh_25_137, hlh_25, hrh_25, hsp⟩
    rw [if_neg hs_60] at hsp
    by_cases hs_61 : l2_25 = 42
    · rw [if_pos hs_61] at hsp
      refine lv_tableIn (tgt := 1642) hx hb dX13_wanted_27 (by rw [hs_61]; decide) (by rw [hs_61]; decide) (off := 1615) (by rw [hs_61]; rfl) (by decide) ?_
      exact hj_1642 (H, locs, ls, z25, g118_25, g119_25, g127_25, g128_25, g137_25, x117_25, x120_25, x131_25) ⟨lv_sub hl [1] rfl, hS, hD.sub (ws' := [(h0, .inr (13, z25)), (qf100, .inl (cf100, 48000, .inl f100)), (qf128, .inl (cf128, 31, .inl g128_25)), (qf127, .inl (cf127, 30, .inl g127_25)), (qf104, .inl (cf104, 8, .inl f104)), (qf102, .inl (cf102, 2048, .inl f102)), (qf118, .inl (cf118, 2100, .inl g118_25)), (qf119, .inl (cf119, 2100, .inl g119_25)), (qf105, .inl (cf105, 8, .inl f105)), (qf137, .inl (cf137, 6, .inl g137_25))]) [0, 1, 2, 3, 4, 5, 6, 7, 8, 9] (by decide) rfl, hP.sub (ws' := [(h0, .inr (13, z25)), (qf100, .inl (cf100, 48000, .inl f100)), (qf128, .inl (cf128, 31, .inl g128_25)), (qf127, .inl (cf127, 30, .inl g127_25)), (qf104, .inl (cf104, 8, .inl f104)), (qf102, .inl (cf102, 2048, .inl f102)), (qf118, .inl (cf118, 2100, .inl g118_25)), (qf119, .inl (cf119, 2100, .inl g119_25)), (qf105, .inl (cf105, 8, .inl f105)), (qf137, .inl (cf137, 6, .inl g137_25))]) [0, 1, 2, 3, 4, 5, 6, 7, 8, 9] rfl, hfh_25_98, hfh_25_100, hfh_25_102, hfh_25_104, hfh_25_105, hfh_25_117, hfh_25_118, hfh_25_119, hfh_25_120, hfh_25_127, hfh_25_128, hfh_25_129, hfh_25_130, hfh_25_131, hfh_25_132, hfh_25_134, hfh_25_136, hfh_25_137, hlh_25, hrh_25, hsp⟩
    rw [if_neg hs_61] at hsp
    by_cases hs_62 : l2_25 = 43
    · rw [if_pos hs_62] at hsp
      refine lv_tableIn (tgt := 1642) hx hb dX13_wanted_27 (by rw [hs_62]; decide) (by rw [hs_62]; decide) (off := 1615) (by rw [hs_62]; rfl) (by decide) ?_
      exact hj_1642 (H, locs, ls, z25, g118_25, g119_25, g127_25, g128_25, g137_25, x117_25, x120_25, x131_25) ⟨lv_sub hl [1] rfl, hS, hD.sub (ws' := [(h0, .inr (13, z25)), (qf100, .inl (cf100, 48000, .inl f100)), (qf128, .inl (cf128, 31, .inl g128_25)), (qf127, .inl (cf127, 30, .inl g127_25)), (qf104, .inl (cf104, 8, .inl f104)), (qf102, .inl (cf102, 2048, .inl f102)), (qf118, .inl (cf118, 2100, .inl g118_25)), (qf119, .inl (cf119, 2100, .inl g119_25)), (qf105, .inl (cf105, 8, .inl f105)), (qf137, .inl (cf137, 6, .inl g137_25))]) [0, 1, 2, 3, 4, 5, 6, 7, 8, 9] (by decide) rfl, hP.sub (ws' := [(h0, .inr (13, z25)), (qf100, .inl (cf100, 48000, .inl f100)), (qf128, .inl (cf128, 31, .inl g128_25)), (qf127, .inl (cf127, 30, .inl g127_25)), (qf104, .inl (cf104, 8, .inl f104)), (qf102, .inl (cf102, 2048, .inl f102)), (qf118, .inl (cf118, 2100, .inl g118_25)), (qf119, .inl (cf119, 2100, .inl g119_25)), (qf105, .inl (cf105, 8, .inl f105)), (qf137, .inl (cf137, 6, .inl g137_25))]) [0, 1, 2, 3, 4, 5, 6, 7, 8, 9] rfl, hfh_25_98, hfh_25_100, hfh_25_102, hfh_25_104, hfh_25_105, hfh_25_117, hfh_25_118, hfh_25_119, hfh_25_120, hfh_25_127, hfh_25_128, hfh_25_129, hfh_25_130, hfh_25_131, hfh_25_132, hfh_25_134, hfh_25_136, hfh_25_137, hlh_25, hrh_25, hsp⟩
    rw [if_neg hs_62] at hsp
    by_cases hs_63 : l2_25 = 44
    · rw [if_pos hs_63] at hsp
      refine lv_tableIn (tgt := 1642) hx hb dX13_wanted_27 (by rw [hs_63]; decide) (by rw [hs_63]; decide) (off := 1615) (by rw [hs_63]; rfl) (by decide) ?_
      exact hj_1642 (H, locs, ls, z25, g118_25, g119_25, g127_25, g128_25, g137_25, x117_25, x120_25, x131_25) ⟨lv_sub hl [1] rfl, hS, hD.sub (ws' := [(h0, .inr (13, z25)), (qf100, .inl (cf100, 48000, .inl f100)), (qf128, .inl (cf128, 31, .inl g128_25)), (qf127, .inl (cf127, 30, .inl g127_25)), (qf104, .inl (cf104, 8, .inl f104)), (qf102, .inl (cf102, 2048, .inl f102)), (qf118, .inl (cf118, 2100, .inl g118_25)), (qf119, .inl (cf119, 2100, .inl g119_25)), (qf105, .inl (cf105, 8, .inl f105)), (qf137, .inl (cf137, 6, .inl g137_25))]) [0, 1, 2, 3, 4, 5, 6, 7, 8, 9] (by decide) rfl, hP.sub (ws' := [(h0, .inr (13, z25)), (qf100, .inl (cf100, 48000, .inl f100)), (qf128, .inl (cf128, 31, .inl g128_25)), (qf127, .inl (cf127, 30, .inl g127_25)), (qf104, .inl (cf104, 8, .inl f104)), (qf102, .inl (cf102, 2048, .inl f102)), (qf118, .inl (cf118, 2100, .inl g118_25)), (qf119, .inl (cf119, 2100, .inl g119_25)), (qf105, .inl (cf105, 8, .inl f105)), (qf137, .inl (cf137, 6, .inl g137_25))]) [0, 1, 2, 3, 4, 5, 6, 7, 8, 9] rfl, hfh_25_98, hfh_25_100, hfh_25_102, hfh_25_104, hfh_25_105, hfh_25_117, hfh_25_118, hfh_25_119, hfh_25_120, hfh_25_127, hfh_25_128, hfh_25_129, hfh_25_130, hfh_25_131, hfh_25_132, hfh_25_134, hfh_25_136, hfh_25_137, hlh_25, hrh_25, hsp⟩
    rw [if_neg hs_63] at hsp
    by_cases hs_64 : l2_25 = 45
    · rw [if_pos hs_64] at hsp
      refine lv_tableIn (tgt := 1642) hx hb dX13_wanted_27 (by rw [hs_64]; decide) (by rw [hs_64]; decide) (off := 1615) (by rw [hs_64]; rfl) (by decide) ?_
      exact hj_1642 (H, locs, ls, z25, g118_25, g119_25, g127_25, g128_25, g137_25, x117_25, x120_25, x131_25) ⟨lv_sub hl [1] rfl, hS, hD.sub (ws' := [(h0, .inr (13, z25)), (qf100, .inl (cf100, 48000, .inl f100)), (qf128, .inl (cf128, 31, .inl g128_25)), (qf127, .inl (cf127, 30, .inl g127_25)), (qf104, .inl (cf104, 8, .inl f104)), (qf102, .inl (cf102, 2048, .inl f102)), (qf118, .inl (cf118, 2100, .inl g118_25)), (qf119, .inl (cf119, 2100, .inl g119_25)), (qf105, .inl (cf105, 8, .inl f105)), (qf137, .inl (cf137, 6, .inl g137_25))]) [0, 1, 2, 3, 4, 5, 6, 7, 8, 9] (by decide) rfl, hP.sub (ws' := [(h0, .inr (13, z25)), (qf100, .inl (cf100, 48000, .inl f100)), (qf128, .inl (cf128, 31, .inl g128_25)), (qf127, .inl (cf127, 30, .inl g127_25)), (qf104, .inl (cf104, 8, .inl f104)), (qf102, .inl (cf102, 2048, .inl f102)), (qf118, .inl (cf118, 2100, .inl g118_25)), (qf119, .inl (cf119, 2100, .inl g119_25)), (qf105, .inl (cf105, 8, .inl f105)), (qf137, .inl (cf137, 6, .inl g137_25))]) [0, 1, 2, 3, 4, 5, 6, 7, 8, 9] rfl, hfh_25_98, hfh_25_100, hfh_25_102, hfh_25_104, hfh_25_105, hfh_25_117, hfh_25_118, hfh_25_119, hfh_25_120, hfh_25_127, hfh_25_128, hfh_25_129, hfh_25_130, hfh_25_131, hfh_25_132, hfh_25_134, hfh_25_136, hfh_25_137, hlh_25, hrh_25, hsp⟩
    rw [if_neg hs_64] at hsp
    by_cases hs_65 : l2_25 = 46
    · rw [if_pos hs_65] at hsp
      refine lv_tableIn (tgt := 954) hx hb dX13_wanted_27 (by rw [hs_65]; decide) (by rw [hs_65]; decide) (off := 927) (by rw [hs_65]; rfl) (by decide) ?_
      refine lv_aload_n hx hb dX13_wanted_954 rfl (lv_at hl 1 rfl) ?_
      refine lv_iconst (v := 1) hx hb dX13_wanted_955 (by decide) ?_
      obtain ⟨⟨u7_0, u7_1⟩, hu_7, hsp⟩ := ox_bind hsp
      try dsimp only at hsp
      have hPc := hP.sub (ws' := [(h0, .inr (13, z25)), (qf128, .inl (cf128, 31, .inl g128_25))]) [0, 2] rfl
      have hDc := hD.sub (ws' := [(h0, .inr (13, z25)), (qf128, .inl (cf128, 31, .inl g128_25))]) [0, 2] (by decide) rfl
      have hKc := hK.sub (tys' := [(cf128, .int)]) [1] rfl
      have hFc := va_free (wc := [(h0, .inr (13, z25)), (qf128, .inl (cf128, 31, .inl g128_25))]) hD hS hA [0, 2] rfl
      refine va_calli (va_runV (As := [.int 1]) (rest := []) ⟨hx, hb, hml, hown, hts⟩ (tn_pullInts l dC dI H.size h0 z25 1 qf128 x131_25 cf128 g128_25 nf u7_0 u7_1 hlh_25 hfh_25_128 hfh_25_131 hu_7) (cwV 1 hts gv_h9_70 rfl rfl rfl (by decide +kernel) ⟨Nat.le_of_ble_eq_true rfl, Nat.le_of_ble_eq_true rfl⟩) ⟨fun a U g mk q => by obtain ⟨q0, q1, qP, qK, qD⟩ := q; exact ⟨q0, q1, qP, va_K.moved (u := U) (U := U.calling g mk a) (Vm.Alike.refl U.vm) qK, qD⟩, va_recv hKc hPc (ci := 13) (q0 := 0) rfl rfl, fun U hU hW => ⟨rfl, by rw [hU], by rw [hU]; exact hPc, va_K.moved hW.alike hKc, hDc.weaken (fun _ _ _ _ => trivial)⟩⟩ rfl rfl hl.1 rfl (lv_room (Nat.le_of_ble_eq_true rfl)) dX13_wanted_956 ⟨Nat.le_of_ble_eq_true rfl, Nat.le_of_ble_eq_true rfl⟩) hS (fun q _ h => hFc q h) hFc ?_
      clear hS
      intro r_66 u t H1 locs ht hvm hw hB hz1 hk1 hS
      obtain ⟨z_7, rfl⟩ : ∃ z, z = u := ⟨_, rfl⟩
      obtain ⟨hP1, hK1, hD1⟩ := hB
      rw [ht] at hP1
      have hK1 := va_K.moved hvm.symm hK1
      try dsimp only at hw
      have hPD := va_join (wr := [(qf100, .inl (cf100, 48000, .inl f100)), (qf127, .inl (cf127, 30, .inl g127_25)), (qf104, .inl (cf104, 8, .inl f104)), (qf102, .inl (cf102, 2048, .inl f102)), (qf118, .inl (cf118, 2100, .inl g118_25)), (qf119, .inl (cf119, 2100, .inl g119_25)), (qf105, .inl (cf105, 8, .inl f105)), (qf137, .inl (cf137, 6, .inl g137_25))]) (w1 := [(h0, .inr (13, z_7)), (qf128, .inl (cf128, 31, .inl g128_25))]) hP hD [0, 2] [1, 3, 4, 5, 6, 7, 8, 9] rfl rfl (by decide) (by decide) hk1 hFc hP1 hD1
      clear hP hD
      obtain ⟨hP, hD⟩ := hPD
      replace hK := (hK.sub (tys' := [(cf100, .int), (cf127, .int), (cf104, .int), (cf102, .int), (cf118, .int), (cf119, .int), (cf105, .int), (cf137, .int)]) [0, 2, 3, 4, 5, 6, 7, 8] rfl).app hK1
      clear hPc hDc hKc hFc hP1 hK1 hD1 hz1 hk1 ht hvm
      generalize H1 = H at hP hS ⊢
      replace hP : va_P (dC, dI) vwCl [(qf100, .inl (cf100, 48000, .inl f100)), (qf127, .inl (cf127, 30, .inl g127_25)), (qf104, .inl (cf104, 8, .inl f104)), (qf102, .inl (cf102, 2048, .inl f102)), (qf118, .inl (cf118, 2100, .inl g118_25)), (qf119, .inl (cf119, 2100, .inl g119_25)), (qf105, .inl (cf105, 8, .inl f105)), (qf137, .inl (cf137, 6, .inl g137_25)), (h0, .inr (13, z_7)), (qf128, .inl (cf128, 31, .inl g128_25))] H := hP
      replace hD : va_D A [(qf100, .inl (cf100, 48000, .inl f100)), (qf127, .inl (cf127, 30, .inl g127_25)), (qf104, .inl (cf104, 8, .inl f104)), (qf102, .inl (cf102, 2048, .inl f102)), (qf118, .inl (cf118, 2100, .inl g118_25)), (qf119, .inl (cf119, 2100, .inl g119_25)), (qf105, .inl (cf105, 8, .inl f105)), (qf137, .inl (cf137, 6, .inl g137_25)), (h0, .inr (13, z_7)), (qf128, .inl (cf128, 31, .inl g128_25))] := hD
      replace hK : va_K (dC, dI) vwCl [(cf100, .int), (cf127, .int), (cf104, .int), (cf102, .int), (cf118, .int), (cf119, .int), (cf105, .int), (cf137, .int), (cf128, .int)] s := hK
      obtain ⟨hwa_7, hln_7, hre_7, hch_7_131⟩ := hw
      have hfk_7_98 : z_7[98]? = some (.int v98) := (hre_7 98 (by decide)).trans (hfh_25_98)
      have hfk_7_100 : z_7[100]? = some (.ref qf100) := (hre_7 100 (by decide)).trans (hfh_25_100)
      have hfk_7_102 : z_7[102]? = some (.ref qf102) := (hre_7 102 (by decide)).trans (hfh_25_102)
      have hfk_7_104 : z_7[104]? = some (.ref qf104) := (hre_7 104 (by decide)).trans (hfh_25_104)
      have hfk_7_105 : z_7[105]? = some (.ref qf105) := (hre_7 105 (by decide)).trans (hfh_25_105)
      have hfk_7_117 : z_7[117]? = some (.int x117_25) := (hre_7 117 (by decide)).trans (hfh_25_117)
      have hfk_7_118 : z_7[118]? = some (.ref qf118) := (hre_7 118 (by decide)).trans (hfh_25_118)
      have hfk_7_119 : z_7[119]? = some (.ref qf119) := (hre_7 119 (by decide)).trans (hfh_25_119)
      have hfk_7_120 : z_7[120]? = some (.int x120_25) := (hre_7 120 (by decide)).trans (hfh_25_120)
      have hfk_7_127 : z_7[127]? = some (.ref qf127) := (hre_7 127 (by decide)).trans (hfh_25_127)
      have hfk_7_128 : z_7[128]? = some (.ref qf128) := (hre_7 128 (by decide)).trans (hfh_25_128)
      have hfk_7_129 : z_7[129]? = some (.int v129) := (hre_7 129 (by decide)).trans (hfh_25_129)
      have hfk_7_130 : z_7[130]? = some (.int v130) := (hre_7 130 (by decide)).trans (hfh_25_130)
      have hfk_7_132 : z_7[132]? = some (.int v132) := (hre_7 132 (by decide)).trans (hfh_25_132)
      have hfk_7_134 : z_7[134]? = some (.int v134) := (hre_7 134 (by decide)).trans (hfh_25_134)
      have hfk_7_136 : z_7[136]? = some (.int v136) := (hre_7 136 (by decide)).trans (hfh_25_136)
      have hfk_7_137 : z_7[137]? = some (.ref qf137) := (hre_7 137 (by decide)).trans (hfh_25_137)
      have hrq_7 : ∀ j : Nat, j ≠ 117 → j ≠ 120 → j ≠ 131 → z_7[j]? = zs[j]? := fun j g117 g120 g131 => (hre_7 j g131).trans (hrh_25 j g117 g120 g131)
      obtain ⟨rfl, hz_7⟩ := hwa_7
      rcases hz_7 with rfl | rfl
      · rw [if_pos rfl] at hsp
        refine lv_if_ne (tgt := 964) hx hb dX13_wanted_959 (by decide) (fun c_67 => (show False by revert c_67; decide).elim) (fun c_67 => ?_)
        refine lv_iconst (v := 0) hx hb dX13_wanted_962 (by decide) ?_
        have hr0 := Option.some.inj hsp
        clear hsp
        obtain ⟨hq0, hr1⟩ := Prod.mk.inj hr0
        clear hr0
        obtain ⟨hq1, hr2⟩ := Prod.mk.inj hr1
        clear hr1
        obtain ⟨hq2, hr3⟩ := Prod.mk.inj hr2
        clear hr2
        obtain ⟨hq3, hr4⟩ := Prod.mk.inj hr3
        clear hr3
        obtain ⟨hq4, hr5⟩ := Prod.mk.inj hr4
        clear hr4
        obtain ⟨hq5, hr6⟩ := Prod.mk.inj hr5
        clear hr5
        obtain ⟨hq6, hr7⟩ := Prod.mk.inj hr6
        clear hr6
        obtain ⟨hq7, hr8⟩ := Prod.mk.inj hr7
        clear hr7
        subst hq0
        subst hq1
        subst hq2
        subst hq3
        subst hq4
        subst hq5
        subst hq6
        subst hq7
        subst hr8
        have hP9 := hP.sub (ws' := [(h0, .inr (13, z_7)), (qf100, .inl (cf100, 48000, .inl f100)), (qf128, .inl (cf128, 31, .inl g128_25)), (qf127, .inl (cf127, 30, .inl g127_25)), (qf104, .inl (cf104, 8, .inl f104)), (qf102, .inl (cf102, 2048, .inl f102)), (qf118, .inl (cf118, 2100, .inl g118_25)), (qf119, .inl (cf119, 2100, .inl g119_25)), (qf105, .inl (cf105, 8, .inl f105)), (qf137, .inl (cf137, 6, .inl g137_25))]) [8, 0, 9, 1, 2, 3, 4, 5, 6, 7] rfl
        have hD9 := hD.sub (ws' := [(h0, .inr (13, z_7)), (qf100, .inl (cf100, 48000, .inl f100)), (qf128, .inl (cf128, 31, .inl g128_25)), (qf127, .inl (cf127, 30, .inl g127_25)), (qf104, .inl (cf104, 8, .inl f104)), (qf102, .inl (cf102, 2048, .inl f102)), (qf118, .inl (cf118, 2100, .inl g118_25)), (qf119, .inl (cf119, 2100, .inl g119_25)), (qf105, .inl (cf105, 8, .inl f105)), (qf137, .inl (cf137, 6, .inl g137_25))]) [8, 0, 9, 1, 2, 3, 4, 5, 6, 7] (by decide) rfl
        have hK9 := hK.sub (tys' := [(cf100, .int), (cf128, .int), (cf127, .int), (cf104, .int), (cf102, .int), (cf118, .int), (cf119, .int), (cf105, .int), (cf137, .int)]) [0, 8, 1, 2, 3, 4, 5, 6, 7] rfl
        exact W.zret hx hb hr (by decide) (fun t ht hW => ⟨⟨(0), (z_7), rfl, ⟨⟨rfl, Or.inl rfl⟩, hln_7, hrq_7, hfk_7_117, hfk_7_120, hch_7_131⟩, by rw [ht]; exact hP9, va_K.moved hW.alike hK9, hD9⟩, hS.F ht⟩) hS.2.2 dX13_wanted_963
      · rw [if_neg (by decide)] at hsp
        refine lv_if_ne (tgt := 964) hx hb dX13_wanted_959 (by decide) (fun c_68 => ?_) (fun c_68 => (show False by revert c_68; decide).elim)
        refine lv_aload_n hx hb dX13_wanted_964 rfl (lv_at hl 1 rfl) ?_
        obtain ⟨⟨u8_0, u8_1⟩, hu_8, hsp⟩ := ox_bind hsp
        try dsimp only at hsp
        have hPc := hP.sub (ws' := [(h0, .inr (13, z_7)), (qf128, .inl (cf128, 31, .inl g128_25))]) [8, 9] rfl
        have hDc := hD.sub (ws' := [(h0, .inr (13, z_7)), (qf128, .inl (cf128, 31, .inl g128_25))]) [8, 9] (by decide) rfl
        have hKc := hK.sub (tys' := [(cf128, .int)]) [8] rfl
        have hFc := va_free (wc := [(h0, .inr (13, z_7)), (qf128, .inl (cf128, 31, .inl g128_25))]) hD hS hA [8, 9] rfl
        refine va_calli (va_runV (As := []) (rest := []) ⟨hx, hb, hml, hown, hts⟩ (tm_pull l dC dI H.size h0 z_7 qf128 u7_1 cf128 g128_25 nf u8_0 u8_1 hln_7 hfk_7_128 hch_7_131 hu_8) (cwV 0 hts gv_h9_68 rfl rfl rfl (by decide +kernel) ⟨Nat.le_of_ble_eq_true rfl, Nat.le_of_ble_eq_true rfl⟩) ⟨fun a U g mk q => by obtain ⟨q0, q1, qP, qK, qD⟩ := q; exact ⟨q0, q1, qP, va_K.moved (u := U) (U := U.calling g mk a) (Vm.Alike.refl U.vm) qK, qD⟩, va_recv hKc hPc (ci := 13) (q0 := 0) rfl rfl, fun U hU hW => ⟨rfl, by rw [hU], by rw [hU]; exact hPc, va_K.moved hW.alike hKc, hDc.weaken (fun _ _ _ _ => trivial)⟩⟩ rfl rfl hl.1 rfl (lv_room (Nat.le_of_ble_eq_true rfl)) dX13_wanted_965 ⟨Nat.le_of_ble_eq_true rfl, Nat.le_of_ble_eq_true rfl⟩) hS (fun q _ h => hFc q h) hFc ?_
        clear hS
        intro r_69 u t H1 locs ht hvm hw hB hz1 hk1 hS
        obtain ⟨z_8, rfl⟩ : ∃ z, z = u := ⟨_, rfl⟩
        obtain ⟨hP1, hK1, hD1⟩ := hB
        rw [ht] at hP1
        have hK1 := va_K.moved hvm.symm hK1
        try dsimp only at hw
        have hPD := va_join (wr := [(qf100, .inl (cf100, 48000, .inl f100)), (qf127, .inl (cf127, 30, .inl g127_25)), (qf104, .inl (cf104, 8, .inl f104)), (qf102, .inl (cf102, 2048, .inl f102)), (qf118, .inl (cf118, 2100, .inl g118_25)), (qf119, .inl (cf119, 2100, .inl g119_25)), (qf105, .inl (cf105, 8, .inl f105)), (qf137, .inl (cf137, 6, .inl g137_25))]) (w1 := [(h0, .inr (13, z_8)), (qf128, .inl (cf128, 31, .inl g128_25))]) hP hD [8, 9] [0, 1, 2, 3, 4, 5, 6, 7] rfl rfl (by decide) (by decide) hk1 hFc hP1 hD1
        clear hP hD
        obtain ⟨hP, hD⟩ := hPD
        replace hK := (hK.sub (tys' := [(cf100, .int), (cf127, .int), (cf104, .int), (cf102, .int), (cf118, .int), (cf119, .int), (cf105, .int), (cf137, .int)]) [0, 1, 2, 3, 4, 5, 6, 7] rfl).app hK1
        clear hPc hDc hKc hFc hP1 hK1 hD1 hz1 hk1 ht hvm
        generalize H1 = H at hP hS ⊢
        replace hP : va_P (dC, dI) vwCl [(qf100, .inl (cf100, 48000, .inl f100)), (qf127, .inl (cf127, 30, .inl g127_25)), (qf104, .inl (cf104, 8, .inl f104)), (qf102, .inl (cf102, 2048, .inl f102)), (qf118, .inl (cf118, 2100, .inl g118_25)), (qf119, .inl (cf119, 2100, .inl g119_25)), (qf105, .inl (cf105, 8, .inl f105)), (qf137, .inl (cf137, 6, .inl g137_25)), (h0, .inr (13, z_8)), (qf128, .inl (cf128, 31, .inl g128_25))] H := hP
        replace hD : va_D A [(qf100, .inl (cf100, 48000, .inl f100)), (qf127, .inl (cf127, 30, .inl g127_25)), (qf104, .inl (cf104, 8, .inl f104)), (qf102, .inl (cf102, 2048, .inl f102)), (qf118, .inl (cf118, 2100, .inl g118_25)), (qf119, .inl (cf119, 2100, .inl g119_25)), (qf105, .inl (cf105, 8, .inl f105)), (qf137, .inl (cf137, 6, .inl g137_25)), (h0, .inr (13, z_8)), (qf128, .inl (cf128, 31, .inl g128_25))] := hD
        replace hK : va_K (dC, dI) vwCl [(cf100, .int), (cf127, .int), (cf104, .int), (cf102, .int), (cf118, .int), (cf119, .int), (cf105, .int), (cf137, .int), (cf128, .int)] s := hK
        obtain ⟨hwa_8, hln_8, hre_8, hch_8_131⟩ := hw
        have hfk_8_98 : z_8[98]? = some (.int v98) := (hre_8 98 (by decide)).trans (hfk_7_98)
        have hfk_8_100 : z_8[100]? = some (.ref qf100) := (hre_8 100 (by decide)).trans (hfk_7_100)
        have hfk_8_102 : z_8[102]? = some (.ref qf102) := (hre_8 102 (by decide)).trans (hfk_7_102)
        have hfk_8_104 : z_8[104]? = some (.ref qf104) := (hre_8 104 (by decide)).trans (hfk_7_104)
        have hfk_8_105 : z_8[105]? = some (.ref qf105) := (hre_8 105 (by decide)).trans (hfk_7_105)
        have hfk_8_117 : z_8[117]? = some (.int x117_25) := (hre_8 117 (by decide)).trans (hfk_7_117)
        have hfk_8_118 : z_8[118]? = some (.ref qf118) := (hre_8 118 (by decide)).trans (hfk_7_118)
        have hfk_8_119 : z_8[119]? = some (.ref qf119) := (hre_8 119 (by decide)).trans (hfk_7_119)
        have hfk_8_120 : z_8[120]? = some (.int x120_25) := (hre_8 120 (by decide)).trans (hfk_7_120)
        have hfk_8_127 : z_8[127]? = some (.ref qf127) := (hre_8 127 (by decide)).trans (hfk_7_127)
        have hfk_8_128 : z_8[128]? = some (.ref qf128) := (hre_8 128 (by decide)).trans (hfk_7_128)
        have hfk_8_129 : z_8[129]? = some (.int v129) := (hre_8 129 (by decide)).trans (hfk_7_129)
        have hfk_8_130 : z_8[130]? = some (.int v130) := (hre_8 130 (by decide)).trans (hfk_7_130)
        have hfk_8_132 : z_8[132]? = some (.int v132) := (hre_8 132 (by decide)).trans (hfk_7_132)
        have hfk_8_134 : z_8[134]? = some (.int v134) := (hre_8 134 (by decide)).trans (hfk_7_134)
        have hfk_8_136 : z_8[136]? = some (.int v136) := (hre_8 136 (by decide)).trans (hfk_7_136)
        have hfk_8_137 : z_8[137]? = some (.ref qf137) := (hre_8 137 (by decide)).trans (hfk_7_137)
        have hrq_8 : ∀ j : Nat, j ≠ 117 → j ≠ 120 → j ≠ 131 → z_8[j]? = zs[j]? := fun j g117 g120 g131 => (hre_8 j g131).trans (hrq_7 j g117 g120 g131)
        obtain rfl := hwa_8
        refine lv_istore (lv' := [(4, .int u8_0), (3, .int s0_25), (0, .ref h0), (2, .int l2_25)]) hx hb dX13_wanted_968 hl (by decide) rfl (fun ls hl => ?_)
        refine lv_iload hx hb dX13_wanted_970 (lv_at hl 0 rfl) ?_
        refine lv_iconst (v := 3) hx hb dX13_wanted_972 (by decide) ?_
        refine lv_icmp_eq (tgt := 982) hx hb dX13_wanted_973 (by decide) (fun c_70 => ?_) (fun c_70 => ?_)
        · rw [if_pos c_70] at hsp
          refine lv_aload_n hx hb dX13_wanted_982 rfl (lv_at hl 2 rfl) ?_
          refine lv_iconst (v := 1) hx hb dX13_wanted_983 (by decide) ?_
          obtain ⟨⟨u9_0, g909_1, u9_2⟩, hu_9, hsp⟩ := ox_bind hsp
          try dsimp only at hsp
          have hPc := hP.sub (ws' := [(h0, .inr (13, z_8)), (qf128, .inl (cf128, 31, .inl g128_25))]) [8, 9] rfl
          have hDc := hD.sub (ws' := [(h0, .inr (13, z_8)), (qf128, .inl (cf128, 31, .inl g128_25))]) [8, 9] (by decide) rfl
          have hKc := hK.sub (tys' := [(cf128, .int)]) [8] rfl
          have hFc := va_free (wc := [(h0, .inr (13, z_8)), (qf128, .inl (cf128, 31, .inl g128_25))]) hD hS hA [8, 9] rfl
          refine va_calli (va_runV (As := [.int 1]) (rest := []) ⟨hx, hb, hml, hown, hts⟩ (tm_comesBack l dC dI H.size h0 z_8 1 qf128 v130 u8_1 cf128 g128_25 nf u9_0 g909_1 u9_2 hln_8 hfk_8_128 hfk_8_130 hch_8_131 hu_9) (cwV 1 hts gv_h9_69 rfl rfl rfl (by decide +kernel) ⟨Nat.le_of_ble_eq_true rfl, Nat.le_of_ble_eq_true rfl⟩) ⟨fun a U g mk q => by obtain ⟨q0, q1, qP, qK, qD⟩ := q; exact ⟨q0, q1, qP, va_K.moved (u := U) (U := U.calling g mk a) (Vm.Alike.refl U.vm) qK, qD⟩, va_recv hKc hPc (ci := 13) (q0 := 0) rfl rfl, fun U hU hW => ⟨rfl, by rw [hU], by rw [hU]; exact hPc, va_K.moved hW.alike hKc, hDc.weaken (fun _ _ _ _ => trivial)⟩⟩ rfl rfl hl.1 rfl (lv_room (Nat.le_of_ble_eq_true rfl)) dX13_wanted_984 ⟨Nat.le_of_ble_eq_true rfl, Nat.le_of_ble_eq_true rfl⟩) hS (fun q _ h => hFc q h) hFc ?_
          clear hS
          intro r_71 u t H1 locs ht hvm hw hB hz1 hk1 hS
          obtain ⟨z_9, rfl⟩ : ∃ z, z = u := ⟨_, rfl⟩
          obtain ⟨hP1, hK1, hD1⟩ := hB
          rw [ht] at hP1
          have hK1 := va_K.moved hvm.symm hK1
          try dsimp only at hw
          have hPD := va_join (wr := [(qf100, .inl (cf100, 48000, .inl f100)), (qf127, .inl (cf127, 30, .inl g127_25)), (qf104, .inl (cf104, 8, .inl f104)), (qf102, .inl (cf102, 2048, .inl f102)), (qf118, .inl (cf118, 2100, .inl g118_25)), (qf119, .inl (cf119, 2100, .inl g119_25)), (qf105, .inl (cf105, 8, .inl f105)), (qf137, .inl (cf137, 6, .inl g137_25))]) (w1 := [(h0, .inr (13, z_9)), (qf128, .inl (cf128, 31, .inl g909_1))]) hP hD [8, 9] [0, 1, 2, 3, 4, 5, 6, 7] rfl rfl (by decide) (by decide) hk1 hFc hP1 hD1
          clear hP hD
          obtain ⟨hP, hD⟩ := hPD
          replace hK := (hK.sub (tys' := [(cf100, .int), (cf127, .int), (cf104, .int), (cf102, .int), (cf118, .int), (cf119, .int), (cf105, .int), (cf137, .int)]) [0, 1, 2, 3, 4, 5, 6, 7] rfl).app hK1
          clear hPc hDc hKc hFc hP1 hK1 hD1 hz1 hk1 ht hvm
          generalize H1 = H at hP hS ⊢
          replace hP : va_P (dC, dI) vwCl [(qf100, .inl (cf100, 48000, .inl f100)), (qf127, .inl (cf127, 30, .inl g127_25)), (qf104, .inl (cf104, 8, .inl f104)), (qf102, .inl (cf102, 2048, .inl f102)), (qf118, .inl (cf118, 2100, .inl g118_25)), (qf119, .inl (cf119, 2100, .inl g119_25)), (qf105, .inl (cf105, 8, .inl f105)), (qf137, .inl (cf137, 6, .inl g137_25)), (h0, .inr (13, z_9)), (qf128, .inl (cf128, 31, .inl g909_1))] H := hP
          replace hD : va_D A [(qf100, .inl (cf100, 48000, .inl f100)), (qf127, .inl (cf127, 30, .inl g127_25)), (qf104, .inl (cf104, 8, .inl f104)), (qf102, .inl (cf102, 2048, .inl f102)), (qf118, .inl (cf118, 2100, .inl g118_25)), (qf119, .inl (cf119, 2100, .inl g119_25)), (qf105, .inl (cf105, 8, .inl f105)), (qf137, .inl (cf137, 6, .inl g137_25)), (h0, .inr (13, z_9)), (qf128, .inl (cf128, 31, .inl g909_1))] := hD
          replace hK : va_K (dC, dI) vwCl [(cf100, .int), (cf127, .int), (cf104, .int), (cf102, .int), (cf118, .int), (cf119, .int), (cf105, .int), (cf137, .int), (cf128, .int)] s := hK
          obtain ⟨hwa_9, hln_9, hre_9, hch_9_131⟩ := hw
          have hfk_9_98 : z_9[98]? = some (.int v98) := (hre_9 98 (by decide)).trans (hfk_8_98)
          have hfk_9_100 : z_9[100]? = some (.ref qf100) := (hre_9 100 (by decide)).trans (hfk_8_100)
          have hfk_9_102 : z_9[102]? = some (.ref qf102) := (hre_9 102 (by decide)).trans (hfk_8_102)
          have hfk_9_104 : z_9[104]? = some (.ref qf104) := (hre_9 104 (by decide)).trans (hfk_8_104)
          have hfk_9_105 : z_9[105]? = some (.ref qf105) := (hre_9 105 (by decide)).trans (hfk_8_105)
          have hfk_9_117 : z_9[117]? = some (.int x117_25) := (hre_9 117 (by decide)).trans (hfk_8_117)
          have hfk_9_118 : z_9[118]? = some (.ref qf118) := (hre_9 118 (by decide)).trans (hfk_8_118)
          have hfk_9_119 : z_9[119]? = some (.ref qf119) := (hre_9 119 (by decide)).trans (hfk_8_119)
          have hfk_9_120 : z_9[120]? = some (.int x120_25) := (hre_9 120 (by decide)).trans (hfk_8_120)
          have hfk_9_127 : z_9[127]? = some (.ref qf127) := (hre_9 127 (by decide)).trans (hfk_8_127)
          have hfk_9_128 : z_9[128]? = some (.ref qf128) := (hre_9 128 (by decide)).trans (hfk_8_128)
          have hfk_9_129 : z_9[129]? = some (.int v129) := (hre_9 129 (by decide)).trans (hfk_8_129)
          have hfk_9_130 : z_9[130]? = some (.int v130) := (hre_9 130 (by decide)).trans (hfk_8_130)
          have hfk_9_132 : z_9[132]? = some (.int v132) := (hre_9 132 (by decide)).trans (hfk_8_132)
          have hfk_9_134 : z_9[134]? = some (.int v134) := (hre_9 134 (by decide)).trans (hfk_8_134)
          have hfk_9_136 : z_9[136]? = some (.int v136) := (hre_9 136 (by decide)).trans (hfk_8_136)
          have hfk_9_137 : z_9[137]? = some (.ref qf137) := (hre_9 137 (by decide)).trans (hfk_8_137)
          have hrq_9 : ∀ j : Nat, j ≠ 117 → j ≠ 120 → j ≠ 131 → z_9[j]? = zs[j]? := fun j g117 g120 g131 => (hre_9 j g131).trans (hrq_8 j g117 g120 g131)
          obtain ⟨rfl, hz_9⟩ := hwa_9
          rcases hz_9 with rfl | rfl
          · rw [if_pos rfl] at hsp
            refine lv_if_eq (tgt := 994) hx hb dX13_wanted_987 (by decide) (fun c_72 => ?_) (fun c_72 => (show False by revert c_72; decide).elim)
            refine lv_iconst (v := 0) hx hb dX13_wanted_994 (by decide) ?_
            have hr0 := Option.some.inj hsp
            clear hsp
            obtain ⟨hq0, hr1⟩ := Prod.mk.inj hr0
            clear hr0
            obtain ⟨hq1, hr2⟩ := Prod.mk.inj hr1
            clear hr1
            obtain ⟨hq2, hr3⟩ := Prod.mk.inj hr2
            clear hr2
            obtain ⟨hq3, hr4⟩ := Prod.mk.inj hr3
            clear hr3
            obtain ⟨hq4, hr5⟩ := Prod.mk.inj hr4
            clear hr4
            obtain ⟨hq5, hr6⟩ := Prod.mk.inj hr5
            clear hr5
            obtain ⟨hq6, hr7⟩ := Prod.mk.inj hr6
            clear hr6
            obtain ⟨hq7, hr8⟩ := Prod.mk.inj hr7
            clear hr7
            subst hq0
            subst hq1
            subst hq2
            subst hq3
            subst hq4
            subst hq5
            subst hq6
            subst hq7
            subst hr8
            have hP9 := hP.sub (ws' := [(h0, .inr (13, z_9)), (qf100, .inl (cf100, 48000, .inl f100)), (qf128, .inl (cf128, 31, .inl g909_1)), (qf127, .inl (cf127, 30, .inl g127_25)), (qf104, .inl (cf104, 8, .inl f104)), (qf102, .inl (cf102, 2048, .inl f102)), (qf118, .inl (cf118, 2100, .inl g118_25)), (qf119, .inl (cf119, 2100, .inl g119_25)), (qf105, .inl (cf105, 8, .inl f105)), (qf137, .inl (cf137, 6, .inl g137_25))]) [8, 0, 9, 1, 2, 3, 4, 5, 6, 7] rfl
            have hD9 := hD.sub (ws' := [(h0, .inr (13, z_9)), (qf100, .inl (cf100, 48000, .inl f100)), (qf128, .inl (cf128, 31, .inl g909_1)), (qf127, .inl (cf127, 30, .inl g127_25)), (qf104, .inl (cf104, 8, .inl f104)), (qf102, .inl (cf102, 2048, .inl f102)), (qf118, .inl (cf118, 2100, .inl g118_25)), (qf119, .inl (cf119, 2100, .inl g119_25)), (qf105, .inl (cf105, 8, .inl f105)), (qf137, .inl (cf137, 6, .inl g137_25))]) [8, 0, 9, 1, 2, 3, 4, 5, 6, 7] (by decide) rfl
            have hK9 := hK.sub (tys' := [(cf100, .int), (cf128, .int), (cf127, .int), (cf104, .int), (cf102, .int), (cf118, .int), (cf119, .int), (cf105, .int), (cf137, .int)]) [0, 8, 1, 2, 3, 4, 5, 6, 7] rfl
            exact W.zret hx hb hr (by decide) (fun t ht hW => ⟨⟨(0), (z_9), rfl, ⟨⟨rfl, Or.inl rfl⟩, hln_9, hrq_9, hfk_9_117, hfk_9_120, hch_9_131⟩, by rw [ht]; exact hP9, va_K.moved hW.alike hK9, hD9⟩, hS.F ht⟩) hS.2.2 dX13_wanted_995
          · rw [if_neg (by decide)] at hsp
            refine lv_if_eq (tgt := 994) hx hb dX13_wanted_987 (by decide) (fun c_73 => (show False by revert c_73; decide).elim) (fun c_73 => ?_)
            refine lv_iconst (v := 1) hx hb dX13_wanted_990 (by decide) ?_
            refine lv_goto (tgt := 995) hx hb dX13_wanted_991 (by decide) ?_
            have hr0 := Option.some.inj hsp
            clear hsp
            obtain ⟨hq0, hr1⟩ := Prod.mk.inj hr0
            clear hr0
            obtain ⟨hq1, hr2⟩ := Prod.mk.inj hr1
            clear hr1
            obtain ⟨hq2, hr3⟩ := Prod.mk.inj hr2
            clear hr2
            obtain ⟨hq3, hr4⟩ := Prod.mk.inj hr3
            clear hr3
            obtain ⟨hq4, hr5⟩ := Prod.mk.inj hr4
            clear hr4
            obtain ⟨hq5, hr6⟩ := Prod.mk.inj hr5
            clear hr5
            obtain ⟨hq6, hr7⟩ := Prod.mk.inj hr6
            clear hr6
            obtain ⟨hq7, hr8⟩ := Prod.mk.inj hr7
            clear hr7
            subst hq0
            subst hq1
            subst hq2
            subst hq3
            subst hq4
            subst hq5
            subst hq6
            subst hq7
            subst hr8
            have hP9 := hP.sub (ws' := [(h0, .inr (13, z_9)), (qf100, .inl (cf100, 48000, .inl f100)), (qf128, .inl (cf128, 31, .inl g909_1)), (qf127, .inl (cf127, 30, .inl g127_25)), (qf104, .inl (cf104, 8, .inl f104)), (qf102, .inl (cf102, 2048, .inl f102)), (qf118, .inl (cf118, 2100, .inl g118_25)), (qf119, .inl (cf119, 2100, .inl g119_25)), (qf105, .inl (cf105, 8, .inl f105)), (qf137, .inl (cf137, 6, .inl g137_25))]) [8, 0, 9, 1, 2, 3, 4, 5, 6, 7] rfl
            have hD9 := hD.sub (ws' := [(h0, .inr (13, z_9)), (qf100, .inl (cf100, 48000, .inl f100)), (qf128, .inl (cf128, 31, .inl g909_1)), (qf127, .inl (cf127, 30, .inl g127_25)), (qf104, .inl (cf104, 8, .inl f104)), (qf102, .inl (cf102, 2048, .inl f102)), (qf118, .inl (cf118, 2100, .inl g118_25)), (qf119, .inl (cf119, 2100, .inl g119_25)), (qf105, .inl (cf105, 8, .inl f105)), (qf137, .inl (cf137, 6, .inl g137_25))]) [8, 0, 9, 1, 2, 3, 4, 5, 6, 7] (by decide) rfl
            have hK9 := hK.sub (tys' := [(cf100, .int), (cf128, .int), (cf127, .int), (cf104, .int), (cf102, .int), (cf118, .int), (cf119, .int), (cf105, .int), (cf137, .int)]) [0, 8, 1, 2, 3, 4, 5, 6, 7] rfl
            exact W.zret hx hb hr (by decide) (fun t ht hW => ⟨⟨(1), (z_9), rfl, ⟨⟨rfl, Or.inr rfl⟩, hln_9, hrq_9, hfk_9_117, hfk_9_120, hch_9_131⟩, by rw [ht]; exact hP9, va_K.moved hW.alike hK9, hD9⟩, hS.F ht⟩) hS.2.2 dX13_wanted_995
        · rw [if_neg c_70] at hsp
          refine lv_iload hx hb dX13_wanted_976 (lv_at hl 0 rfl) ?_
          refine lv_iconst (v := 2) hx hb dX13_wanted_978 (by decide) ?_
          refine lv_icmp_ne (tgt := 994) hx hb dX13_wanted_979 (by decide) (fun c_74 => ?_) (fun c_74 => ?_)
          · rw [if_neg c_74] at hsp
            refine lv_iconst (v := 0) hx hb dX13_wanted_994 (by decide) ?_
            have hr0 := Option.some.inj hsp
            clear hsp
            obtain ⟨hq0, hr1⟩ := Prod.mk.inj hr0
            clear hr0
            obtain ⟨hq1, hr2⟩ := Prod.mk.inj hr1
            clear hr1
            obtain ⟨hq2, hr3⟩ := Prod.mk.inj hr2
            clear hr2
            obtain ⟨hq3, hr4⟩ := Prod.mk.inj hr3
            clear hr3
            obtain ⟨hq4, hr5⟩ := Prod.mk.inj hr4
            clear hr4
            obtain ⟨hq5, hr6⟩ := Prod.mk.inj hr5
            clear hr5
            obtain ⟨hq6, hr7⟩ := Prod.mk.inj hr6
            clear hr6
            obtain ⟨hq7, hr8⟩ := Prod.mk.inj hr7
            clear hr7
            subst hq0
            subst hq1
            subst hq2
            subst hq3
            subst hq4
            subst hq5
            subst hq6
            subst hq7
            subst hr8
            have hP9 := hP.sub (ws' := [(h0, .inr (13, z_8)), (qf100, .inl (cf100, 48000, .inl f100)), (qf128, .inl (cf128, 31, .inl g128_25)), (qf127, .inl (cf127, 30, .inl g127_25)), (qf104, .inl (cf104, 8, .inl f104)), (qf102, .inl (cf102, 2048, .inl f102)), (qf118, .inl (cf118, 2100, .inl g118_25)), (qf119, .inl (cf119, 2100, .inl g119_25)), (qf105, .inl (cf105, 8, .inl f105)), (qf137, .inl (cf137, 6, .inl g137_25))]) [8, 0, 9, 1, 2, 3, 4, 5, 6, 7] rfl
            have hD9 := hD.sub (ws' := [(h0, .inr (13, z_8)), (qf100, .inl (cf100, 48000, .inl f100)), (qf128, .inl (cf128, 31, .inl g128_25)), (qf127, .inl (cf127, 30, .inl g127_25)), (qf104, .inl (cf104, 8, .inl f104)), (qf102, .inl (cf102, 2048, .inl f102)), (qf118, .inl (cf118, 2100, .inl g118_25)), (qf119, .inl (cf119, 2100, .inl g119_25)), (qf105, .inl (cf105, 8, .inl f105)), (qf137, .inl (cf137, 6, .inl g137_25))]) [8, 0, 9, 1, 2, 3, 4, 5, 6, 7] (by decide) rfl
            have hK9 := hK.sub (tys' := [(cf100, .int), (cf128, .int), (cf127, .int), (cf104, .int), (cf102, .int), (cf118, .int), (cf119, .int), (cf105, .int), (cf137, .int)]) [0, 8, 1, 2, 3, 4, 5, 6, 7] rfl
            exact W.zret hx hb hr (by decide) (fun t ht hW => ⟨⟨(0), (z_8), rfl, ⟨⟨rfl, Or.inl rfl⟩, hln_8, hrq_8, hfk_8_117, hfk_8_120, hch_8_131⟩, by rw [ht]; exact hP9, va_K.moved hW.alike hK9, hD9⟩, hS.F ht⟩) hS.2.2 dX13_wanted_995
          · rw [if_pos c_74] at hsp
            refine lv_aload_n hx hb dX13_wanted_982 rfl (lv_at hl 2 rfl) ?_
            refine lv_iconst (v := 1) hx hb dX13_wanted_983 (by decide) ?_
            obtain ⟨⟨u10_0, g910_1, u10_2⟩, hu_10, hsp⟩ := ox_bind hsp
            try dsimp only at hsp
            have hPc := hP.sub (ws' := [(h0, .inr (13, z_8)), (qf128, .inl (cf128, 31, .inl g128_25))]) [8, 9] rfl
            have hDc := hD.sub (ws' := [(h0, .inr (13, z_8)), (qf128, .inl (cf128, 31, .inl g128_25))]) [8, 9] (by decide) rfl
            have hKc := hK.sub (tys' := [(cf128, .int)]) [8] rfl
            have hFc := va_free (wc := [(h0, .inr (13, z_8)), (qf128, .inl (cf128, 31, .inl g128_25))]) hD hS hA [8, 9] rfl
            refine va_calli (va_runV (As := [.int 1]) (rest := []) ⟨hx, hb, hml, hown, hts⟩ (tm_comesBack l dC dI H.size h0 z_8 1 qf128 v130 u8_1 cf128 g128_25 nf u10_0 g910_1 u10_2 hln_8 hfk_8_128 hfk_8_130 hch_8_131 hu_10) (cwV 1 hts gv_h9_69 rfl rfl rfl (by decide +kernel) ⟨Nat.le_of_ble_eq_true rfl, Nat.le_of_ble_eq_true rfl⟩) ⟨fun a U g mk q => by obtain ⟨q0, q1, qP, qK, qD⟩ := q; exact ⟨q0, q1, qP, va_K.moved (u := U) (U := U.calling g mk a) (Vm.Alike.refl U.vm) qK, qD⟩, va_recv hKc hPc (ci := 13) (q0 := 0) rfl rfl, fun U hU hW => ⟨rfl, by rw [hU], by rw [hU]; exact hPc, va_K.moved hW.alike hKc, hDc.weaken (fun _ _ _ _ => trivial)⟩⟩ rfl rfl hl.1 rfl (lv_room (Nat.le_of_ble_eq_true rfl)) dX13_wanted_984 ⟨Nat.le_of_ble_eq_true rfl, Nat.le_of_ble_eq_true rfl⟩) hS (fun q _ h => hFc q h) hFc ?_
            clear hS
            intro r_75 u t H1 locs ht hvm hw hB hz1 hk1 hS
            obtain ⟨z_10, rfl⟩ : ∃ z, z = u := ⟨_, rfl⟩
            obtain ⟨hP1, hK1, hD1⟩ := hB
            rw [ht] at hP1
            have hK1 := va_K.moved hvm.symm hK1
            try dsimp only at hw
            have hPD := va_join (wr := [(qf100, .inl (cf100, 48000, .inl f100)), (qf127, .inl (cf127, 30, .inl g127_25)), (qf104, .inl (cf104, 8, .inl f104)), (qf102, .inl (cf102, 2048, .inl f102)), (qf118, .inl (cf118, 2100, .inl g118_25)), (qf119, .inl (cf119, 2100, .inl g119_25)), (qf105, .inl (cf105, 8, .inl f105)), (qf137, .inl (cf137, 6, .inl g137_25))]) (w1 := [(h0, .inr (13, z_10)), (qf128, .inl (cf128, 31, .inl g910_1))]) hP hD [8, 9] [0, 1, 2, 3, 4, 5, 6, 7] rfl rfl (by decide) (by decide) hk1 hFc hP1 hD1
            clear hP hD
            obtain ⟨hP, hD⟩ := hPD
            replace hK := (hK.sub (tys' := [(cf100, .int), (cf127, .int), (cf104, .int), (cf102, .int), (cf118, .int), (cf119, .int), (cf105, .int), (cf137, .int)]) [0, 1, 2, 3, 4, 5, 6, 7] rfl).app hK1
            clear hPc hDc hKc hFc hP1 hK1 hD1 hz1 hk1 ht hvm
            generalize H1 = H at hP hS ⊢
            replace hP : va_P (dC, dI) vwCl [(qf100, .inl (cf100, 48000, .inl f100)), (qf127, .inl (cf127, 30, .inl g127_25)), (qf104, .inl (cf104, 8, .inl f104)), (qf102, .inl (cf102, 2048, .inl f102)), (qf118, .inl (cf118, 2100, .inl g118_25)), (qf119, .inl (cf119, 2100, .inl g119_25)), (qf105, .inl (cf105, 8, .inl f105)), (qf137, .inl (cf137, 6, .inl g137_25)), (h0, .inr (13, z_10)), (qf128, .inl (cf128, 31, .inl g910_1))] H := hP
            replace hD : va_D A [(qf100, .inl (cf100, 48000, .inl f100)), (qf127, .inl (cf127, 30, .inl g127_25)), (qf104, .inl (cf104, 8, .inl f104)), (qf102, .inl (cf102, 2048, .inl f102)), (qf118, .inl (cf118, 2100, .inl g118_25)), (qf119, .inl (cf119, 2100, .inl g119_25)), (qf105, .inl (cf105, 8, .inl f105)), (qf137, .inl (cf137, 6, .inl g137_25)), (h0, .inr (13, z_10)), (qf128, .inl (cf128, 31, .inl g910_1))] := hD
            replace hK : va_K (dC, dI) vwCl [(cf100, .int), (cf127, .int), (cf104, .int), (cf102, .int), (cf118, .int), (cf119, .int), (cf105, .int), (cf137, .int), (cf128, .int)] s := hK
            obtain ⟨hwa_10, hln_10, hre_10, hch_10_131⟩ := hw
            have hfk_10_98 : z_10[98]? = some (.int v98) := (hre_10 98 (by decide)).trans (hfk_8_98)
            have hfk_10_100 : z_10[100]? = some (.ref qf100) := (hre_10 100 (by decide)).trans (hfk_8_100)
            have hfk_10_102 : z_10[102]? = some (.ref qf102) := (hre_10 102 (by decide)).trans (hfk_8_102)
            have hfk_10_104 : z_10[104]? = some (.ref qf104) := (hre_10 104 (by decide)).trans (hfk_8_104)
            have hfk_10_105 : z_10[105]? = some (.ref qf105) := (hre_10 105 (by decide)).trans (hfk_8_105)
            have hfk_10_117 : z_10[117]? = some (.int x117_25) := (hre_10 117 (by decide)).trans (hfk_8_117)
            have hfk_10_118 : z_10[118]? = some (.ref qf118) := (hre_10 118 (by decide)).trans (hfk_8_118)
            have hfk_10_119 : z_10[119]? = some (.ref qf119) := (hre_10 119 (by decide)).trans (hfk_8_119)
            have hfk_10_120 : z_10[120]? = some (.int x120_25) := (hre_10 120 (by decide)).trans (hfk_8_120)
            have hfk_10_127 : z_10[127]? = some (.ref qf127) := (hre_10 127 (by decide)).trans (hfk_8_127)
            have hfk_10_128 : z_10[128]? = some (.ref qf128) := (hre_10 128 (by decide)).trans (hfk_8_128)
            have hfk_10_129 : z_10[129]? = some (.int v129) := (hre_10 129 (by decide)).trans (hfk_8_129)
            have hfk_10_130 : z_10[130]? = some (.int v130) := (hre_10 130 (by decide)).trans (hfk_8_130)
            have hfk_10_132 : z_10[132]? = some (.int v132) := (hre_10 132 (by decide)).trans (hfk_8_132)
            have hfk_10_134 : z_10[134]? = some (.int v134) := (hre_10 134 (by decide)).trans (hfk_8_134)
            have hfk_10_136 : z_10[136]? = some (.int v136) := (hre_10 136 (by decide)).trans (hfk_8_136)
            have hfk_10_137 : z_10[137]? = some (.ref qf137) := (hre_10 137 (by decide)).trans (hfk_8_137)
            have hrq_10 : ∀ j : Nat, j ≠ 117 → j ≠ 120 → j ≠ 131 → z_10[j]? = zs[j]? := fun j g117 g120 g131 => (hre_10 j g131).trans (hrq_8 j g117 g120 g131)
            obtain ⟨rfl, hz_10⟩ := hwa_10
            rcases hz_10 with rfl | rfl
            · rw [if_pos rfl] at hsp
              refine lv_if_eq (tgt := 994) hx hb dX13_wanted_987 (by decide) (fun c_76 => ?_) (fun c_76 => (show False by revert c_76; decide).elim)
              refine lv_iconst (v := 0) hx hb dX13_wanted_994 (by decide) ?_
              have hr0 := Option.some.inj hsp
              clear hsp
              obtain ⟨hq0, hr1⟩ := Prod.mk.inj hr0
              clear hr0
              obtain ⟨hq1, hr2⟩ := Prod.mk.inj hr1
              clear hr1
              obtain ⟨hq2, hr3⟩ := Prod.mk.inj hr2
              clear hr2
              obtain ⟨hq3, hr4⟩ := Prod.mk.inj hr3
              clear hr3
              obtain ⟨hq4, hr5⟩ := Prod.mk.inj hr4
              clear hr4
              obtain ⟨hq5, hr6⟩ := Prod.mk.inj hr5
              clear hr5
              obtain ⟨hq6, hr7⟩ := Prod.mk.inj hr6
              clear hr6
              obtain ⟨hq7, hr8⟩ := Prod.mk.inj hr7
              clear hr7
              subst hq0
              subst hq1
              subst hq2
              subst hq3
              subst hq4
              subst hq5
              subst hq6
              subst hq7
              subst hr8
              have hP9 := hP.sub (ws' := [(h0, .inr (13, z_10)), (qf100, .inl (cf100, 48000, .inl f100)), (qf128, .inl (cf128, 31, .inl g910_1)), (qf127, .inl (cf127, 30, .inl g127_25)), (qf104, .inl (cf104, 8, .inl f104)), (qf102, .inl (cf102, 2048, .inl f102)), (qf118, .inl (cf118, 2100, .inl g118_25)), (qf119, .inl (cf119, 2100, .inl g119_25)), (qf105, .inl (cf105, 8, .inl f105)), (qf137, .inl (cf137, 6, .inl g137_25))]) [8, 0, 9, 1, 2, 3, 4, 5, 6, 7] rfl
              have hD9 := hD.sub (ws' := [(h0, .inr (13, z_10)), (qf100, .inl (cf100, 48000, .inl f100)), (qf128, .inl (cf128, 31, .inl g910_1)), (qf127, .inl (cf127, 30, .inl g127_25)), (qf104, .inl (cf104, 8, .inl f104)), (qf102, .inl (cf102, 2048, .inl f102)), (qf118, .inl (cf118, 2100, .inl g118_25)), (qf119, .inl (cf119, 2100, .inl g119_25)), (qf105, .inl (cf105, 8, .inl f105)), (qf137, .inl (cf137, 6, .inl g137_25))]) [8, 0, 9, 1, 2, 3, 4, 5, 6, 7] (by decide) rfl
              have hK9 := hK.sub (tys' := [(cf100, .int), (cf128, .int), (cf127, .int), (cf104, .int), (cf102, .int), (cf118, .int), (cf119, .int), (cf105, .int), (cf137, .int)]) [0, 8, 1, 2, 3, 4, 5, 6, 7] rfl
              exact W.zret hx hb hr (by decide) (fun t ht hW => ⟨⟨(0), (z_10), rfl, ⟨⟨rfl, Or.inl rfl⟩, hln_10, hrq_10, hfk_10_117, hfk_10_120, hch_10_131⟩, by rw [ht]; exact hP9, va_K.moved hW.alike hK9, hD9⟩, hS.F ht⟩) hS.2.2 dX13_wanted_995
            · rw [if_neg (by decide)] at hsp
              refine lv_if_eq (tgt := 994) hx hb dX13_wanted_987 (by decide) (fun c_77 => (show False by revert c_77; decide).elim) (fun c_77 => ?_)
              refine lv_iconst (v := 1) hx hb dX13_wanted_990 (by decide) ?_
              refine lv_goto (tgt := 995) hx hb dX13_wanted_991 (by decide) ?_
              have hr0 := Option.some.inj hsp
              clear hsp
              obtain ⟨hq0, hr1⟩ := Prod.mk.inj hr0
              clear hr0
              obtain ⟨hq1, hr2⟩ := Prod.mk.inj hr1
              clear hr1
              obtain ⟨hq2, hr3⟩ := Prod.mk.inj hr2
              clear hr2
              obtain ⟨hq3, hr4⟩ := Prod.mk.inj hr3
              clear hr3
              obtain ⟨hq4, hr5⟩ := Prod.mk.inj hr4
              clear hr4
              obtain ⟨hq5, hr6⟩ := Prod.mk.inj hr5
              clear hr5
              obtain ⟨hq6, hr7⟩ := Prod.mk.inj hr6
              clear hr6
              obtain ⟨hq7, hr8⟩ := Prod.mk.inj hr7
              clear hr7
              subst hq0
              subst hq1
              subst hq2
              subst hq3
              subst hq4
              subst hq5
              subst hq6
              subst hq7
              subst hr8
              have hP9 := hP.sub (ws' := [(h0, .inr (13, z_10)), (qf100, .inl (cf100, 48000, .inl f100)), (qf128, .inl (cf128, 31, .inl g910_1)), (qf127, .inl (cf127, 30, .inl g127_25)), (qf104, .inl (cf104, 8, .inl f104)), (qf102, .inl (cf102, 2048, .inl f102)), (qf118, .inl (cf118, 2100, .inl g118_25)), (qf119, .inl (cf119, 2100, .inl g119_25)), (qf105, .inl (cf105, 8, .inl f105)), (qf137, .inl (cf137, 6, .inl g137_25))]) [8, 0, 9, 1, 2, 3, 4, 5, 6, 7] rfl
              have hD9 := hD.sub (ws' := [(h0, .inr (13, z_10)), (qf100, .inl (cf100, 48000, .inl f100)), (qf128, .inl (cf128, 31, .inl g910_1)), (qf127, .inl (cf127, 30, .inl g127_25)), (qf104, .inl (cf104, 8, .inl f104)), (qf102, .inl (cf102, 2048, .inl f102)), (qf118, .inl (cf118, 2100, .inl g118_25)), (qf119, .inl (cf119, 2100, .inl g119_25)), (qf105, .inl (cf105, 8, .inl f105)), (qf137, .inl (cf137, 6, .inl g137_25))]) [8, 0, 9, 1, 2, 3, 4, 5, 6, 7] (by decide) rfl
              have hK9 := hK.sub (tys' := [(cf100, .int), (cf128, .int), (cf127, .int), (cf104, .int), (cf102, .int), (cf118, .int), (cf119, .int), (cf105, .int), (cf137, .int)]) [0, 8, 1, 2, 3, 4, 5, 6, 7] rfl
              exact W.zret hx hb hr (by decide) (fun t ht hW => ⟨⟨(1), (z_10), rfl, ⟨⟨rfl, Or.inr rfl⟩, hln_10, hrq_10, hfk_10_117, hfk_10_120, hch_10_131⟩, by rw [ht]; exact hP9, va_K.moved hW.alike hK9, hD9⟩, hS.F ht⟩) hS.2.2 dX13_wanted_995
    rw [if_neg hs_65] at hsp
    by_cases hs_78 : l2_25 = 47
    · rw [if_pos hs_78] at hsp
      refine lv_tableIn (tgt := 1642) hx hb dX13_wanted_27 (by rw [hs_78]; decide) (by rw [hs_78]; decide) (off := 1615) (by rw [hs_78]; rfl) (by decide) ?_
      exact hj_1642 (H, locs, ls, z25, g118_25, g119_25, g127_25, g128_25, g137_25, x117_25, x120_25, x131_25) ⟨lv_sub hl [1] rfl, hS, hD.sub (ws' := [(h0, .inr (13, z25)), (qf100, .inl (cf100, 48000, .inl f100)), (qf128, .inl (cf128, 31, .inl g128_25)), (qf127, .inl (cf127, 30, .inl g127_25)), (qf104, .inl (cf104, 8, .inl f104)), (qf102, .inl (cf102, 2048, .inl f102)), (qf118, .inl (cf118, 2100, .inl g118_25)), (qf119, .inl (cf119, 2100, .inl g119_25)), (qf105, .inl (cf105, 8, .inl f105)), (qf137, .inl (cf137, 6, .inl g137_25))]) [0, 1, 2, 3, 4, 5, 6, 7, 8, 9] (by decide) rfl, hP.sub (ws' := [(h0, .inr (13, z25)), (qf100, .inl (cf100, 48000, .inl f100)), (qf128, .inl (cf128, 31, .inl g128_25)), (qf127, .inl (cf127, 30, .inl g127_25)), (qf104, .inl (cf104, 8, .inl f104)), (qf102, .inl (cf102, 2048, .inl f102)), (qf118, .inl (cf118, 2100, .inl g118_25)), (qf119, .inl (cf119, 2100, .inl g119_25)), (qf105, .inl (cf105, 8, .inl f105)), (qf137, .inl (cf137, 6, .inl g137_25))]) [0, 1, 2, 3, 4, 5, 6, 7, 8, 9] rfl, hfh_25_98, hfh_25_100, hfh_25_102, hfh_25_104, hfh_25_105, hfh_25_117, hfh_25_118, hfh_25_119, hfh_25_120, hfh_25_127, hfh_25_128, hfh_25_129, hfh_25_130, hfh_25_131, hfh_25_132, hfh_25_134, hfh_25_136, hfh_25_137, hlh_25, hrh_25, hsp⟩
    rw [if_neg hs_78] at hsp
    by_cases hs_79 : l2_25 = 48
    · rw [if_pos hs_79] at hsp
      refine lv_tableIn (tgt := 1642) hx hb dX13_wanted_27 (by rw [hs_79]; decide) (by rw [hs_79]; decide) (off := 1615) (by rw [hs_79]; rfl) (by decide) ?_
      exact hj_1642 (H, locs, ls, z25, g118_25, g119_25, g127_25, g128_25, g137_25, x117_25, x120_25, x131_25) ⟨lv_sub hl [1] rfl, hS, hD.sub (ws' := [(h0, .inr (13, z25)), (qf100, .inl (cf100, 48000, .inl f100)), (qf128, .inl (cf128, 31, .inl g128_25)), (qf127, .inl (cf127, 30, .inl g127_25)), (qf104, .inl (cf104, 8, .inl f104)), (qf102, .inl (cf102, 2048, .inl f102)), (qf118, .inl (cf118, 2100, .inl g118_25)), (qf119, .inl (cf119, 2100, .inl g119_25)), (qf105, .inl (cf105, 8, .inl f105)), (qf137, .inl (cf137, 6, .inl g137_25))]) [0, 1, 2, 3, 4, 5, 6, 7, 8, 9] (by decide) rfl, hP.sub (ws' := [(h0, .inr (13, z25)), (qf100, .inl (cf100, 48000, .inl f100)), (qf128, .inl (cf128, 31, .inl g128_25)), (qf127, .inl (cf127, 30, .inl g127_25)), (qf104, .inl (cf104, 8, .inl f104)), (qf102, .inl (cf102, 2048, .inl f102)), (qf118, .inl (cf118, 2100, .inl g118_25)), (qf119, .inl (cf119, 2100, .inl g119_25)), (qf105, .inl (cf105, 8, .inl f105)), (qf137, .inl (cf137, 6, .inl g137_25))]) [0, 1, 2, 3, 4, 5, 6, 7, 8, 9] rfl, hfh_25_98, hfh_25_100, hfh_25_102, hfh_25_104, hfh_25_105, hfh_25_117, hfh_25_118, hfh_25_119, hfh_25_120, hfh_25_127, hfh_25_128, hfh_25_129, hfh_25_130, hfh_25_131, hfh_25_132, hfh_25_134, hfh_25_136, hfh_25_137, hlh_25, hrh_25, hsp⟩
    rw [if_neg hs_79] at hsp
    by_cases hs_80 : l2_25 = 49
    · rw [if_pos hs_80] at hsp
      refine lv_tableIn (tgt := 1642) hx hb dX13_wanted_27 (by rw [hs_80]; decide) (by rw [hs_80]; decide) (off := 1615) (by rw [hs_80]; rfl) (by decide) ?_
      exact hj_1642 (H, locs, ls, z25, g118_25, g119_25, g127_25, g128_25, g137_25, x117_25, x120_25, x131_25) ⟨lv_sub hl [1] rfl, hS, hD.sub (ws' := [(h0, .inr (13, z25)), (qf100, .inl (cf100, 48000, .inl f100)), (qf128, .inl (cf128, 31, .inl g128_25)), (qf127, .inl (cf127, 30, .inl g127_25)), (qf104, .inl (cf104, 8, .inl f104)), (qf102, .inl (cf102, 2048, .inl f102)), (qf118, .inl (cf118, 2100, .inl g118_25)), (qf119, .inl (cf119, 2100, .inl g119_25)), (qf105, .inl (cf105, 8, .inl f105)), (qf137, .inl (cf137, 6, .inl g137_25))]) [0, 1, 2, 3, 4, 5, 6, 7, 8, 9] (by decide) rfl, hP.sub (ws' := [(h0, .inr (13, z25)), (qf100, .inl (cf100, 48000, .inl f100)), (qf128, .inl (cf128, 31, .inl g128_25)), (qf127, .inl (cf127, 30, .inl g127_25)), (qf104, .inl (cf104, 8, .inl f104)), (qf102, .inl (cf102, 2048, .inl f102)), (qf118, .inl (cf118, 2100, .inl g118_25)), (qf119, .inl (cf119, 2100, .inl g119_25)), (qf105, .inl (cf105, 8, .inl f105)), (qf137, .inl (cf137, 6, .inl g137_25))]) [0, 1, 2, 3, 4, 5, 6, 7, 8, 9] rfl, hfh_25_98, hfh_25_100, hfh_25_102, hfh_25_104, hfh_25_105, hfh_25_117, hfh_25_118, hfh_25_119, hfh_25_120, hfh_25_127, hfh_25_128, hfh_25_129, hfh_25_130, hfh_25_131, hfh_25_132, hfh_25_134, hfh_25_136, hfh_25_137, hlh_25, hrh_25, hsp⟩
    rw [if_neg hs_80] at hsp
    by_cases hs_81 : l2_25 = 50
    · rw [if_pos hs_81] at hsp
      refine lv_tableIn (tgt := 996) hx hb dX13_wanted_27 (by rw [hs_81]; decide) (by rw [hs_81]; decide) (off := 969) (by rw [hs_81]; rfl) (by decide) ?_
      refine lv_aload_n hx hb dX13_wanted_996 rfl (lv_at hl 1 rfl) ?_
      refine lv_iconst (v := 1) hx hb dX13_wanted_997 (by decide) ?_
      obtain ⟨⟨u11_0, u11_1⟩, hu_11, hsp⟩ := ox_bind hsp
      try dsimp only at hsp
      have hPc := hP.sub (ws' := [(h0, .inr (13, z25)), (qf128, .inl (cf128, 31, .inl g128_25))]) [0, 2] rfl
      have hDc := hD.sub (ws' := [(h0, .inr (13, z25)), (qf128, .inl (cf128, 31, .inl g128_25))]) [0, 2] (by decide) rfl
      have hKc := hK.sub (tys' := [(cf128, .int)]) [1] rfl
      have hFc := va_free (wc := [(h0, .inr (13, z25)), (qf128, .inl (cf128, 31, .inl g128_25))]) hD hS hA [0, 2] rfl
      refine va_calli (va_runV (As := [.int 1]) (rest := []) ⟨hx, hb, hml, hown, hts⟩ (tn_pullInts l dC dI H.size h0 z25 1 qf128 x131_25 cf128 g128_25 nf u11_0 u11_1 hlh_25 hfh_25_128 hfh_25_131 hu_11) (cwV 1 hts gv_h9_70 rfl rfl rfl (by decide +kernel) ⟨Nat.le_of_ble_eq_true rfl, Nat.le_of_ble_eq_true rfl⟩) ⟨fun a U g mk q => by obtain ⟨q0, q1, qP, qK, qD⟩ := q; exact ⟨q0, q1, qP, va_K.moved (u := U) (U := U.calling g mk a) (Vm.Alike.refl U.vm) qK, qD⟩, va_recv hKc hPc (ci := 13) (q0 := 0) rfl rfl, fun U hU hW => ⟨rfl, by rw [hU], by rw [hU]; exact hPc, va_K.moved hW.alike hKc, hDc.weaken (fun _ _ _ _ => trivial)⟩⟩ rfl rfl hl.1 rfl (lv_room (Nat.le_of_ble_eq_true rfl)) dX13_wanted_998 ⟨Nat.le_of_ble_eq_true rfl, Nat.le_of_ble_eq_true rfl⟩) hS (fun q _ h => hFc q h) hFc ?_
      clear hS
      intro r_82 u t H1 locs ht hvm hw hB hz1 hk1 hS
      obtain ⟨z_11, rfl⟩ : ∃ z, z = u := ⟨_, rfl⟩
      obtain ⟨hP1, hK1, hD1⟩ := hB
      rw [ht] at hP1
      have hK1 := va_K.moved hvm.symm hK1
      try dsimp only at hw
      have hPD := va_join (wr := [(qf100, .inl (cf100, 48000, .inl f100)), (qf127, .inl (cf127, 30, .inl g127_25)), (qf104, .inl (cf104, 8, .inl f104)), (qf102, .inl (cf102, 2048, .inl f102)), (qf118, .inl (cf118, 2100, .inl g118_25)), (qf119, .inl (cf119, 2100, .inl g119_25)), (qf105, .inl (cf105, 8, .inl f105)), (qf137, .inl (cf137, 6, .inl g137_25))]) (w1 := [(h0, .inr (13, z_11)), (qf128, .inl (cf128, 31, .inl g128_25))]) hP hD [0, 2] [1, 3, 4, 5, 6, 7, 8, 9] rfl rfl (by decide) (by decide) hk1 hFc hP1 hD1
      clear hP hD
      obtain ⟨hP, hD⟩ := hPD
      replace hK := (hK.sub (tys' := [(cf100, .int), (cf127, .int), (cf104, .int), (cf102, .int), (cf118, .int), (cf119, .int), (cf105, .int), (cf137, .int)]) [0, 2, 3, 4, 5, 6, 7, 8] rfl).app hK1
      clear hPc hDc hKc hFc hP1 hK1 hD1 hz1 hk1 ht hvm
      generalize H1 = H at hP hS ⊢
      replace hP : va_P (dC, dI) vwCl [(qf100, .inl (cf100, 48000, .inl f100)), (qf127, .inl (cf127, 30, .inl g127_25)), (qf104, .inl (cf104, 8, .inl f104)), (qf102, .inl (cf102, 2048, .inl f102)), (qf118, .inl (cf118, 2100, .inl g118_25)), (qf119, .inl (cf119, 2100, .inl g119_25)), (qf105, .inl (cf105, 8, .inl f105)), (qf137, .inl (cf137, 6, .inl g137_25)), (h0, .inr (13, z_11)), (qf128, .inl (cf128, 31, .inl g128_25))] H := hP
      replace hD : va_D A [(qf100, .inl (cf100, 48000, .inl f100)), (qf127, .inl (cf127, 30, .inl g127_25)), (qf104, .inl (cf104, 8, .inl f104)), (qf102, .inl (cf102, 2048, .inl f102)), (qf118, .inl (cf118, 2100, .inl g118_25)), (qf119, .inl (cf119, 2100, .inl g119_25)), (qf105, .inl (cf105, 8, .inl f105)), (qf137, .inl (cf137, 6, .inl g137_25)), (h0, .inr (13, z_11)), (qf128, .inl (cf128, 31, .inl g128_25))] := hD
      replace hK : va_K (dC, dI) vwCl [(cf100, .int), (cf127, .int), (cf104, .int), (cf102, .int), (cf118, .int), (cf119, .int), (cf105, .int), (cf137, .int), (cf128, .int)] s := hK
      obtain ⟨hwa_11, hln_11, hre_11, hch_11_131⟩ := hw
      have hfk_11_98 : z_11[98]? = some (.int v98) := (hre_11 98 (by decide)).trans (hfh_25_98)
      have hfk_11_100 : z_11[100]? = some (.ref qf100) := (hre_11 100 (by decide)).trans (hfh_25_100)
      have hfk_11_102 : z_11[102]? = some (.ref qf102) := (hre_11 102 (by decide)).trans (hfh_25_102)
      have hfk_11_104 : z_11[104]? = some (.ref qf104) := (hre_11 104 (by decide)).trans (hfh_25_104)
      have hfk_11_105 : z_11[105]? = some (.ref qf105) := (hre_11 105 (by decide)).trans (hfh_25_105)
      have hfk_11_117 : z_11[117]? = some (.int x117_25) := (hre_11 117 (by decide)).trans (hfh_25_117)
      have hfk_11_118 : z_11[118]? = some (.ref qf118) := (hre_11 118 (by decide)).trans (hfh_25_118)
      have hfk_11_119 : z_11[119]? = some (.ref qf119) := (hre_11 119 (by decide)).trans (hfh_25_119)
      have hfk_11_120 : z_11[120]? = some (.int x120_25) := (hre_11 120 (by decide)).trans (hfh_25_120)
      have hfk_11_127 : z_11[127]? = some (.ref qf127) := (hre_11 127 (by decide)).trans (hfh_25_127)
      have hfk_11_128 : z_11[128]? = some (.ref qf128) := (hre_11 128 (by decide)).trans (hfh_25_128)
      have hfk_11_129 : z_11[129]? = some (.int v129) := (hre_11 129 (by decide)).trans (hfh_25_129)
      have hfk_11_130 : z_11[130]? = some (.int v130) := (hre_11 130 (by decide)).trans (hfh_25_130)
      have hfk_11_132 : z_11[132]? = some (.int v132) := (hre_11 132 (by decide)).trans (hfh_25_132)
      have hfk_11_134 : z_11[134]? = some (.int v134) := (hre_11 134 (by decide)).trans (hfh_25_134)
      have hfk_11_136 : z_11[136]? = some (.int v136) := (hre_11 136 (by decide)).trans (hfh_25_136)
      have hfk_11_137 : z_11[137]? = some (.ref qf137) := (hre_11 137 (by decide)).trans (hfh_25_137)
      have hrq_11 : ∀ j : Nat, j ≠ 117 → j ≠ 120 → j ≠ 131 → z_11[j]? = zs[j]? := fun j g117 g120 g131 => (hre_11 j g131).trans (hrh_25 j g117 g120 g131)
      obtain ⟨rfl, hz_11⟩ := hwa_11
      rcases hz_11 with rfl | rfl
      · rw [if_pos rfl] at hsp
        refine lv_if_ne (tgt := 1006) hx hb dX13_wanted_1001 (by decide) (fun c_83 => (show False by revert c_83; decide).elim) (fun c_83 => ?_)
        refine lv_iconst (v := 0) hx hb dX13_wanted_1004 (by decide) ?_
        have hr0 := Option.some.inj hsp
        clear hsp
        obtain ⟨hq0, hr1⟩ := Prod.mk.inj hr0
        clear hr0
        obtain ⟨hq1, hr2⟩ := Prod.mk.inj hr1
        clear hr1
        obtain ⟨hq2, hr3⟩ := Prod.mk.inj hr2
        clear hr2
        obtain ⟨hq3, hr4⟩ := Prod.mk.inj hr3
        clear hr3
        obtain ⟨hq4, hr5⟩ := Prod.mk.inj hr4
        clear hr4
        obtain ⟨hq5, hr6⟩ := Prod.mk.inj hr5
        clear hr5
        obtain ⟨hq6, hr7⟩ := Prod.mk.inj hr6
        clear hr6
        obtain ⟨hq7, hr8⟩ := Prod.mk.inj hr7
        clear hr7
        subst hq0
        subst hq1
        subst hq2
        subst hq3
        subst hq4
        subst hq5
        subst hq6
        subst hq7
        subst hr8
        have hP9 := hP.sub (ws' := [(h0, .inr (13, z_11)), (qf100, .inl (cf100, 48000, .inl f100)), (qf128, .inl (cf128, 31, .inl g128_25)), (qf127, .inl (cf127, 30, .inl g127_25)), (qf104, .inl (cf104, 8, .inl f104)), (qf102, .inl (cf102, 2048, .inl f102)), (qf118, .inl (cf118, 2100, .inl g118_25)), (qf119, .inl (cf119, 2100, .inl g119_25)), (qf105, .inl (cf105, 8, .inl f105)), (qf137, .inl (cf137, 6, .inl g137_25))]) [8, 0, 9, 1, 2, 3, 4, 5, 6, 7] rfl
        have hD9 := hD.sub (ws' := [(h0, .inr (13, z_11)), (qf100, .inl (cf100, 48000, .inl f100)), (qf128, .inl (cf128, 31, .inl g128_25)), (qf127, .inl (cf127, 30, .inl g127_25)), (qf104, .inl (cf104, 8, .inl f104)), (qf102, .inl (cf102, 2048, .inl f102)), (qf118, .inl (cf118, 2100, .inl g118_25)), (qf119, .inl (cf119, 2100, .inl g119_25)), (qf105, .inl (cf105, 8, .inl f105)), (qf137, .inl (cf137, 6, .inl g137_25))]) [8, 0, 9, 1, 2, 3, 4, 5, 6, 7] (by decide) rfl
        have hK9 := hK.sub (tys' := [(cf100, .int), (cf128, .int), (cf127, .int), (cf104, .int), (cf102, .int), (cf118, .int), (cf119, .int), (cf105, .int), (cf137, .int)]) [0, 8, 1, 2, 3, 4, 5, 6, 7] rfl
        exact W.zret hx hb hr (by decide) (fun t ht hW => ⟨⟨(0), (z_11), rfl, ⟨⟨rfl, Or.inl rfl⟩, hln_11, hrq_11, hfk_11_117, hfk_11_120, hch_11_131⟩, by rw [ht]; exact hP9, va_K.moved hW.alike hK9, hD9⟩, hS.F ht⟩) hS.2.2 dX13_wanted_1005
      · rw [if_neg (by decide)] at hsp
        refine lv_if_ne (tgt := 1006) hx hb dX13_wanted_1001 (by decide) (fun c_84 => ?_) (fun c_84 => (show False by revert c_84; decide).elim)
        refine lv_aload_n hx hb dX13_wanted_1006 rfl (lv_at hl 1 rfl) ?_
        obtain ⟨⟨u12_0, u12_1⟩, hu_12, hsp⟩ := ox_bind hsp
        try dsimp only at hsp
        have hPc := hP.sub (ws' := [(h0, .inr (13, z_11)), (qf128, .inl (cf128, 31, .inl g128_25))]) [8, 9] rfl
        have hDc := hD.sub (ws' := [(h0, .inr (13, z_11)), (qf128, .inl (cf128, 31, .inl g128_25))]) [8, 9] (by decide) rfl
        have hKc := hK.sub (tys' := [(cf128, .int)]) [8] rfl
        have hFc := va_free (wc := [(h0, .inr (13, z_11)), (qf128, .inl (cf128, 31, .inl g128_25))]) hD hS hA [8, 9] rfl
        refine va_calli (va_runV (As := []) (rest := []) ⟨hx, hb, hml, hown, hts⟩ (tm_pull l dC dI H.size h0 z_11 qf128 u11_1 cf128 g128_25 nf u12_0 u12_1 hln_11 hfk_11_128 hch_11_131 hu_12) (cwV 0 hts gv_h9_68 rfl rfl rfl (by decide +kernel) ⟨Nat.le_of_ble_eq_true rfl, Nat.le_of_ble_eq_true rfl⟩) ⟨fun a U g mk q => by obtain ⟨q0, q1, qP, qK, qD⟩ := q; exact ⟨q0, q1, qP, va_K.moved (u := U) (U := U.calling g mk a) (Vm.Alike.refl U.vm) qK, qD⟩, va_recv hKc hPc (ci := 13) (q0 := 0) rfl rfl, fun U hU hW => ⟨rfl, by rw [hU], by rw [hU]; exact hPc, va_K.moved hW.alike hKc, hDc.weaken (fun _ _ _ _ => trivial)⟩⟩ rfl rfl hl.1 rfl (lv_room (Nat.le_of_ble_eq_true rfl)) dX13_wanted_1007 ⟨Nat.le_of_ble_eq_true rfl, Nat.le_of_ble_eq_true rfl⟩) hS (fun q _ h => hFc q h) hFc ?_
        clear hS
        intro r_85 u t H1 locs ht hvm hw hB hz1 hk1 hS
        obtain ⟨z_12, rfl⟩ : ∃ z, z = u := ⟨_, rfl⟩
        obtain ⟨hP1, hK1, hD1⟩ := hB
        rw [ht] at hP1
        have hK1 := va_K.moved hvm.symm hK1
        try dsimp only at hw
        have hPD := va_join (wr := [(qf100, .inl (cf100, 48000, .inl f100)), (qf127, .inl (cf127, 30, .inl g127_25)), (qf104, .inl (cf104, 8, .inl f104)), (qf102, .inl (cf102, 2048, .inl f102)), (qf118, .inl (cf118, 2100, .inl g118_25)), (qf119, .inl (cf119, 2100, .inl g119_25)), (qf105, .inl (cf105, 8, .inl f105)), (qf137, .inl (cf137, 6, .inl g137_25))]) (w1 := [(h0, .inr (13, z_12)), (qf128, .inl (cf128, 31, .inl g128_25))]) hP hD [8, 9] [0, 1, 2, 3, 4, 5, 6, 7] rfl rfl (by decide) (by decide) hk1 hFc hP1 hD1
        clear hP hD
        obtain ⟨hP, hD⟩ := hPD
        replace hK := (hK.sub (tys' := [(cf100, .int), (cf127, .int), (cf104, .int), (cf102, .int), (cf118, .int), (cf119, .int), (cf105, .int), (cf137, .int)]) [0, 1, 2, 3, 4, 5, 6, 7] rfl).app hK1
        clear hPc hDc hKc hFc hP1 hK1 hD1 hz1 hk1 ht hvm
        generalize H1 = H at hP hS ⊢
        replace hP : va_P (dC, dI) vwCl [(qf100, .inl (cf100, 48000, .inl f100)), (qf127, .inl (cf127, 30, .inl g127_25)), (qf104, .inl (cf104, 8, .inl f104)), (qf102, .inl (cf102, 2048, .inl f102)), (qf118, .inl (cf118, 2100, .inl g118_25)), (qf119, .inl (cf119, 2100, .inl g119_25)), (qf105, .inl (cf105, 8, .inl f105)), (qf137, .inl (cf137, 6, .inl g137_25)), (h0, .inr (13, z_12)), (qf128, .inl (cf128, 31, .inl g128_25))] H := hP
        replace hD : va_D A [(qf100, .inl (cf100, 48000, .inl f100)), (qf127, .inl (cf127, 30, .inl g127_25)), (qf104, .inl (cf104, 8, .inl f104)), (qf102, .inl (cf102, 2048, .inl f102)), (qf118, .inl (cf118, 2100, .inl g118_25)), (qf119, .inl (cf119, 2100, .inl g119_25)), (qf105, .inl (cf105, 8, .inl f105)), (qf137, .inl (cf137, 6, .inl g137_25)), (h0, .inr (13, z_12)), (qf128, .inl (cf128, 31, .inl g128_25))] := hD
        replace hK : va_K (dC, dI) vwCl [(cf100, .int), (cf127, .int), (cf104, .int), (cf102, .int), (cf118, .int), (cf119, .int), (cf105, .int), (cf137, .int), (cf128, .int)] s := hK
        obtain ⟨hwa_12, hln_12, hre_12, hch_12_131⟩ := hw
        have hfk_12_98 : z_12[98]? = some (.int v98) := (hre_12 98 (by decide)).trans (hfk_11_98)
        have hfk_12_100 : z_12[100]? = some (.ref qf100) := (hre_12 100 (by decide)).trans (hfk_11_100)
        have hfk_12_102 : z_12[102]? = some (.ref qf102) := (hre_12 102 (by decide)).trans (hfk_11_102)
        have hfk_12_104 : z_12[104]? = some (.ref qf104) := (hre_12 104 (by decide)).trans (hfk_11_104)
        have hfk_12_105 : z_12[105]? = some (.ref qf105) := (hre_12 105 (by decide)).trans (hfk_11_105)
        have hfk_12_117 : z_12[117]? = some (.int x117_25) := (hre_12 117 (by decide)).trans (hfk_11_117)
        have hfk_12_118 : z_12[118]? = some (.ref qf118) := (hre_12 118 (by decide)).trans (hfk_11_118)
        have hfk_12_119 : z_12[119]? = some (.ref qf119) := (hre_12 119 (by decide)).trans (hfk_11_119)
        have hfk_12_120 : z_12[120]? = some (.int x120_25) := (hre_12 120 (by decide)).trans (hfk_11_120)
        have hfk_12_127 : z_12[127]? = some (.ref qf127) := (hre_12 127 (by decide)).trans (hfk_11_127)
        have hfk_12_128 : z_12[128]? = some (.ref qf128) := (hre_12 128 (by decide)).trans (hfk_11_128)
        have hfk_12_129 : z_12[129]? = some (.int v129) := (hre_12 129 (by decide)).trans (hfk_11_129)
        have hfk_12_130 : z_12[130]? = some (.int v130) := (hre_12 130 (by decide)).trans (hfk_11_130)
        have hfk_12_132 : z_12[132]? = some (.int v132) := (hre_12 132 (by decide)).trans (hfk_11_132)
        have hfk_12_134 : z_12[134]? = some (.int v134) := (hre_12 134 (by decide)).trans (hfk_11_134)
        have hfk_12_136 : z_12[136]? = some (.int v136) := (hre_12 136 (by decide)).trans (hfk_11_136)
        have hfk_12_137 : z_12[137]? = some (.ref qf137) := (hre_12 137 (by decide)).trans (hfk_11_137)
        have hrq_12 : ∀ j : Nat, j ≠ 117 → j ≠ 120 → j ≠ 131 → z_12[j]? = zs[j]? := fun j g117 g120 g131 => (hre_12 j g131).trans (hrq_11 j g117 g120 g131)
        obtain rfl := hwa_12
        refine lv_istore (lv' := [(4, .int u12_0), (3, .int s0_25), (0, .ref h0), (2, .int l2_25)]) hx hb dX13_wanted_1010 hl (by decide) rfl (fun ls hl => ?_)
        refine lv_iload hx hb dX13_wanted_1012 (lv_at hl 0 rfl) ?_
        refine lv_iconst (v := 2) hx hb dX13_wanted_1014 (by decide) ?_
        refine lv_icmp_ne (tgt := 1024) hx hb dX13_wanted_1015 (by decide) (fun c_86 => ?_) (fun c_86 => ?_)
        · rw [if_neg c_86] at hsp
          refine lv_iload hx hb dX13_wanted_1024 (lv_at hl 0 rfl) ?_
          refine lv_iconst (v := 3) hx hb dX13_wanted_1026 (by decide) ?_
          refine lv_icmp_le (tgt := 1053) hx hb dX13_wanted_1027 (by decide) (fun c_87 => ?_) (fun c_87 => ?_)
          · rw [if_pos c_87] at hsp
            refine lv_iconst (v := 0) hx hb dX13_wanted_1053 (by decide) ?_
            have hr0 := Option.some.inj hsp
            clear hsp
            obtain ⟨hq0, hr1⟩ := Prod.mk.inj hr0
            clear hr0
            obtain ⟨hq1, hr2⟩ := Prod.mk.inj hr1
            clear hr1
            obtain ⟨hq2, hr3⟩ := Prod.mk.inj hr2
            clear hr2
            obtain ⟨hq3, hr4⟩ := Prod.mk.inj hr3
            clear hr3
            obtain ⟨hq4, hr5⟩ := Prod.mk.inj hr4
            clear hr4
            obtain ⟨hq5, hr6⟩ := Prod.mk.inj hr5
            clear hr5
            obtain ⟨hq6, hr7⟩ := Prod.mk.inj hr6
            clear hr6
            obtain ⟨hq7, hr8⟩ := Prod.mk.inj hr7
            clear hr7
            subst hq0
            subst hq1
            subst hq2
            subst hq3
            subst hq4
            subst hq5
            subst hq6
            subst hq7
            subst hr8
            have hP9 := hP.sub (ws' := [(h0, .inr (13, z_12)), (qf100, .inl (cf100, 48000, .inl f100)), (qf128, .inl (cf128, 31, .inl g128_25)), (qf127, .inl (cf127, 30, .inl g127_25)), (qf104, .inl (cf104, 8, .inl f104)), (qf102, .inl (cf102, 2048, .inl f102)), (qf118, .inl (cf118, 2100, .inl g118_25)), (qf119, .inl (cf119, 2100, .inl g119_25)), (qf105, .inl (cf105, 8, .inl f105)), (qf137, .inl (cf137, 6, .inl g137_25))]) [8, 0, 9, 1, 2, 3, 4, 5, 6, 7] rfl
            have hD9 := hD.sub (ws' := [(h0, .inr (13, z_12)), (qf100, .inl (cf100, 48000, .inl f100)), (qf128, .inl (cf128, 31, .inl g128_25)), (qf127, .inl (cf127, 30, .inl g127_25)), (qf104, .inl (cf104, 8, .inl f104)), (qf102, .inl (cf102, 2048, .inl f102)), (qf118, .inl (cf118, 2100, .inl g118_25)), (qf119, .inl (cf119, 2100, .inl g119_25)), (qf105, .inl (cf105, 8, .inl f105)), (qf137, .inl (cf137, 6, .inl g137_25))]) [8, 0, 9, 1, 2, 3, 4, 5, 6, 7] (by decide) rfl
            have hK9 := hK.sub (tys' := [(cf100, .int), (cf128, .int), (cf127, .int), (cf104, .int), (cf102, .int), (cf118, .int), (cf119, .int), (cf105, .int), (cf137, .int)]) [0, 8, 1, 2, 3, 4, 5, 6, 7] rfl
            exact W.zret hx hb hr (by decide) (fun t ht hW => ⟨⟨(0), (z_12), rfl, ⟨⟨rfl, Or.inl rfl⟩, hln_12, hrq_12, hfk_12_117, hfk_12_120, hch_12_131⟩, by rw [ht]; exact hP9, va_K.moved hW.alike hK9, hD9⟩, hS.F ht⟩) hS.2.2 dX13_wanted_1054
          · rw [if_neg c_87] at hsp
            refine lv_iload hx hb dX13_wanted_1030 (lv_at hl 0 rfl) ?_
            obtain ⟨u13_0, hu_13, hsp⟩ := ox_bind hsp
            try dsimp only at hsp
            have hPc := hP.sub (ws' := []) [] rfl
            have hDc := hD.sub (ws' := []) [] (by decide) rfl
            have hKc := hK.sub (tys' := []) [] rfl
            have hFc := va_free (wc := []) hD hS hA [] rfl
            refine va_calli (va_runS (As := [.int u12_0]) (rest := []) ⟨hx, hb, hml, hown, hts⟩ (tm_isRow l dC dI H.size u12_0 nf u13_0 hu_13) (va_cwS 1 hts gv_h9_56 rfl rfl rfl (by decide +kernel) ⟨Nat.le_of_ble_eq_true rfl, Nat.le_of_ble_eq_true rfl⟩) ⟨fun a U g mk q => by obtain ⟨q0, q1, qP, qK, qD⟩ := q; exact ⟨q0, q1, qP, va_K.moved (u := U) (U := U.calling g mk a) (Vm.Alike.refl U.vm) qK, qD⟩, fun U hU hW => ⟨rfl, by rw [hU], by rw [hU]; exact hPc, va_K.moved hW.alike hKc, hDc.weaken (fun _ _ _ _ => trivial)⟩⟩ rfl rfl hl.1 rfl (lv_room (Nat.le_of_ble_eq_true rfl)) dX13_wanted_1032 ⟨Nat.le_of_ble_eq_true rfl, Nat.le_of_ble_eq_true rfl⟩) hS (fun q _ h => hFc q h) hFc ?_
            clear hS
            intro r_88 u t H1 locs ht hvm hw hB hz1 hk1 hS
            obtain ⟨⟩ := u
            obtain ⟨hP1, hK1, hD1⟩ := hB
            rw [ht] at hP1
            have hK1 := va_K.moved hvm.symm hK1
            try dsimp only at hw
            have hPD := va_join (wr := [(qf100, .inl (cf100, 48000, .inl f100)), (qf127, .inl (cf127, 30, .inl g127_25)), (qf104, .inl (cf104, 8, .inl f104)), (qf102, .inl (cf102, 2048, .inl f102)), (qf118, .inl (cf118, 2100, .inl g118_25)), (qf119, .inl (cf119, 2100, .inl g119_25)), (qf105, .inl (cf105, 8, .inl f105)), (qf137, .inl (cf137, 6, .inl g137_25)), (h0, .inr (13, z_12)), (qf128, .inl (cf128, 31, .inl g128_25))]) (w1 := []) hP hD [] [0, 1, 2, 3, 4, 5, 6, 7, 8, 9] rfl rfl (by decide) (by decide) hk1 hFc hP1 hD1
            clear hP hD
            obtain ⟨hP, hD⟩ := hPD
            replace hK := (hK.sub (tys' := [(cf100, .int), (cf127, .int), (cf104, .int), (cf102, .int), (cf118, .int), (cf119, .int), (cf105, .int), (cf137, .int), (cf128, .int)]) [0, 1, 2, 3, 4, 5, 6, 7, 8] rfl).app hK1
            clear hPc hDc hKc hFc hP1 hK1 hD1 hz1 hk1 ht hvm
            generalize H1 = H at hP hS ⊢
            replace hP : va_P (dC, dI) vwCl [(qf100, .inl (cf100, 48000, .inl f100)), (qf127, .inl (cf127, 30, .inl g127_25)), (qf104, .inl (cf104, 8, .inl f104)), (qf102, .inl (cf102, 2048, .inl f102)), (qf118, .inl (cf118, 2100, .inl g118_25)), (qf119, .inl (cf119, 2100, .inl g119_25)), (qf105, .inl (cf105, 8, .inl f105)), (qf137, .inl (cf137, 6, .inl g137_25)), (h0, .inr (13, z_12)), (qf128, .inl (cf128, 31, .inl g128_25))] H := hP
            replace hD : va_D A [(qf100, .inl (cf100, 48000, .inl f100)), (qf127, .inl (cf127, 30, .inl g127_25)), (qf104, .inl (cf104, 8, .inl f104)), (qf102, .inl (cf102, 2048, .inl f102)), (qf118, .inl (cf118, 2100, .inl g118_25)), (qf119, .inl (cf119, 2100, .inl g119_25)), (qf105, .inl (cf105, 8, .inl f105)), (qf137, .inl (cf137, 6, .inl g137_25)), (h0, .inr (13, z_12)), (qf128, .inl (cf128, 31, .inl g128_25))] := hD
            replace hK : va_K (dC, dI) vwCl [(cf100, .int), (cf127, .int), (cf104, .int), (cf102, .int), (cf118, .int), (cf119, .int), (cf105, .int), (cf137, .int), (cf128, .int)] s := hK
            obtain ⟨rfl, hz_13⟩ := hw
            rcases hz_13 with rfl | rfl
            · rw [if_pos rfl] at hsp
              refine lv_if_eq (tgt := 1053) hx hb dX13_wanted_1035 (by decide) (fun c_89 => ?_) (fun c_89 => (show False by revert c_89; decide).elim)
              refine lv_iconst (v := 0) hx hb dX13_wanted_1053 (by decide) ?_
              have hr0 := Option.some.inj hsp
              clear hsp
              obtain ⟨hq0, hr1⟩ := Prod.mk.inj hr0
              clear hr0
              obtain ⟨hq1, hr2⟩ := Prod.mk.inj hr1
              clear hr1
              obtain ⟨hq2, hr3⟩ := Prod.mk.inj hr2
              clear hr2
              obtain ⟨hq3, hr4⟩ := Prod.mk.inj hr3
              clear hr3
              obtain ⟨hq4, hr5⟩ := Prod.mk.inj hr4
              clear hr4
              obtain ⟨hq5, hr6⟩ := Prod.mk.inj hr5
              clear hr5
              obtain ⟨hq6, hr7⟩ := Prod.mk.inj hr6
              clear hr6
              obtain ⟨hq7, hr8⟩ := Prod.mk.inj hr7
              clear hr7
              subst hq0
              subst hq1
              subst hq2
              subst hq3
              subst hq4
              subst hq5
              subst hq6
              subst hq7
              subst hr8
              have hP9 := hP.sub (ws' := [(h0, .inr (13, z_12)), (qf100, .inl (cf100, 48000, .inl f100)), (qf128, .inl (cf128, 31, .inl g128_25)), (qf127, .inl (cf127, 30, .inl g127_25)), (qf104, .inl (cf104, 8, .inl f104)), (qf102, .inl (cf102, 2048, .inl f102)), (qf118, .inl (cf118, 2100, .inl g118_25)), (qf119, .inl (cf119, 2100, .inl g119_25)), (qf105, .inl (cf105, 8, .inl f105)), (qf137, .inl (cf137, 6, .inl g137_25))]) [8, 0, 9, 1, 2, 3, 4, 5, 6, 7] rfl
              have hD9 := hD.sub (ws' := [(h0, .inr (13, z_12)), (qf100, .inl (cf100, 48000, .inl f100)), (qf128, .inl (cf128, 31, .inl g128_25)), (qf127, .inl (cf127, 30, .inl g127_25)), (qf104, .inl (cf104, 8, .inl f104)), (qf102, .inl (cf102, 2048, .inl f102)), (qf118, .inl (cf118, 2100, .inl g118_25)), (qf119, .inl (cf119, 2100, .inl g119_25)), (qf105, .inl (cf105, 8, .inl f105)), (qf137, .inl (cf137, 6, .inl g137_25))]) [8, 0, 9, 1, 2, 3, 4, 5, 6, 7] (by decide) rfl
              have hK9 := hK.sub (tys' := [(cf100, .int), (cf128, .int), (cf127, .int), (cf104, .int), (cf102, .int), (cf118, .int), (cf119, .int), (cf105, .int), (cf137, .int)]) [0, 8, 1, 2, 3, 4, 5, 6, 7] rfl
              exact W.zret hx hb hr (by decide) (fun t ht hW => ⟨⟨(0), (z_12), rfl, ⟨⟨rfl, Or.inl rfl⟩, hln_12, hrq_12, hfk_12_117, hfk_12_120, hch_12_131⟩, by rw [ht]; exact hP9, va_K.moved hW.alike hK9, hD9⟩, hS.F ht⟩) hS.2.2 dX13_wanted_1054
            · rw [if_neg (by decide)] at hsp
              refine lv_if_eq (tgt := 1053) hx hb dX13_wanted_1035 (by decide) (fun c_90 => (show False by revert c_90; decide).elim) (fun c_90 => ?_)
              refine lv_aload_n hx hb dX13_wanted_1038 rfl (lv_at hl 2 rfl) ?_
              refine lv_iload hx hb dX13_wanted_1039 (lv_at hl 0 rfl) ?_
              refine lv_iconst (v := 1) hx hb dX13_wanted_1041 (by decide) ?_
              refine lv_isub hx hb dX13_wanted_1042 ?_
              obtain ⟨⟨u14_0, g914_1, u14_2⟩, hu_14, hsp⟩ := ox_bind hsp
              try dsimp only at hsp
              have hPc := hP.sub (ws' := [(h0, .inr (13, z_12)), (qf128, .inl (cf128, 31, .inl g128_25))]) [8, 9] rfl
              have hDc := hD.sub (ws' := [(h0, .inr (13, z_12)), (qf128, .inl (cf128, 31, .inl g128_25))]) [8, 9] (by decide) rfl
              have hKc := hK.sub (tys' := [(cf128, .int)]) [8] rfl
              have hFc := va_free (wc := [(h0, .inr (13, z_12)), (qf128, .inl (cf128, 31, .inl g128_25))]) hD hS hA [8, 9] rfl
              refine va_calli (va_runV (As := [.int (u12_0 - 1)]) (rest := []) ⟨hx, hb, hml, hown, hts⟩ (tm_comesBack l dC dI H.size h0 z_12 ((u12_0 - 1)) qf128 v130 u12_1 cf128 g128_25 nf u14_0 g914_1 u14_2 hln_12 hfk_12_128 hfk_12_130 hch_12_131 hu_14) (cwV 1 hts gv_h9_69 rfl rfl rfl (by decide +kernel) ⟨Nat.le_of_ble_eq_true rfl, Nat.le_of_ble_eq_true rfl⟩) ⟨fun a U g mk q => by obtain ⟨q0, q1, qP, qK, qD⟩ := q; exact ⟨q0, q1, qP, va_K.moved (u := U) (U := U.calling g mk a) (Vm.Alike.refl U.vm) qK, qD⟩, va_recv hKc hPc (ci := 13) (q0 := 0) rfl rfl, fun U hU hW => ⟨rfl, by rw [hU], by rw [hU]; exact hPc, va_K.moved hW.alike hKc, hDc.weaken (fun _ _ _ _ => trivial)⟩⟩ rfl rfl hl.1 rfl (lv_room (Nat.le_of_ble_eq_true rfl)) dX13_wanted_1043 ⟨Nat.le_of_ble_eq_true rfl, Nat.le_of_ble_eq_true rfl⟩) hS (fun q _ h => hFc q h) hFc ?_
              clear hS
              intro r_91 u t H1 locs ht hvm hw hB hz1 hk1 hS
              obtain ⟨z_14, rfl⟩ : ∃ z, z = u := ⟨_, rfl⟩
              obtain ⟨hP1, hK1, hD1⟩ := hB
              rw [ht] at hP1
              have hK1 := va_K.moved hvm.symm hK1
              try dsimp only at hw
              have hPD := va_join (wr := [(qf100, .inl (cf100, 48000, .inl f100)), (qf127, .inl (cf127, 30, .inl g127_25)), (qf104, .inl (cf104, 8, .inl f104)), (qf102, .inl (cf102, 2048, .inl f102)), (qf118, .inl (cf118, 2100, .inl g118_25)), (qf119, .inl (cf119, 2100, .inl g119_25)), (qf105, .inl (cf105, 8, .inl f105)), (qf137, .inl (cf137, 6, .inl g137_25))]) (w1 := [(h0, .inr (13, z_14)), (qf128, .inl (cf128, 31, .inl g914_1))]) hP hD [8, 9] [0, 1, 2, 3, 4, 5, 6, 7] rfl rfl (by decide) (by decide) hk1 hFc hP1 hD1
              clear hP hD
              obtain ⟨hP, hD⟩ := hPD
              replace hK := (hK.sub (tys' := [(cf100, .int), (cf127, .int), (cf104, .int), (cf102, .int), (cf118, .int), (cf119, .int), (cf105, .int), (cf137, .int)]) [0, 1, 2, 3, 4, 5, 6, 7] rfl).app hK1
              clear hPc hDc hKc hFc hP1 hK1 hD1 hz1 hk1 ht hvm
              generalize H1 = H at hP hS ⊢
              replace hP : va_P (dC, dI) vwCl [(qf100, .inl (cf100, 48000, .inl f100)), (qf127, .inl (cf127, 30, .inl g127_25)), (qf104, .inl (cf104, 8, .inl f104)), (qf102, .inl (cf102, 2048, .inl f102)), (qf118, .inl (cf118, 2100, .inl g118_25)), (qf119, .inl (cf119, 2100, .inl g119_25)), (qf105, .inl (cf105, 8, .inl f105)), (qf137, .inl (cf137, 6, .inl g137_25)), (h0, .inr (13, z_14)), (qf128, .inl (cf128, 31, .inl g914_1))] H := hP
              replace hD : va_D A [(qf100, .inl (cf100, 48000, .inl f100)), (qf127, .inl (cf127, 30, .inl g127_25)), (qf104, .inl (cf104, 8, .inl f104)), (qf102, .inl (cf102, 2048, .inl f102)), (qf118, .inl (cf118, 2100, .inl g118_25)), (qf119, .inl (cf119, 2100, .inl g119_25)), (qf105, .inl (cf105, 8, .inl f105)), (qf137, .inl (cf137, 6, .inl g137_25)), (h0, .inr (13, z_14)), (qf128, .inl (cf128, 31, .inl g914_1))] := hD
              replace hK : va_K (dC, dI) vwCl [(cf100, .int), (cf127, .int), (cf104, .int), (cf102, .int), (cf118, .int), (cf119, .int), (cf105, .int), (cf137, .int), (cf128, .int)] s := hK
              obtain ⟨hwa_14, hln_14, hre_14, hch_14_131⟩ := hw
              have hfk_14_98 : z_14[98]? = some (.int v98) := (hre_14 98 (by decide)).trans (hfk_12_98)
              have hfk_14_100 : z_14[100]? = some (.ref qf100) := (hre_14 100 (by decide)).trans (hfk_12_100)
              have hfk_14_102 : z_14[102]? = some (.ref qf102) := (hre_14 102 (by decide)).trans (hfk_12_102)
              have hfk_14_104 : z_14[104]? = some (.ref qf104) := (hre_14 104 (by decide)).trans (hfk_12_104)
              have hfk_14_105 : z_14[105]? = some (.ref qf105) := (hre_14 105 (by decide)).trans (hfk_12_105)
              have hfk_14_117 : z_14[117]? = some (.int x117_25) := (hre_14 117 (by decide)).trans (hfk_12_117)
              have hfk_14_118 : z_14[118]? = some (.ref qf118) := (hre_14 118 (by decide)).trans (hfk_12_118)
              have hfk_14_119 : z_14[119]? = some (.ref qf119) := (hre_14 119 (by decide)).trans (hfk_12_119)
              have hfk_14_120 : z_14[120]? = some (.int x120_25) := (hre_14 120 (by decide)).trans (hfk_12_120)
              have hfk_14_127 : z_14[127]? = some (.ref qf127) := (hre_14 127 (by decide)).trans (hfk_12_127)
              have hfk_14_128 : z_14[128]? = some (.ref qf128) := (hre_14 128 (by decide)).trans (hfk_12_128)
              have hfk_14_129 : z_14[129]? = some (.int v129) := (hre_14 129 (by decide)).trans (hfk_12_129)
              have hfk_14_130 : z_14[130]? = some (.int v130) := (hre_14 130 (by decide)).trans (hfk_12_130)
              have hfk_14_132 : z_14[132]? = some (.int v132) := (hre_14 132 (by decide)).trans (hfk_12_132)
              have hfk_14_134 : z_14[134]? = some (.int v134) := (hre_14 134 (by decide)).trans (hfk_12_134)
              have hfk_14_136 : z_14[136]? = some (.int v136) := (hre_14 136 (by decide)).trans (hfk_12_136)
              have hfk_14_137 : z_14[137]? = some (.ref qf137) := (hre_14 137 (by decide)).trans (hfk_12_137)
              have hrq_14 : ∀ j : Nat, j ≠ 117 → j ≠ 120 → j ≠ 131 → z_14[j]? = zs[j]? := fun j g117 g120 g131 => (hre_14 j g131).trans (hrq_12 j g117 g120 g131)
              obtain ⟨rfl, hz_14⟩ := hwa_14
              rcases hz_14 with rfl | rfl
              · rw [if_pos rfl] at hsp
                refine lv_if_eq (tgt := 1053) hx hb dX13_wanted_1046 (by decide) (fun c_92 => ?_) (fun c_92 => (show False by revert c_92; decide).elim)
                refine lv_iconst (v := 0) hx hb dX13_wanted_1053 (by decide) ?_
                have hr0 := Option.some.inj hsp
                clear hsp
                obtain ⟨hq0, hr1⟩ := Prod.mk.inj hr0
                clear hr0
                obtain ⟨hq1, hr2⟩ := Prod.mk.inj hr1
                clear hr1
                obtain ⟨hq2, hr3⟩ := Prod.mk.inj hr2
                clear hr2
                obtain ⟨hq3, hr4⟩ := Prod.mk.inj hr3
                clear hr3
                obtain ⟨hq4, hr5⟩ := Prod.mk.inj hr4
                clear hr4
                obtain ⟨hq5, hr6⟩ := Prod.mk.inj hr5
                clear hr5
                obtain ⟨hq6, hr7⟩ := Prod.mk.inj hr6
                clear hr6
                obtain ⟨hq7, hr8⟩ := Prod.mk.inj hr7
                clear hr7
                subst hq0
                subst hq1
                subst hq2
                subst hq3
                subst hq4
                subst hq5
                subst hq6
                subst hq7
                subst hr8
                have hP9 := hP.sub (ws' := [(h0, .inr (13, z_14)), (qf100, .inl (cf100, 48000, .inl f100)), (qf128, .inl (cf128, 31, .inl g914_1)), (qf127, .inl (cf127, 30, .inl g127_25)), (qf104, .inl (cf104, 8, .inl f104)), (qf102, .inl (cf102, 2048, .inl f102)), (qf118, .inl (cf118, 2100, .inl g118_25)), (qf119, .inl (cf119, 2100, .inl g119_25)), (qf105, .inl (cf105, 8, .inl f105)), (qf137, .inl (cf137, 6, .inl g137_25))]) [8, 0, 9, 1, 2, 3, 4, 5, 6, 7] rfl
                have hD9 := hD.sub (ws' := [(h0, .inr (13, z_14)), (qf100, .inl (cf100, 48000, .inl f100)), (qf128, .inl (cf128, 31, .inl g914_1)), (qf127, .inl (cf127, 30, .inl g127_25)), (qf104, .inl (cf104, 8, .inl f104)), (qf102, .inl (cf102, 2048, .inl f102)), (qf118, .inl (cf118, 2100, .inl g118_25)), (qf119, .inl (cf119, 2100, .inl g119_25)), (qf105, .inl (cf105, 8, .inl f105)), (qf137, .inl (cf137, 6, .inl g137_25))]) [8, 0, 9, 1, 2, 3, 4, 5, 6, 7] (by decide) rfl
                have hK9 := hK.sub (tys' := [(cf100, .int), (cf128, .int), (cf127, .int), (cf104, .int), (cf102, .int), (cf118, .int), (cf119, .int), (cf105, .int), (cf137, .int)]) [0, 8, 1, 2, 3, 4, 5, 6, 7] rfl
                exact W.zret hx hb hr (by decide) (fun t ht hW => ⟨⟨(0), (z_14), rfl, ⟨⟨rfl, Or.inl rfl⟩, hln_14, hrq_14, hfk_14_117, hfk_14_120, hch_14_131⟩, by rw [ht]; exact hP9, va_K.moved hW.alike hK9, hD9⟩, hS.F ht⟩) hS.2.2 dX13_wanted_1054
              · rw [if_neg (by decide)] at hsp
                refine lv_if_eq (tgt := 1053) hx hb dX13_wanted_1046 (by decide) (fun c_93 => (show False by revert c_93; decide).elim) (fun c_93 => ?_)
                refine lv_iconst (v := 1) hx hb dX13_wanted_1049 (by decide) ?_
                refine lv_goto (tgt := 1054) hx hb dX13_wanted_1050 (by decide) ?_
                have hr0 := Option.some.inj hsp
                clear hsp
                obtain ⟨hq0, hr1⟩ := Prod.mk.inj hr0
                clear hr0
                obtain ⟨hq1, hr2⟩ := Prod.mk.inj hr1
                clear hr1
                obtain ⟨hq2, hr3⟩ := Prod.mk.inj hr2
                clear hr2
                obtain ⟨hq3, hr4⟩ := Prod.mk.inj hr3
                clear hr3
                obtain ⟨hq4, hr5⟩ := Prod.mk.inj hr4
                clear hr4
                obtain ⟨hq5, hr6⟩ := Prod.mk.inj hr5
                clear hr5
                obtain ⟨hq6, hr7⟩ := Prod.mk.inj hr6
                clear hr6
                obtain ⟨hq7, hr8⟩ := Prod.mk.inj hr7
                clear hr7
                subst hq0
                subst hq1
                subst hq2
                subst hq3
                subst hq4
                subst hq5
                subst hq6
                subst hq7
                subst hr8
                have hP9 := hP.sub (ws' := [(h0, .inr (13, z_14)), (qf100, .inl (cf100, 48000, .inl f100)), (qf128, .inl (cf128, 31, .inl g914_1)), (qf127, .inl (cf127, 30, .inl g127_25)), (qf104, .inl (cf104, 8, .inl f104)), (qf102, .inl (cf102, 2048, .inl f102)), (qf118, .inl (cf118, 2100, .inl g118_25)), (qf119, .inl (cf119, 2100, .inl g119_25)), (qf105, .inl (cf105, 8, .inl f105)), (qf137, .inl (cf137, 6, .inl g137_25))]) [8, 0, 9, 1, 2, 3, 4, 5, 6, 7] rfl
                have hD9 := hD.sub (ws' := [(h0, .inr (13, z_14)), (qf100, .inl (cf100, 48000, .inl f100)), (qf128, .inl (cf128, 31, .inl g914_1)), (qf127, .inl (cf127, 30, .inl g127_25)), (qf104, .inl (cf104, 8, .inl f104)), (qf102, .inl (cf102, 2048, .inl f102)), (qf118, .inl (cf118, 2100, .inl g118_25)), (qf119, .inl (cf119, 2100, .inl g119_25)), (qf105, .inl (cf105, 8, .inl f105)), (qf137, .inl (cf137, 6, .inl g137_25))]) [8, 0, 9, 1, 2, 3, 4, 5, 6, 7] (by decide) rfl
                have hK9 := hK.sub (tys' := [(cf100, .int), (cf128, .int), (cf127, .int), (cf104, .int), (cf102, .int), (cf118, .int), (cf119, .int), (cf105, .int), (cf137, .int)]) [0, 8, 1, 2, 3, 4, 5, 6, 7] rfl
                exact W.zret hx hb hr (by decide) (fun t ht hW => ⟨⟨(1), (z_14), rfl, ⟨⟨rfl, Or.inr rfl⟩, hln_14, hrq_14, hfk_14_117, hfk_14_120, hch_14_131⟩, by rw [ht]; exact hP9, va_K.moved hW.alike hK9, hD9⟩, hS.F ht⟩) hS.2.2 dX13_wanted_1054
        · rw [if_pos c_86] at hsp
          refine lv_aload_n hx hb dX13_wanted_1018 rfl (lv_at hl 2 rfl) ?_
          refine lv_iconst (v := 2) hx hb dX13_wanted_1019 (by decide) ?_
          obtain ⟨⟨u15_0, g915_1, u15_2⟩, hu_15, hsp⟩ := ox_bind hsp
          try dsimp only at hsp
          have hPc := hP.sub (ws' := [(h0, .inr (13, z_12)), (qf128, .inl (cf128, 31, .inl g128_25))]) [8, 9] rfl
          have hDc := hD.sub (ws' := [(h0, .inr (13, z_12)), (qf128, .inl (cf128, 31, .inl g128_25))]) [8, 9] (by decide) rfl
          have hKc := hK.sub (tys' := [(cf128, .int)]) [8] rfl
          have hFc := va_free (wc := [(h0, .inr (13, z_12)), (qf128, .inl (cf128, 31, .inl g128_25))]) hD hS hA [8, 9] rfl
          refine va_calli (va_runV (As := [.int 2]) (rest := []) ⟨hx, hb, hml, hown, hts⟩ (tm_comesBack l dC dI H.size h0 z_12 2 qf128 v130 u12_1 cf128 g128_25 nf u15_0 g915_1 u15_2 hln_12 hfk_12_128 hfk_12_130 hch_12_131 hu_15) (cwV 1 hts gv_h9_69 rfl rfl rfl (by decide +kernel) ⟨Nat.le_of_ble_eq_true rfl, Nat.le_of_ble_eq_true rfl⟩) ⟨fun a U g mk q => by obtain ⟨q0, q1, qP, qK, qD⟩ := q; exact ⟨q0, q1, qP, va_K.moved (u := U) (U := U.calling g mk a) (Vm.Alike.refl U.vm) qK, qD⟩, va_recv hKc hPc (ci := 13) (q0 := 0) rfl rfl, fun U hU hW => ⟨rfl, by rw [hU], by rw [hU]; exact hPc, va_K.moved hW.alike hKc, hDc.weaken (fun _ _ _ _ => trivial)⟩⟩ rfl rfl hl.1 rfl (lv_room (Nat.le_of_ble_eq_true rfl)) dX13_wanted_1020 ⟨Nat.le_of_ble_eq_true rfl, Nat.le_of_ble_eq_true rfl⟩) hS (fun q _ h => hFc q h) hFc ?_
          clear hS
          intro r_94 u t H1 locs ht hvm hw hB hz1 hk1 hS
          obtain ⟨z_15, rfl⟩ : ∃ z, z = u := ⟨_, rfl⟩
          obtain ⟨hP1, hK1, hD1⟩ := hB
          rw [ht] at hP1
          have hK1 := va_K.moved hvm.symm hK1
          try dsimp only at hw
          have hPD := va_join (wr := [(qf100, .inl (cf100, 48000, .inl f100)), (qf127, .inl (cf127, 30, .inl g127_25)), (qf104, .inl (cf104, 8, .inl f104)), (qf102, .inl (cf102, 2048, .inl f102)), (qf118, .inl (cf118, 2100, .inl g118_25)), (qf119, .inl (cf119, 2100, .inl g119_25)), (qf105, .inl (cf105, 8, .inl f105)), (qf137, .inl (cf137, 6, .inl g137_25))]) (w1 := [(h0, .inr (13, z_15)), (qf128, .inl (cf128, 31, .inl g915_1))]) hP hD [8, 9] [0, 1, 2, 3, 4, 5, 6, 7] rfl rfl (by decide) (by decide) hk1 hFc hP1 hD1
          clear hP hD
          obtain ⟨hP, hD⟩ := hPD
          replace hK := (hK.sub (tys' := [(cf100, .int), (cf127, .int), (cf104, .int), (cf102, .int), (cf118, .int), (cf119, .int), (cf105, .int), (cf137, .int)]) [0, 1, 2, 3, 4, 5, 6, 7] rfl).app hK1
          clear hPc hDc hKc hFc hP1 hK1 hD1 hz1 hk1 ht hvm
          generalize H1 = H at hP hS ⊢
          replace hP : va_P (dC, dI) vwCl [(qf100, .inl (cf100, 48000, .inl f100)), (qf127, .inl (cf127, 30, .inl g127_25)), (qf104, .inl (cf104, 8, .inl f104)), (qf102, .inl (cf102, 2048, .inl f102)), (qf118, .inl (cf118, 2100, .inl g118_25)), (qf119, .inl (cf119, 2100, .inl g119_25)), (qf105, .inl (cf105, 8, .inl f105)), (qf137, .inl (cf137, 6, .inl g137_25)), (h0, .inr (13, z_15)), (qf128, .inl (cf128, 31, .inl g915_1))] H := hP
          replace hD : va_D A [(qf100, .inl (cf100, 48000, .inl f100)), (qf127, .inl (cf127, 30, .inl g127_25)), (qf104, .inl (cf104, 8, .inl f104)), (qf102, .inl (cf102, 2048, .inl f102)), (qf118, .inl (cf118, 2100, .inl g118_25)), (qf119, .inl (cf119, 2100, .inl g119_25)), (qf105, .inl (cf105, 8, .inl f105)), (qf137, .inl (cf137, 6, .inl g137_25)), (h0, .inr (13, z_15)), (qf128, .inl (cf128, 31, .inl g915_1))] := hD
          replace hK : va_K (dC, dI) vwCl [(cf100, .int), (cf127, .int), (cf104, .int), (cf102, .int), (cf118, .int), (cf119, .int), (cf105, .int), (cf137, .int), (cf128, .int)] s := hK
          obtain ⟨hwa_15, hln_15, hre_15, hch_15_131⟩ := hw
          have hfk_15_98 : z_15[98]? = some (.int v98) := (hre_15 98 (by decide)).trans (hfk_12_98)
          have hfk_15_100 : z_15[100]? = some (.ref qf100) := (hre_15 100 (by decide)).trans (hfk_12_100)
          have hfk_15_102 : z_15[102]? = some (.ref qf102) := (hre_15 102 (by decide)).trans (hfk_12_102)
          have hfk_15_104 : z_15[104]? = some (.ref qf104) := (hre_15 104 (by decide)).trans (hfk_12_104)
          have hfk_15_105 : z_15[105]? = some (.ref qf105) := (hre_15 105 (by decide)).trans (hfk_12_105)
          have hfk_15_117 : z_15[117]? = some (.int x117_25) := (hre_15 117 (by decide)).trans (hfk_12_117)
          have hfk_15_118 : z_15[118]? = some (.ref qf118) := (hre_15 118 (by decide)).trans (hfk_12_118)
          have hfk_15_119 : z_15[119]? = some (.ref qf119) := (hre_15 119 (by decide)).trans (hfk_12_119)
          have hfk_15_120 : z_15[120]? = some (.int x120_25) := (hre_15 120 (by decide)).trans (hfk_12_120)
          have hfk_15_127 : z_15[127]? = some (.ref qf127) := (hre_15 127 (by decide)).trans (hfk_12_127)
          have hfk_15_128 : z_15[128]? = some (.ref qf128) := (hre_15 128 (by decide)).trans (hfk_12_128)
          have hfk_15_129 : z_15[129]? = some (.int v129) := (hre_15 129 (by decide)).trans (hfk_12_129)
          have hfk_15_130 : z_15[130]? = some (.int v130) := (hre_15 130 (by decide)).trans (hfk_12_130)
          have hfk_15_132 : z_15[132]? = some (.int v132) := (hre_15 132 (by decide)).trans (hfk_12_132)
          have hfk_15_134 : z_15[134]? = some (.int v134) := (hre_15 134 (by decide)).trans (hfk_12_134)
          have hfk_15_136 : z_15[136]? = some (.int v136) := (hre_15 136 (by decide)).trans (hfk_12_136)
          have hfk_15_137 : z_15[137]? = some (.ref qf137) := (hre_15 137 (by decide)).trans (hfk_12_137)
          have hrq_15 : ∀ j : Nat, j ≠ 117 → j ≠ 120 → j ≠ 131 → z_15[j]? = zs[j]? := fun j g117 g120 g131 => (hre_15 j g131).trans (hrq_12 j g117 g120 g131)
          obtain ⟨rfl, hz_15⟩ := hwa_15
          rcases hz_15 with rfl | rfl
          · rw [if_pos rfl] at hsp
            have hr0 := Option.some.inj hsp
            clear hsp
            obtain ⟨hq0, hr1⟩ := Prod.mk.inj hr0
            clear hr0
            obtain ⟨hq1, hr2⟩ := Prod.mk.inj hr1
            clear hr1
            obtain ⟨hq2, hr3⟩ := Prod.mk.inj hr2
            clear hr2
            obtain ⟨hq3, hr4⟩ := Prod.mk.inj hr3
            clear hr3
            obtain ⟨hq4, hr5⟩ := Prod.mk.inj hr4
            clear hr4
            obtain ⟨hq5, hr6⟩ := Prod.mk.inj hr5
            clear hr5
            obtain ⟨hq6, hr7⟩ := Prod.mk.inj hr6
            clear hr6
            obtain ⟨hq7, hr8⟩ := Prod.mk.inj hr7
            clear hr7
            subst hq0
            subst hq1
            subst hq2
            subst hq3
            subst hq4
            subst hq5
            subst hq6
            subst hq7
            subst hr8
            have hP9 := hP.sub (ws' := [(h0, .inr (13, z_15)), (qf100, .inl (cf100, 48000, .inl f100)), (qf128, .inl (cf128, 31, .inl g915_1)), (qf127, .inl (cf127, 30, .inl g127_25)), (qf104, .inl (cf104, 8, .inl f104)), (qf102, .inl (cf102, 2048, .inl f102)), (qf118, .inl (cf118, 2100, .inl g118_25)), (qf119, .inl (cf119, 2100, .inl g119_25)), (qf105, .inl (cf105, 8, .inl f105)), (qf137, .inl (cf137, 6, .inl g137_25))]) [8, 0, 9, 1, 2, 3, 4, 5, 6, 7] rfl
            have hD9 := hD.sub (ws' := [(h0, .inr (13, z_15)), (qf100, .inl (cf100, 48000, .inl f100)), (qf128, .inl (cf128, 31, .inl g915_1)), (qf127, .inl (cf127, 30, .inl g127_25)), (qf104, .inl (cf104, 8, .inl f104)), (qf102, .inl (cf102, 2048, .inl f102)), (qf118, .inl (cf118, 2100, .inl g118_25)), (qf119, .inl (cf119, 2100, .inl g119_25)), (qf105, .inl (cf105, 8, .inl f105)), (qf137, .inl (cf137, 6, .inl g137_25))]) [8, 0, 9, 1, 2, 3, 4, 5, 6, 7] (by decide) rfl
            have hK9 := hK.sub (tys' := [(cf100, .int), (cf128, .int), (cf127, .int), (cf104, .int), (cf102, .int), (cf118, .int), (cf119, .int), (cf105, .int), (cf137, .int)]) [0, 8, 1, 2, 3, 4, 5, 6, 7] rfl
            exact W.zret hx hb hr (by decide) (fun t ht hW => ⟨⟨(0), (z_15), rfl, ⟨⟨rfl, Or.inl rfl⟩, hln_15, hrq_15, hfk_15_117, hfk_15_120, hch_15_131⟩, by rw [ht]; exact hP9, va_K.moved hW.alike hK9, hD9⟩, hS.F ht⟩) hS.2.2 dX13_wanted_1023
          · rw [if_neg (by decide)] at hsp
            have hr0 := Option.some.inj hsp
            clear hsp
            obtain ⟨hq0, hr1⟩ := Prod.mk.inj hr0
            clear hr0
            obtain ⟨hq1, hr2⟩ := Prod.mk.inj hr1
            clear hr1
            obtain ⟨hq2, hr3⟩ := Prod.mk.inj hr2
            clear hr2
            obtain ⟨hq3, hr4⟩ := Prod.mk.inj hr3
            clear hr3
            obtain ⟨hq4, hr5⟩ := Prod.mk.inj hr4
            clear hr4
            obtain ⟨hq5, hr6⟩ := Prod.mk.inj hr5
            clear hr5
            obtain ⟨hq6, hr7⟩ := Prod.mk.inj hr6
            clear hr6
            obtain ⟨hq7, hr8⟩ := Prod.mk.inj hr7
            clear hr7
            subst hq0
            subst hq1
            subst hq2
            subst hq3
            subst hq4
            subst hq5
            subst hq6
            subst hq7
            subst hr8
            have hP9 := hP.sub (ws' := [(h0, .inr (13, z_15)), (qf100, .inl (cf100, 48000, .inl f100)), (qf128, .inl (cf128, 31, .inl g915_1)), (qf127, .inl (cf127, 30, .inl g127_25)), (qf104, .inl (cf104, 8, .inl f104)), (qf102, .inl (cf102, 2048, .inl f102)), (qf118, .inl (cf118, 2100, .inl g118_25)), (qf119, .inl (cf119, 2100, .inl g119_25)), (qf105, .inl (cf105, 8, .inl f105)), (qf137, .inl (cf137, 6, .inl g137_25))]) [8, 0, 9, 1, 2, 3, 4, 5, 6, 7] rfl
            have hD9 := hD.sub (ws' := [(h0, .inr (13, z_15)), (qf100, .inl (cf100, 48000, .inl f100)), (qf128, .inl (cf128, 31, .inl g915_1)), (qf127, .inl (cf127, 30, .inl g127_25)), (qf104, .inl (cf104, 8, .inl f104)), (qf102, .inl (cf102, 2048, .inl f102)), (qf118, .inl (cf118, 2100, .inl g118_25)), (qf119, .inl (cf119, 2100, .inl g119_25)), (qf105, .inl (cf105, 8, .inl f105)), (qf137, .inl (cf137, 6, .inl g137_25))]) [8, 0, 9, 1, 2, 3, 4, 5, 6, 7] (by decide) rfl
            have hK9 := hK.sub (tys' := [(cf100, .int), (cf128, .int), (cf127, .int), (cf104, .int), (cf102, .int), (cf118, .int), (cf119, .int), (cf105, .int), (cf137, .int)]) [0, 8, 1, 2, 3, 4, 5, 6, 7] rfl
            exact W.zret hx hb hr (by decide) (fun t ht hW => ⟨⟨(1), (z_15), rfl, ⟨⟨rfl, Or.inr rfl⟩, hln_15, hrq_15, hfk_15_117, hfk_15_120, hch_15_131⟩, by rw [ht]; exact hP9, va_K.moved hW.alike hK9, hD9⟩, hS.F ht⟩) hS.2.2 dX13_wanted_1023
    rw [if_neg hs_81] at hsp
    by_cases hs_95 : l2_25 = 51
    · rw [if_pos hs_95] at hsp
      refine lv_tableIn (tgt := 1642) hx hb dX13_wanted_27 (by rw [hs_95]; decide) (by rw [hs_95]; decide) (off := 1615) (by rw [hs_95]; rfl) (by decide) ?_
      exact hj_1642 (H, locs, ls, z25, g118_25, g119_25, g127_25, g128_25, g137_25, x117_25, x120_25, x131_25) ⟨lv_sub hl [1] rfl, hS, hD.sub (ws' := [(h0, .inr (13, z25)), (qf100, .inl (cf100, 48000, .inl f100)), (qf128, .inl (cf128, 31, .inl g128_25)), (qf127, .inl (cf127, 30, .inl g127_25)), (qf104, .inl (cf104, 8, .inl f104)), (qf102, .inl (cf102, 2048, .inl f102)), (qf118, .inl (cf118, 2100, .inl g118_25)), (qf119, .inl (cf119, 2100, .inl g119_25)), (qf105, .inl (cf105, 8, .inl f105)), (qf137, .inl (cf137, 6, .inl g137_25))]) [0, 1, 2, 3, 4, 5, 6, 7, 8, 9] (by decide) rfl, hP.sub (ws' := [(h0, .inr (13, z25)), (qf100, .inl (cf100, 48000, .inl f100)), (qf128, .inl (cf128, 31, .inl g128_25)), (qf127, .inl (cf127, 30, .inl g127_25)), (qf104, .inl (cf104, 8, .inl f104)), (qf102, .inl (cf102, 2048, .inl f102)), (qf118, .inl (cf118, 2100, .inl g118_25)), (qf119, .inl (cf119, 2100, .inl g119_25)), (qf105, .inl (cf105, 8, .inl f105)), (qf137, .inl (cf137, 6, .inl g137_25))]) [0, 1, 2, 3, 4, 5, 6, 7, 8, 9] rfl, hfh_25_98, hfh_25_100, hfh_25_102, hfh_25_104, hfh_25_105, hfh_25_117, hfh_25_118, hfh_25_119, hfh_25_120, hfh_25_127, hfh_25_128, hfh_25_129, hfh_25_130, hfh_25_131, hfh_25_132, hfh_25_134, hfh_25_136, hfh_25_137, hlh_25, hrh_25, hsp⟩
    rw [if_neg hs_95] at hsp
    by_cases hs_96 : l2_25 = 52
    · rw [if_pos hs_96] at hsp
      refine lv_tableIn (tgt := 1642) hx hb dX13_wanted_27 (by rw [hs_96]; decide) (by rw [hs_96]; decide) (off := 1615) (by rw [hs_96]; rfl) (by decide) ?_
      exact hj_1642 (H, locs, ls, z25, g118_25, g119_25, g127_25, g128_25, g137_25, x117_25, x120_25, x131_25) ⟨lv_sub hl [1] rfl, hS, hD.sub (ws' := [(h0, .inr (13, z25)), (qf100, .inl (cf100, 48000, .inl f100)), (qf128, .inl (cf128, 31, .inl g128_25)), (qf127, .inl (cf127, 30, .inl g127_25)), (qf104, .inl (cf104, 8, .inl f104)), (qf102, .inl (cf102, 2048, .inl f102)), (qf118, .inl (cf118, 2100, .inl g118_25)), (qf119, .inl (cf119, 2100, .inl g119_25)), (qf105, .inl (cf105, 8, .inl f105)), (qf137, .inl (cf137, 6, .inl g137_25))]) [0, 1, 2, 3, 4, 5, 6, 7, 8, 9] (by decide) rfl, hP.sub (ws' := [(h0, .inr (13, z25)), (qf100, .inl (cf100, 48000, .inl f100)), (qf128, .inl (cf128, 31, .inl g128_25)), (qf127, .inl (cf127, 30, .inl g127_25)), (qf104, .inl (cf104, 8, .inl f104)), (qf102, .inl (cf102, 2048, .inl f102)), (qf118, .inl (cf118, 2100, .inl g118_25)), (qf119, .inl (cf119, 2100, .inl g119_25)), (qf105, .inl (cf105, 8, .inl f105)), (qf137, .inl (cf137, 6, .inl g137_25))]) [0, 1, 2, 3, 4, 5, 6, 7, 8, 9] rfl, hfh_25_98, hfh_25_100, hfh_25_102, hfh_25_104, hfh_25_105, hfh_25_117, hfh_25_118, hfh_25_119, hfh_25_120, hfh_25_127, hfh_25_128, hfh_25_129, hfh_25_130, hfh_25_131, hfh_25_132, hfh_25_134, hfh_25_136, hfh_25_137, hlh_25, hrh_25, hsp⟩
    rw [if_neg hs_96] at hsp
    by_cases hs_97 : l2_25 = 53
    · rw [if_pos hs_97] at hsp
      refine lv_tableIn (tgt := 1642) hx hb dX13_wanted_27 (by rw [hs_97]; decide) (by rw [hs_97]; decide) (off := 1615) (by rw [hs_97]; rfl) (by decide) ?_
      exact hj_1642 (H, locs, ls, z25, g118_25, g119_25, g127_25, g128_25, g137_25, x117_25, x120_25, x131_25) ⟨lv_sub hl [1] rfl, hS, hD.sub (ws' := [(h0, .inr (13, z25)), (qf100, .inl (cf100, 48000, .inl f100)), (qf128, .inl (cf128, 31, .inl g128_25)), (qf127, .inl (cf127, 30, .inl g127_25)), (qf104, .inl (cf104, 8, .inl f104)), (qf102, .inl (cf102, 2048, .inl f102)), (qf118, .inl (cf118, 2100, .inl g118_25)), (qf119, .inl (cf119, 2100, .inl g119_25)), (qf105, .inl (cf105, 8, .inl f105)), (qf137, .inl (cf137, 6, .inl g137_25))]) [0, 1, 2, 3, 4, 5, 6, 7, 8, 9] (by decide) rfl, hP.sub (ws' := [(h0, .inr (13, z25)), (qf100, .inl (cf100, 48000, .inl f100)), (qf128, .inl (cf128, 31, .inl g128_25)), (qf127, .inl (cf127, 30, .inl g127_25)), (qf104, .inl (cf104, 8, .inl f104)), (qf102, .inl (cf102, 2048, .inl f102)), (qf118, .inl (cf118, 2100, .inl g118_25)), (qf119, .inl (cf119, 2100, .inl g119_25)), (qf105, .inl (cf105, 8, .inl f105)), (qf137, .inl (cf137, 6, .inl g137_25))]) [0, 1, 2, 3, 4, 5, 6, 7, 8, 9] rfl, hfh_25_98, hfh_25_100, hfh_25_102, hfh_25_104, hfh_25_105, hfh_25_117, hfh_25_118, hfh_25_119, hfh_25_120, hfh_25_127, hfh_25_128, hfh_25_129, hfh_25_130, hfh_25_131, hfh_25_132, hfh_25_134, hfh_25_136, hfh_25_137, hlh_25, hrh_25, hsp⟩
    rw [if_neg hs_97] at hsp
    by_cases hs_98 : l2_25 = 54
    · rw [if_pos hs_98] at hsp
      refine lv_tableIn (tgt := 895) hx hb dX13_wanted_27 (by rw [hs_98]; decide) (by rw [hs_98]; decide) (off := 868) (by rw [hs_98]; rfl) (by decide) ?_
      refine lv_iload_n hx hb dX13_wanted_895 rfl (lv_at hl 0 rfl) ?_
      refine lv_aload_n hx hb dX13_wanted_896 rfl (lv_at hl 1 rfl) ?_
      refine va_get (D := (dC, dI)) (ci := 13) (v := .int v129) (C := RX13) (T := TX13) (N := 155) hx hb hts uV_h9_X13 hown hK hP 0 rfl rfl 129 (by decide) (hts (.fieldLink RX13 964 "ClassMillModel" "localMany" "I") mw_h9_561) (fun _ h9 => h9) hfh_25_129 dX13_wanted_897 ?_
      refine lv_icmp_ge (tgt := 911) hx hb dX13_wanted_900 (by decide) (fun c_99 => ?_) (fun c_99 => ?_)
      · rw [if_pos c_99] at hsp
        refine lv_iconst (v := 0) hx hb dX13_wanted_911 (by decide) ?_
        have hr0 := Option.some.inj hsp
        clear hsp
        obtain ⟨hq0, hr1⟩ := Prod.mk.inj hr0
        clear hr0
        obtain ⟨hq1, hr2⟩ := Prod.mk.inj hr1
        clear hr1
        obtain ⟨hq2, hr3⟩ := Prod.mk.inj hr2
        clear hr2
        obtain ⟨hq3, hr4⟩ := Prod.mk.inj hr3
        clear hr3
        obtain ⟨hq4, hr5⟩ := Prod.mk.inj hr4
        clear hr4
        obtain ⟨hq5, hr6⟩ := Prod.mk.inj hr5
        clear hr5
        obtain ⟨hq6, hr7⟩ := Prod.mk.inj hr6
        clear hr6
        obtain ⟨hq7, hr8⟩ := Prod.mk.inj hr7
        clear hr7
        subst hq0
        subst hq1
        subst hq2
        subst hq3
        subst hq4
        subst hq5
        subst hq6
        subst hq7
        subst hr8
        have hP9 := hP.sub (ws' := [(h0, .inr (13, z25)), (qf100, .inl (cf100, 48000, .inl f100)), (qf128, .inl (cf128, 31, .inl g128_25)), (qf127, .inl (cf127, 30, .inl g127_25)), (qf104, .inl (cf104, 8, .inl f104)), (qf102, .inl (cf102, 2048, .inl f102)), (qf118, .inl (cf118, 2100, .inl g118_25)), (qf119, .inl (cf119, 2100, .inl g119_25)), (qf105, .inl (cf105, 8, .inl f105)), (qf137, .inl (cf137, 6, .inl g137_25))]) [0, 1, 2, 3, 4, 5, 6, 7, 8, 9] rfl
        have hD9 := hD.sub (ws' := [(h0, .inr (13, z25)), (qf100, .inl (cf100, 48000, .inl f100)), (qf128, .inl (cf128, 31, .inl g128_25)), (qf127, .inl (cf127, 30, .inl g127_25)), (qf104, .inl (cf104, 8, .inl f104)), (qf102, .inl (cf102, 2048, .inl f102)), (qf118, .inl (cf118, 2100, .inl g118_25)), (qf119, .inl (cf119, 2100, .inl g119_25)), (qf105, .inl (cf105, 8, .inl f105)), (qf137, .inl (cf137, 6, .inl g137_25))]) [0, 1, 2, 3, 4, 5, 6, 7, 8, 9] (by decide) rfl
        have hK9 := hK.sub (tys' := [(cf100, .int), (cf128, .int), (cf127, .int), (cf104, .int), (cf102, .int), (cf118, .int), (cf119, .int), (cf105, .int), (cf137, .int)]) [0, 1, 2, 3, 4, 5, 6, 7, 8] rfl
        exact W.zret hx hb hr (by decide) (fun t ht hW => ⟨⟨(0), (z25), rfl, ⟨⟨rfl, Or.inl rfl⟩, hlh_25, hrh_25, hfh_25_117, hfh_25_120, hfh_25_131⟩, by rw [ht]; exact hP9, va_K.moved hW.alike hK9, hD9⟩, hS.F ht⟩) hS.2.2 dX13_wanted_912
      · rw [if_neg c_99] at hsp
        refine lv_aload_n hx hb dX13_wanted_903 rfl (lv_at hl 1 rfl) ?_
        obtain ⟨⟨u16_0, u16_1⟩, hu_16, hsp⟩ := ox_bind hsp
        try dsimp only at hsp
        have hPc := hP.sub (ws' := [(h0, .inr (13, z25)), (qf128, .inl (cf128, 31, .inl g128_25))]) [0, 2] rfl
        have hDc := hD.sub (ws' := [(h0, .inr (13, z25)), (qf128, .inl (cf128, 31, .inl g128_25))]) [0, 2] (by decide) rfl
        have hKc := hK.sub (tys' := [(cf128, .int)]) [1] rfl
        have hFc := va_free (wc := [(h0, .inr (13, z25)), (qf128, .inl (cf128, 31, .inl g128_25))]) hD hS hA [0, 2] rfl
        refine va_calli (va_runV (As := []) (rest := []) ⟨hx, hb, hml, hown, hts⟩ (tm_pull l dC dI H.size h0 z25 qf128 x131_25 cf128 g128_25 nf u16_0 u16_1 hlh_25 hfh_25_128 hfh_25_131 hu_16) (cwV 0 hts gv_h9_68 rfl rfl rfl (by decide +kernel) ⟨Nat.le_of_ble_eq_true rfl, Nat.le_of_ble_eq_true rfl⟩) ⟨fun a U g mk q => by obtain ⟨q0, q1, qP, qK, qD⟩ := q; exact ⟨q0, q1, qP, va_K.moved (u := U) (U := U.calling g mk a) (Vm.Alike.refl U.vm) qK, qD⟩, va_recv hKc hPc (ci := 13) (q0 := 0) rfl rfl, fun U hU hW => ⟨rfl, by rw [hU], by rw [hU]; exact hPc, va_K.moved hW.alike hKc, hDc.weaken (fun _ _ _ _ => trivial)⟩⟩ rfl rfl hl.1 rfl (lv_room (Nat.le_of_ble_eq_true rfl)) dX13_wanted_904 ⟨Nat.le_of_ble_eq_true rfl, Nat.le_of_ble_eq_true rfl⟩) hS (fun q _ h => hFc q h) hFc ?_
        clear hS
        intro r_100 u t H1 locs ht hvm hw hB hz1 hk1 hS
        obtain ⟨z_16, rfl⟩ : ∃ z, z = u := ⟨_, rfl⟩
        obtain ⟨hP1, hK1, hD1⟩ := hB
        rw [ht] at hP1
        have hK1 := va_K.moved hvm.symm hK1
        try dsimp only at hw
        have hPD := va_join (wr := [(qf100, .inl (cf100, 48000, .inl f100)), (qf127, .inl (cf127, 30, .inl g127_25)), (qf104, .inl (cf104, 8, .inl f104)), (qf102, .inl (cf102, 2048, .inl f102)), (qf118, .inl (cf118, 2100, .inl g118_25)), (qf119, .inl (cf119, 2100, .inl g119_25)), (qf105, .inl (cf105, 8, .inl f105)), (qf137, .inl (cf137, 6, .inl g137_25))]) (w1 := [(h0, .inr (13, z_16)), (qf128, .inl (cf128, 31, .inl g128_25))]) hP hD [0, 2] [1, 3, 4, 5, 6, 7, 8, 9] rfl rfl (by decide) (by decide) hk1 hFc hP1 hD1
        clear hP hD
        obtain ⟨hP, hD⟩ := hPD
        replace hK := (hK.sub (tys' := [(cf100, .int), (cf127, .int), (cf104, .int), (cf102, .int), (cf118, .int), (cf119, .int), (cf105, .int), (cf137, .int)]) [0, 2, 3, 4, 5, 6, 7, 8] rfl).app hK1
        clear hPc hDc hKc hFc hP1 hK1 hD1 hz1 hk1 ht hvm
        generalize H1 = H at hP hS ⊢
        replace hP : va_P (dC, dI) vwCl [(qf100, .inl (cf100, 48000, .inl f100)), (qf127, .inl (cf127, 30, .inl g127_25)), (qf104, .inl (cf104, 8, .inl f104)), (qf102, .inl (cf102, 2048, .inl f102)), (qf118, .inl (cf118, 2100, .inl g118_25)), (qf119, .inl (cf119, 2100, .inl g119_25)), (qf105, .inl (cf105, 8, .inl f105)), (qf137, .inl (cf137, 6, .inl g137_25)), (h0, .inr (13, z_16)), (qf128, .inl (cf128, 31, .inl g128_25))] H := hP
        replace hD : va_D A [(qf100, .inl (cf100, 48000, .inl f100)), (qf127, .inl (cf127, 30, .inl g127_25)), (qf104, .inl (cf104, 8, .inl f104)), (qf102, .inl (cf102, 2048, .inl f102)), (qf118, .inl (cf118, 2100, .inl g118_25)), (qf119, .inl (cf119, 2100, .inl g119_25)), (qf105, .inl (cf105, 8, .inl f105)), (qf137, .inl (cf137, 6, .inl g137_25)), (h0, .inr (13, z_16)), (qf128, .inl (cf128, 31, .inl g128_25))] := hD
        replace hK : va_K (dC, dI) vwCl [(cf100, .int), (cf127, .int), (cf104, .int), (cf102, .int), (cf118, .int), (cf119, .int), (cf105, .int), (cf137, .int), (cf128, .int)] s := hK
        obtain ⟨hwa_16, hln_16, hre_16, hch_16_131⟩ := hw
        have hfk_16_98 : z_16[98]? = some (.int v98) := (hre_16 98 (by decide)).trans (hfh_25_98)
        have hfk_16_100 : z_16[100]? = some (.ref qf100) := (hre_16 100 (by decide)).trans (hfh_25_100)
        have hfk_16_102 : z_16[102]? = some (.ref qf102) := (hre_16 102 (by decide)).trans (hfh_25_102)
        have hfk_16_104 : z_16[104]? = some (.ref qf104) := (hre_16 104 (by decide)).trans (hfh_25_104)
        have hfk_16_105 : z_16[105]? = some (.ref qf105) := (hre_16 105 (by decide)).trans (hfh_25_105)
        have hfk_16_117 : z_16[117]? = some (.int x117_25) := (hre_16 117 (by decide)).trans (hfh_25_117)
        have hfk_16_118 : z_16[118]? = some (.ref qf118) := (hre_16 118 (by decide)).trans (hfh_25_118)
        have hfk_16_119 : z_16[119]? = some (.ref qf119) := (hre_16 119 (by decide)).trans (hfh_25_119)
        have hfk_16_120 : z_16[120]? = some (.int x120_25) := (hre_16 120 (by decide)).trans (hfh_25_120)
        have hfk_16_127 : z_16[127]? = some (.ref qf127) := (hre_16 127 (by decide)).trans (hfh_25_127)
        have hfk_16_128 : z_16[128]? = some (.ref qf128) := (hre_16 128 (by decide)).trans (hfh_25_128)
        have hfk_16_129 : z_16[129]? = some (.int v129) := (hre_16 129 (by decide)).trans (hfh_25_129)
        have hfk_16_130 : z_16[130]? = some (.int v130) := (hre_16 130 (by decide)).trans (hfh_25_130)
        have hfk_16_132 : z_16[132]? = some (.int v132) := (hre_16 132 (by decide)).trans (hfh_25_132)
        have hfk_16_134 : z_16[134]? = some (.int v134) := (hre_16 134 (by decide)).trans (hfh_25_134)
        have hfk_16_136 : z_16[136]? = some (.int v136) := (hre_16 136 (by decide)).trans (hfh_25_136)
        have hfk_16_137 : z_16[137]? = some (.ref qf137) := (hre_16 137 (by decide)).trans (hfh_25_137)
        have hrq_16 : ∀ j : Nat, j ≠ 117 → j ≠ 120 → j ≠ 131 → z_16[j]? = zs[j]? := fun j g117 g120 g131 => (hre_16 j g131).trans (hrh_25 j g117 g120 g131)
        obtain rfl := hwa_16
        refine lv_iconst (v := 1) hx hb dX13_wanted_907 (by decide) ?_
        refine lv_icmp_eq (tgt := 913) hx hb dX13_wanted_908 (by decide) (fun c_101 => ?_) (fun c_101 => ?_)
        · rw [if_pos c_101] at hsp
          refine lv_aload_n hx hb dX13_wanted_913 rfl (lv_at hl 1 rfl) ?_
          refine va_get (D := (dC, dI)) (ci := 13) (v := .ref qf127) (C := RX13) (T := TX13) (N := 155) hx hb hts uV_h9_X13 hown hK hP 8 rfl rfl 127 (by decide) (hts (.fieldLink RX13 270 "ClassMillModel" "locals" "[I") mw_h9_558) (fun _ h9 => h9) hfk_16_127 dX13_wanted_914 ?_
          refine lv_iload_n hx hb dX13_wanted_917 rfl (lv_at hl 0 rfl) ?_
          refine lv_iconst (v := 1) hx hb dX13_wanted_918 (by decide) ?_
          obtain ⟨hi_102, hsp⟩ := ox_in hsp
          refine va_iast hx hb hK hP hD hS 1 1 rfl rfl (i := s0_25) (x := 1) hi_102 dX13_wanted_919 ?_
          clear hP hD hS
          intro H locs hP hD hS
          replace hP : va_P (dC, dI) vwCl [(qf100, .inl (cf100, 48000, .inl f100)), (qf127, .inl (cf127, 30, .inl (upd g127_25 (s0_25 : Int32).toNatClampNeg 1))), (qf104, .inl (cf104, 8, .inl f104)), (qf102, .inl (cf102, 2048, .inl f102)), (qf118, .inl (cf118, 2100, .inl g118_25)), (qf119, .inl (cf119, 2100, .inl g119_25)), (qf105, .inl (cf105, 8, .inl f105)), (qf137, .inl (cf137, 6, .inl g137_25)), (h0, .inr (13, z_16)), (qf128, .inl (cf128, 31, .inl g128_25))] H := hP
          replace hD : va_D A [(qf100, .inl (cf100, 48000, .inl f100)), (qf127, .inl (cf127, 30, .inl (upd g127_25 (s0_25 : Int32).toNatClampNeg 1))), (qf104, .inl (cf104, 8, .inl f104)), (qf102, .inl (cf102, 2048, .inl f102)), (qf118, .inl (cf118, 2100, .inl g118_25)), (qf119, .inl (cf119, 2100, .inl g119_25)), (qf105, .inl (cf105, 8, .inl f105)), (qf137, .inl (cf137, 6, .inl g137_25)), (h0, .inr (13, z_16)), (qf128, .inl (cf128, 31, .inl g128_25))] := hD
          refine lv_iconst (v := 1) hx hb dX13_wanted_920 (by decide) ?_
          have hr0 := Option.some.inj hsp
          clear hsp
          obtain ⟨hq0, hr1⟩ := Prod.mk.inj hr0
          clear hr0
          obtain ⟨hq1, hr2⟩ := Prod.mk.inj hr1
          clear hr1
          obtain ⟨hq2, hr3⟩ := Prod.mk.inj hr2
          clear hr2
          obtain ⟨hq3, hr4⟩ := Prod.mk.inj hr3
          clear hr3
          obtain ⟨hq4, hr5⟩ := Prod.mk.inj hr4
          clear hr4
          obtain ⟨hq5, hr6⟩ := Prod.mk.inj hr5
          clear hr5
          obtain ⟨hq6, hr7⟩ := Prod.mk.inj hr6
          clear hr6
          obtain ⟨hq7, hr8⟩ := Prod.mk.inj hr7
          clear hr7
          subst hq0
          subst hq1
          subst hq2
          subst hq3
          subst hq4
          subst hq5
          subst hq6
          subst hq7
          subst hr8
          have hP9 := hP.sub (ws' := [(h0, .inr (13, z_16)), (qf100, .inl (cf100, 48000, .inl f100)), (qf128, .inl (cf128, 31, .inl g128_25)), (qf127, .inl (cf127, 30, .inl (upd g127_25 (s0_25 : Int32).toNatClampNeg 1))), (qf104, .inl (cf104, 8, .inl f104)), (qf102, .inl (cf102, 2048, .inl f102)), (qf118, .inl (cf118, 2100, .inl g118_25)), (qf119, .inl (cf119, 2100, .inl g119_25)), (qf105, .inl (cf105, 8, .inl f105)), (qf137, .inl (cf137, 6, .inl g137_25))]) [8, 0, 9, 1, 2, 3, 4, 5, 6, 7] rfl
          have hD9 := hD.sub (ws' := [(h0, .inr (13, z_16)), (qf100, .inl (cf100, 48000, .inl f100)), (qf128, .inl (cf128, 31, .inl g128_25)), (qf127, .inl (cf127, 30, .inl (upd g127_25 (s0_25 : Int32).toNatClampNeg 1))), (qf104, .inl (cf104, 8, .inl f104)), (qf102, .inl (cf102, 2048, .inl f102)), (qf118, .inl (cf118, 2100, .inl g118_25)), (qf119, .inl (cf119, 2100, .inl g119_25)), (qf105, .inl (cf105, 8, .inl f105)), (qf137, .inl (cf137, 6, .inl g137_25))]) [8, 0, 9, 1, 2, 3, 4, 5, 6, 7] (by decide) rfl
          have hK9 := hK.sub (tys' := [(cf100, .int), (cf128, .int), (cf127, .int), (cf104, .int), (cf102, .int), (cf118, .int), (cf119, .int), (cf105, .int), (cf137, .int)]) [0, 8, 1, 2, 3, 4, 5, 6, 7] rfl
          exact W.zret hx hb hr (by decide) (fun t ht hW => ⟨⟨(1), (z_16), rfl, ⟨⟨rfl, Or.inr rfl⟩, hln_16, hrq_16, hfk_16_117, hfk_16_120, hch_16_131⟩, by rw [ht]; exact hP9, va_K.moved hW.alike hK9, hD9⟩, hS.F ht⟩) hS.2.2 dX13_wanted_921
        · rw [if_neg c_101] at hsp
          refine lv_iconst (v := 0) hx hb dX13_wanted_911 (by decide) ?_
          have hr0 := Option.some.inj hsp
          clear hsp
          obtain ⟨hq0, hr1⟩ := Prod.mk.inj hr0
          clear hr0
          obtain ⟨hq1, hr2⟩ := Prod.mk.inj hr1
          clear hr1
          obtain ⟨hq2, hr3⟩ := Prod.mk.inj hr2
          clear hr2
          obtain ⟨hq3, hr4⟩ := Prod.mk.inj hr3
          clear hr3
          obtain ⟨hq4, hr5⟩ := Prod.mk.inj hr4
          clear hr4
          obtain ⟨hq5, hr6⟩ := Prod.mk.inj hr5
          clear hr5
          obtain ⟨hq6, hr7⟩ := Prod.mk.inj hr6
          clear hr6
          obtain ⟨hq7, hr8⟩ := Prod.mk.inj hr7
          clear hr7
          subst hq0
          subst hq1
          subst hq2
          subst hq3
          subst hq4
          subst hq5
          subst hq6
          subst hq7
          subst hr8
          have hP9 := hP.sub (ws' := [(h0, .inr (13, z_16)), (qf100, .inl (cf100, 48000, .inl f100)), (qf128, .inl (cf128, 31, .inl g128_25)), (qf127, .inl (cf127, 30, .inl g127_25)), (qf104, .inl (cf104, 8, .inl f104)), (qf102, .inl (cf102, 2048, .inl f102)), (qf118, .inl (cf118, 2100, .inl g118_25)), (qf119, .inl (cf119, 2100, .inl g119_25)), (qf105, .inl (cf105, 8, .inl f105)), (qf137, .inl (cf137, 6, .inl g137_25))]) [8, 0, 9, 1, 2, 3, 4, 5, 6, 7] rfl
          have hD9 := hD.sub (ws' := [(h0, .inr (13, z_16)), (qf100, .inl (cf100, 48000, .inl f100)), (qf128, .inl (cf128, 31, .inl g128_25)), (qf127, .inl (cf127, 30, .inl g127_25)), (qf104, .inl (cf104, 8, .inl f104)), (qf102, .inl (cf102, 2048, .inl f102)), (qf118, .inl (cf118, 2100, .inl g118_25)), (qf119, .inl (cf119, 2100, .inl g119_25)), (qf105, .inl (cf105, 8, .inl f105)), (qf137, .inl (cf137, 6, .inl g137_25))]) [8, 0, 9, 1, 2, 3, 4, 5, 6, 7] (by decide) rfl
          have hK9 := hK.sub (tys' := [(cf100, .int), (cf128, .int), (cf127, .int), (cf104, .int), (cf102, .int), (cf118, .int), (cf119, .int), (cf105, .int), (cf137, .int)]) [0, 8, 1, 2, 3, 4, 5, 6, 7] rfl
          exact W.zret hx hb hr (by decide) (fun t ht hW => ⟨⟨(0), (z_16), rfl, ⟨⟨rfl, Or.inl rfl⟩, hln_16, hrq_16, hfk_16_117, hfk_16_120, hch_16_131⟩, by rw [ht]; exact hP9, va_K.moved hW.alike hK9, hD9⟩, hS.F ht⟩) hS.2.2 dX13_wanted_912
    rw [if_neg hs_98] at hsp
    by_cases hs_103 : l2_25 = 55
    · rw [if_pos hs_103] at hsp
      refine lv_tableIn (tgt := 1642) hx hb dX13_wanted_27 (by rw [hs_103]; decide) (by rw [hs_103]; decide) (off := 1615) (by rw [hs_103]; rfl) (by decide) ?_
      exact hj_1642 (H, locs, ls, z25, g118_25, g119_25, g127_25, g128_25, g137_25, x117_25, x120_25, x131_25) ⟨lv_sub hl [1] rfl, hS, hD.sub (ws' := [(h0, .inr (13, z25)), (qf100, .inl (cf100, 48000, .inl f100)), (qf128, .inl (cf128, 31, .inl g128_25)), (qf127, .inl (cf127, 30, .inl g127_25)), (qf104, .inl (cf104, 8, .inl f104)), (qf102, .inl (cf102, 2048, .inl f102)), (qf118, .inl (cf118, 2100, .inl g118_25)), (qf119, .inl (cf119, 2100, .inl g119_25)), (qf105, .inl (cf105, 8, .inl f105)), (qf137, .inl (cf137, 6, .inl g137_25))]) [0, 1, 2, 3, 4, 5, 6, 7, 8, 9] (by decide) rfl, hP.sub (ws' := [(h0, .inr (13, z25)), (qf100, .inl (cf100, 48000, .inl f100)), (qf128, .inl (cf128, 31, .inl g128_25)), (qf127, .inl (cf127, 30, .inl g127_25)), (qf104, .inl (cf104, 8, .inl f104)), (qf102, .inl (cf102, 2048, .inl f102)), (qf118, .inl (cf118, 2100, .inl g118_25)), (qf119, .inl (cf119, 2100, .inl g119_25)), (qf105, .inl (cf105, 8, .inl f105)), (qf137, .inl (cf137, 6, .inl g137_25))]) [0, 1, 2, 3, 4, 5, 6, 7, 8, 9] rfl, hfh_25_98, hfh_25_100, hfh_25_102, hfh_25_104, hfh_25_105, hfh_25_117, hfh_25_118, hfh_25_119, hfh_25_120, hfh_25_127, hfh_25_128, hfh_25_129, hfh_25_130, hfh_25_131, hfh_25_132, hfh_25_134, hfh_25_136, hfh_25_137, hlh_25, hrh_25, hsp⟩
    rw [if_neg hs_103] at hsp
    by_cases hs_104 : l2_25 = 56
    · rw [if_pos hs_104] at hsp
      refine lv_tableIn (tgt := 1642) hx hb dX13_wanted_27 (by rw [hs_104]; decide) (by rw [hs_104]; decide) (off := 1615) (by rw [hs_104]; rfl) (by decide) ?_
      exact hj_1642 (H, locs, ls, z25, g118_25, g119_25, g127_25, g128_25, g137_25, x117_25, x120_25, x131_25) ⟨lv_sub hl [1] rfl, hS, hD.sub (ws' := [(h0, .inr (13, z25)), (qf100, .inl (cf100, 48000, .inl f100)), (qf128, .inl (cf128, 31, .inl g128_25)), (qf127, .inl (cf127, 30, .inl g127_25)), (qf104, .inl (cf104, 8, .inl f104)), (qf102, .inl (cf102, 2048, .inl f102)), (qf118, .inl (cf118, 2100, .inl g118_25)), (qf119, .inl (cf119, 2100, .inl g119_25)), (qf105, .inl (cf105, 8, .inl f105)), (qf137, .inl (cf137, 6, .inl g137_25))]) [0, 1, 2, 3, 4, 5, 6, 7, 8, 9] (by decide) rfl, hP.sub (ws' := [(h0, .inr (13, z25)), (qf100, .inl (cf100, 48000, .inl f100)), (qf128, .inl (cf128, 31, .inl g128_25)), (qf127, .inl (cf127, 30, .inl g127_25)), (qf104, .inl (cf104, 8, .inl f104)), (qf102, .inl (cf102, 2048, .inl f102)), (qf118, .inl (cf118, 2100, .inl g118_25)), (qf119, .inl (cf119, 2100, .inl g119_25)), (qf105, .inl (cf105, 8, .inl f105)), (qf137, .inl (cf137, 6, .inl g137_25))]) [0, 1, 2, 3, 4, 5, 6, 7, 8, 9] rfl, hfh_25_98, hfh_25_100, hfh_25_102, hfh_25_104, hfh_25_105, hfh_25_117, hfh_25_118, hfh_25_119, hfh_25_120, hfh_25_127, hfh_25_128, hfh_25_129, hfh_25_130, hfh_25_131, hfh_25_132, hfh_25_134, hfh_25_136, hfh_25_137, hlh_25, hrh_25, hsp⟩
    rw [if_neg hs_104] at hsp
    by_cases hs_105 : l2_25 = 57
    · rw [if_pos hs_105] at hsp
      refine lv_tableIn (tgt := 1642) hx hb dX13_wanted_27 (by rw [hs_105]; decide) (by rw [hs_105]; decide) (off := 1615) (by rw [hs_105]; rfl) (by decide) ?_
      exact hj_1642 (H, locs, ls, z25, g118_25, g119_25, g127_25, g128_25, g137_25, x117_25, x120_25, x131_25) ⟨lv_sub hl [1] rfl, hS, hD.sub (ws' := [(h0, .inr (13, z25)), (qf100, .inl (cf100, 48000, .inl f100)), (qf128, .inl (cf128, 31, .inl g128_25)), (qf127, .inl (cf127, 30, .inl g127_25)), (qf104, .inl (cf104, 8, .inl f104)), (qf102, .inl (cf102, 2048, .inl f102)), (qf118, .inl (cf118, 2100, .inl g118_25)), (qf119, .inl (cf119, 2100, .inl g119_25)), (qf105, .inl (cf105, 8, .inl f105)), (qf137, .inl (cf137, 6, .inl g137_25))]) [0, 1, 2, 3, 4, 5, 6, 7, 8, 9] (by decide) rfl, hP.sub (ws' := [(h0, .inr (13, z25)), (qf100, .inl (cf100, 48000, .inl f100)), (qf128, .inl (cf128, 31, .inl g128_25)), (qf127, .inl (cf127, 30, .inl g127_25)), (qf104, .inl (cf104, 8, .inl f104)), (qf102, .inl (cf102, 2048, .inl f102)), (qf118, .inl (cf118, 2100, .inl g118_25)), (qf119, .inl (cf119, 2100, .inl g119_25)), (qf105, .inl (cf105, 8, .inl f105)), (qf137, .inl (cf137, 6, .inl g137_25))]) [0, 1, 2, 3, 4, 5, 6, 7, 8, 9] rfl, hfh_25_98, hfh_25_100, hfh_25_102, hfh_25_104, hfh_25_105, hfh_25_117, hfh_25_118, hfh_25_119, hfh_25_120, hfh_25_127, hfh_25_128, hfh_25_129, hfh_25_130, hfh_25_131, hfh_25_132, hfh_25_134, hfh_25_136, hfh_25_137, hlh_25, hrh_25, hsp⟩
    rw [if_neg hs_105] at hsp
    by_cases hs_106 : l2_25 = 58
    · rw [if_pos hs_106] at hsp
      refine lv_tableIn (tgt := 922) hx hb dX13_wanted_27 (by rw [hs_106]; decide) (by rw [hs_106]; decide) (off := 895) (by rw [hs_106]; rfl) (by decide) ?_
      refine lv_aload_n hx hb dX13_wanted_922 rfl (lv_at hl 1 rfl) ?_
      obtain ⟨⟨u17_0, u17_1⟩, hu_17, hsp⟩ := ox_bind hsp
      try dsimp only at hsp
      have hPc := hP.sub (ws' := [(h0, .inr (13, z25)), (qf128, .inl (cf128, 31, .inl g128_25))]) [0, 2] rfl
      have hDc := hD.sub (ws' := [(h0, .inr (13, z25)), (qf128, .inl (cf128, 31, .inl g128_25))]) [0, 2] (by decide) rfl
      have hKc := hK.sub (tys' := [(cf128, .int)]) [1] rfl
      have hFc := va_free (wc := [(h0, .inr (13, z25)), (qf128, .inl (cf128, 31, .inl g128_25))]) hD hS hA [0, 2] rfl
      refine va_calli (va_runV (As := []) (rest := []) ⟨hx, hb, hml, hown, hts⟩ (tm_pull l dC dI H.size h0 z25 qf128 x131_25 cf128 g128_25 nf u17_0 u17_1 hlh_25 hfh_25_128 hfh_25_131 hu_17) (cwV 0 hts gv_h9_68 rfl rfl rfl (by decide +kernel) ⟨Nat.le_of_ble_eq_true rfl, Nat.le_of_ble_eq_true rfl⟩) ⟨fun a U g mk q => by obtain ⟨q0, q1, qP, qK, qD⟩ := q; exact ⟨q0, q1, qP, va_K.moved (u := U) (U := U.calling g mk a) (Vm.Alike.refl U.vm) qK, qD⟩, va_recv hKc hPc (ci := 13) (q0 := 0) rfl rfl, fun U hU hW => ⟨rfl, by rw [hU], by rw [hU]; exact hPc, va_K.moved hW.alike hKc, hDc.weaken (fun _ _ _ _ => trivial)⟩⟩ rfl rfl hl.1 rfl (lv_room (Nat.le_of_ble_eq_true rfl)) dX13_wanted_923 ⟨Nat.le_of_ble_eq_true rfl, Nat.le_of_ble_eq_true rfl⟩) hS (fun q _ h => hFc q h) hFc ?_
      clear hS
      intro r_107 u t H1 locs ht hvm hw hB hz1 hk1 hS
      obtain ⟨z_17, rfl⟩ : ∃ z, z = u := ⟨_, rfl⟩
      obtain ⟨hP1, hK1, hD1⟩ := hB
      rw [ht] at hP1
      have hK1 := va_K.moved hvm.symm hK1
      try dsimp only at hw
      have hPD := va_join (wr := [(qf100, .inl (cf100, 48000, .inl f100)), (qf127, .inl (cf127, 30, .inl g127_25)), (qf104, .inl (cf104, 8, .inl f104)), (qf102, .inl (cf102, 2048, .inl f102)), (qf118, .inl (cf118, 2100, .inl g118_25)), (qf119, .inl (cf119, 2100, .inl g119_25)), (qf105, .inl (cf105, 8, .inl f105)), (qf137, .inl (cf137, 6, .inl g137_25))]) (w1 := [(h0, .inr (13, z_17)), (qf128, .inl (cf128, 31, .inl g128_25))]) hP hD [0, 2] [1, 3, 4, 5, 6, 7, 8, 9] rfl rfl (by decide) (by decide) hk1 hFc hP1 hD1
      clear hP hD
      obtain ⟨hP, hD⟩ := hPD
      replace hK := (hK.sub (tys' := [(cf100, .int), (cf127, .int), (cf104, .int), (cf102, .int), (cf118, .int), (cf119, .int), (cf105, .int), (cf137, .int)]) [0, 2, 3, 4, 5, 6, 7, 8] rfl).app hK1
      clear hPc hDc hKc hFc hP1 hK1 hD1 hz1 hk1 ht hvm
      generalize H1 = H at hP hS ⊢
      replace hP : va_P (dC, dI) vwCl [(qf100, .inl (cf100, 48000, .inl f100)), (qf127, .inl (cf127, 30, .inl g127_25)), (qf104, .inl (cf104, 8, .inl f104)), (qf102, .inl (cf102, 2048, .inl f102)), (qf118, .inl (cf118, 2100, .inl g118_25)), (qf119, .inl (cf119, 2100, .inl g119_25)), (qf105, .inl (cf105, 8, .inl f105)), (qf137, .inl (cf137, 6, .inl g137_25)), (h0, .inr (13, z_17)), (qf128, .inl (cf128, 31, .inl g128_25))] H := hP
      replace hD : va_D A [(qf100, .inl (cf100, 48000, .inl f100)), (qf127, .inl (cf127, 30, .inl g127_25)), (qf104, .inl (cf104, 8, .inl f104)), (qf102, .inl (cf102, 2048, .inl f102)), (qf118, .inl (cf118, 2100, .inl g118_25)), (qf119, .inl (cf119, 2100, .inl g119_25)), (qf105, .inl (cf105, 8, .inl f105)), (qf137, .inl (cf137, 6, .inl g137_25)), (h0, .inr (13, z_17)), (qf128, .inl (cf128, 31, .inl g128_25))] := hD
      replace hK : va_K (dC, dI) vwCl [(cf100, .int), (cf127, .int), (cf104, .int), (cf102, .int), (cf118, .int), (cf119, .int), (cf105, .int), (cf137, .int), (cf128, .int)] s := hK
      obtain ⟨hwa_17, hln_17, hre_17, hch_17_131⟩ := hw
      have hfk_17_98 : z_17[98]? = some (.int v98) := (hre_17 98 (by decide)).trans (hfh_25_98)
      have hfk_17_100 : z_17[100]? = some (.ref qf100) := (hre_17 100 (by decide)).trans (hfh_25_100)
      have hfk_17_102 : z_17[102]? = some (.ref qf102) := (hre_17 102 (by decide)).trans (hfh_25_102)
      have hfk_17_104 : z_17[104]? = some (.ref qf104) := (hre_17 104 (by decide)).trans (hfh_25_104)
      have hfk_17_105 : z_17[105]? = some (.ref qf105) := (hre_17 105 (by decide)).trans (hfh_25_105)
      have hfk_17_117 : z_17[117]? = some (.int x117_25) := (hre_17 117 (by decide)).trans (hfh_25_117)
      have hfk_17_118 : z_17[118]? = some (.ref qf118) := (hre_17 118 (by decide)).trans (hfh_25_118)
      have hfk_17_119 : z_17[119]? = some (.ref qf119) := (hre_17 119 (by decide)).trans (hfh_25_119)
      have hfk_17_120 : z_17[120]? = some (.int x120_25) := (hre_17 120 (by decide)).trans (hfh_25_120)
      have hfk_17_127 : z_17[127]? = some (.ref qf127) := (hre_17 127 (by decide)).trans (hfh_25_127)
      have hfk_17_128 : z_17[128]? = some (.ref qf128) := (hre_17 128 (by decide)).trans (hfh_25_128)
      have hfk_17_129 : z_17[129]? = some (.int v129) := (hre_17 129 (by decide)).trans (hfh_25_129)
      have hfk_17_130 : z_17[130]? = some (.int v130) := (hre_17 130 (by decide)).trans (hfh_25_130)
      have hfk_17_132 : z_17[132]? = some (.int v132) := (hre_17 132 (by decide)).trans (hfh_25_132)
      have hfk_17_134 : z_17[134]? = some (.int v134) := (hre_17 134 (by decide)).trans (hfh_25_134)
      have hfk_17_136 : z_17[136]? = some (.int v136) := (hre_17 136 (by decide)).trans (hfh_25_136)
      have hfk_17_137 : z_17[137]? = some (.ref qf137) := (hre_17 137 (by decide)).trans (hfh_25_137)
      have hrq_17 : ∀ j : Nat, j ≠ 117 → j ≠ 120 → j ≠ 131 → z_17[j]? = zs[j]? := fun j g117 g120 g131 => (hre_17 j g131).trans (hrh_25 j g117 g120 g131)
      obtain rfl := hwa_17
      refine lv_istore (lv' := [(4, .int u17_0), (3, .int s0_25), (0, .ref h0), (2, .int l2_25)]) hx hb dX13_wanted_926 hl (by decide) rfl (fun ls hl => ?_)
      refine lv_iload_n hx hb dX13_wanted_928 rfl (lv_at hl 1 rfl) ?_
      refine lv_aload_n hx hb dX13_wanted_929 rfl (lv_at hl 2 rfl) ?_
      refine va_get (D := (dC, dI)) (ci := 13) (v := .int v129) (C := RX13) (T := TX13) (N := 155) hx hb hts uV_h9_X13 hown hK hP 8 rfl rfl 129 (by decide) (hts (.fieldLink RX13 964 "ClassMillModel" "localMany" "I") mw_h9_561) (fun _ h9 => h9) hfk_17_129 dX13_wanted_930 ?_
      refine lv_icmp_ge (tgt := 942) hx hb dX13_wanted_933 (by decide) (fun c_108 => ?_) (fun c_108 => ?_)
      · rw [if_pos c_108] at hsp
        refine lv_iconst (v := 0) hx hb dX13_wanted_942 (by decide) ?_
        have hr0 := Option.some.inj hsp
        clear hsp
        obtain ⟨hq0, hr1⟩ := Prod.mk.inj hr0
        clear hr0
        obtain ⟨hq1, hr2⟩ := Prod.mk.inj hr1
        clear hr1
        obtain ⟨hq2, hr3⟩ := Prod.mk.inj hr2
        clear hr2
        obtain ⟨hq3, hr4⟩ := Prod.mk.inj hr3
        clear hr3
        obtain ⟨hq4, hr5⟩ := Prod.mk.inj hr4
        clear hr4
        obtain ⟨hq5, hr6⟩ := Prod.mk.inj hr5
        clear hr5
        obtain ⟨hq6, hr7⟩ := Prod.mk.inj hr6
        clear hr6
        obtain ⟨hq7, hr8⟩ := Prod.mk.inj hr7
        clear hr7
        subst hq0
        subst hq1
        subst hq2
        subst hq3
        subst hq4
        subst hq5
        subst hq6
        subst hq7
        subst hr8
        have hP9 := hP.sub (ws' := [(h0, .inr (13, z_17)), (qf100, .inl (cf100, 48000, .inl f100)), (qf128, .inl (cf128, 31, .inl g128_25)), (qf127, .inl (cf127, 30, .inl g127_25)), (qf104, .inl (cf104, 8, .inl f104)), (qf102, .inl (cf102, 2048, .inl f102)), (qf118, .inl (cf118, 2100, .inl g118_25)), (qf119, .inl (cf119, 2100, .inl g119_25)), (qf105, .inl (cf105, 8, .inl f105)), (qf137, .inl (cf137, 6, .inl g137_25))]) [8, 0, 9, 1, 2, 3, 4, 5, 6, 7] rfl
        have hD9 := hD.sub (ws' := [(h0, .inr (13, z_17)), (qf100, .inl (cf100, 48000, .inl f100)), (qf128, .inl (cf128, 31, .inl g128_25)), (qf127, .inl (cf127, 30, .inl g127_25)), (qf104, .inl (cf104, 8, .inl f104)), (qf102, .inl (cf102, 2048, .inl f102)), (qf118, .inl (cf118, 2100, .inl g118_25)), (qf119, .inl (cf119, 2100, .inl g119_25)), (qf105, .inl (cf105, 8, .inl f105)), (qf137, .inl (cf137, 6, .inl g137_25))]) [8, 0, 9, 1, 2, 3, 4, 5, 6, 7] (by decide) rfl
        have hK9 := hK.sub (tys' := [(cf100, .int), (cf128, .int), (cf127, .int), (cf104, .int), (cf102, .int), (cf118, .int), (cf119, .int), (cf105, .int), (cf137, .int)]) [0, 8, 1, 2, 3, 4, 5, 6, 7] rfl
        exact W.zret hx hb hr (by decide) (fun t ht hW => ⟨⟨(0), (z_17), rfl, ⟨⟨rfl, Or.inl rfl⟩, hln_17, hrq_17, hfk_17_117, hfk_17_120, hch_17_131⟩, by rw [ht]; exact hP9, va_K.moved hW.alike hK9, hD9⟩, hS.F ht⟩) hS.2.2 dX13_wanted_943
      · rw [if_neg c_108] at hsp
        refine lv_iload hx hb dX13_wanted_936 (lv_at hl 0 rfl) ?_
        refine lv_iconst (v := 2) hx hb dX13_wanted_938 (by decide) ?_
        refine lv_icmp_ge (tgt := 944) hx hb dX13_wanted_939 (by decide) (fun c_109 => ?_) (fun c_109 => ?_)
        · rw [if_pos c_109] at hsp
          refine lv_aload_n hx hb dX13_wanted_944 rfl (lv_at hl 2 rfl) ?_
          refine va_get (D := (dC, dI)) (ci := 13) (v := .ref qf127) (C := RX13) (T := TX13) (N := 155) hx hb hts uV_h9_X13 hown hK hP 8 rfl rfl 127 (by decide) (hts (.fieldLink RX13 270 "ClassMillModel" "locals" "[I") mw_h9_558) (fun _ h9 => h9) hfk_17_127 dX13_wanted_945 ?_
          refine lv_iload_n hx hb dX13_wanted_948 rfl (lv_at hl 1 rfl) ?_
          refine lv_iload hx hb dX13_wanted_949 (lv_at hl 0 rfl) ?_
          obtain ⟨hi_110, hsp⟩ := ox_in hsp
          refine va_iast hx hb hK hP hD hS 1 1 rfl rfl (i := s0_25) (x := u17_0) hi_110 dX13_wanted_951 ?_
          clear hP hD hS
          intro H locs hP hD hS
          replace hP : va_P (dC, dI) vwCl [(qf100, .inl (cf100, 48000, .inl f100)), (qf127, .inl (cf127, 30, .inl (upd g127_25 (s0_25 : Int32).toNatClampNeg u17_0))), (qf104, .inl (cf104, 8, .inl f104)), (qf102, .inl (cf102, 2048, .inl f102)), (qf118, .inl (cf118, 2100, .inl g118_25)), (qf119, .inl (cf119, 2100, .inl g119_25)), (qf105, .inl (cf105, 8, .inl f105)), (qf137, .inl (cf137, 6, .inl g137_25)), (h0, .inr (13, z_17)), (qf128, .inl (cf128, 31, .inl g128_25))] H := hP
          replace hD : va_D A [(qf100, .inl (cf100, 48000, .inl f100)), (qf127, .inl (cf127, 30, .inl (upd g127_25 (s0_25 : Int32).toNatClampNeg u17_0))), (qf104, .inl (cf104, 8, .inl f104)), (qf102, .inl (cf102, 2048, .inl f102)), (qf118, .inl (cf118, 2100, .inl g118_25)), (qf119, .inl (cf119, 2100, .inl g119_25)), (qf105, .inl (cf105, 8, .inl f105)), (qf137, .inl (cf137, 6, .inl g137_25)), (h0, .inr (13, z_17)), (qf128, .inl (cf128, 31, .inl g128_25))] := hD
          refine lv_iconst (v := 1) hx hb dX13_wanted_952 (by decide) ?_
          have hr0 := Option.some.inj hsp
          clear hsp
          obtain ⟨hq0, hr1⟩ := Prod.mk.inj hr0
          clear hr0
          obtain ⟨hq1, hr2⟩ := Prod.mk.inj hr1
          clear hr1
          obtain ⟨hq2, hr3⟩ := Prod.mk.inj hr2
          clear hr2
          obtain ⟨hq3, hr4⟩ := Prod.mk.inj hr3
          clear hr3
          obtain ⟨hq4, hr5⟩ := Prod.mk.inj hr4
          clear hr4
          obtain ⟨hq5, hr6⟩ := Prod.mk.inj hr5
          clear hr5
          obtain ⟨hq6, hr7⟩ := Prod.mk.inj hr6
          clear hr6
          obtain ⟨hq7, hr8⟩ := Prod.mk.inj hr7
          clear hr7
          subst hq0
          subst hq1
          subst hq2
          subst hq3
          subst hq4
          subst hq5
          subst hq6
          subst hq7
          subst hr8
          have hP9 := hP.sub (ws' := [(h0, .inr (13, z_17)), (qf100, .inl (cf100, 48000, .inl f100)), (qf128, .inl (cf128, 31, .inl g128_25)), (qf127, .inl (cf127, 30, .inl (upd g127_25 (s0_25 : Int32).toNatClampNeg u17_0))), (qf104, .inl (cf104, 8, .inl f104)), (qf102, .inl (cf102, 2048, .inl f102)), (qf118, .inl (cf118, 2100, .inl g118_25)), (qf119, .inl (cf119, 2100, .inl g119_25)), (qf105, .inl (cf105, 8, .inl f105)), (qf137, .inl (cf137, 6, .inl g137_25))]) [8, 0, 9, 1, 2, 3, 4, 5, 6, 7] rfl
          have hD9 := hD.sub (ws' := [(h0, .inr (13, z_17)), (qf100, .inl (cf100, 48000, .inl f100)), (qf128, .inl (cf128, 31, .inl g128_25)), (qf127, .inl (cf127, 30, .inl (upd g127_25 (s0_25 : Int32).toNatClampNeg u17_0))), (qf104, .inl (cf104, 8, .inl f104)), (qf102, .inl (cf102, 2048, .inl f102)), (qf118, .inl (cf118, 2100, .inl g118_25)), (qf119, .inl (cf119, 2100, .inl g119_25)), (qf105, .inl (cf105, 8, .inl f105)), (qf137, .inl (cf137, 6, .inl g137_25))]) [8, 0, 9, 1, 2, 3, 4, 5, 6, 7] (by decide) rfl
          have hK9 := hK.sub (tys' := [(cf100, .int), (cf128, .int), (cf127, .int), (cf104, .int), (cf102, .int), (cf118, .int), (cf119, .int), (cf105, .int), (cf137, .int)]) [0, 8, 1, 2, 3, 4, 5, 6, 7] rfl
          exact W.zret hx hb hr (by decide) (fun t ht hW => ⟨⟨(1), (z_17), rfl, ⟨⟨rfl, Or.inr rfl⟩, hln_17, hrq_17, hfk_17_117, hfk_17_120, hch_17_131⟩, by rw [ht]; exact hP9, va_K.moved hW.alike hK9, hD9⟩, hS.F ht⟩) hS.2.2 dX13_wanted_953
        · rw [if_neg c_109] at hsp
          refine lv_iconst (v := 0) hx hb dX13_wanted_942 (by decide) ?_
          have hr0 := Option.some.inj hsp
          clear hsp
          obtain ⟨hq0, hr1⟩ := Prod.mk.inj hr0
          clear hr0
          obtain ⟨hq1, hr2⟩ := Prod.mk.inj hr1
          clear hr1
          obtain ⟨hq2, hr3⟩ := Prod.mk.inj hr2
          clear hr2
          obtain ⟨hq3, hr4⟩ := Prod.mk.inj hr3
          clear hr3
          obtain ⟨hq4, hr5⟩ := Prod.mk.inj hr4
          clear hr4
          obtain ⟨hq5, hr6⟩ := Prod.mk.inj hr5
          clear hr5
          obtain ⟨hq6, hr7⟩ := Prod.mk.inj hr6
          clear hr6
          obtain ⟨hq7, hr8⟩ := Prod.mk.inj hr7
          clear hr7
          subst hq0
          subst hq1
          subst hq2
          subst hq3
          subst hq4
          subst hq5
          subst hq6
          subst hq7
          subst hr8
          have hP9 := hP.sub (ws' := [(h0, .inr (13, z_17)), (qf100, .inl (cf100, 48000, .inl f100)), (qf128, .inl (cf128, 31, .inl g128_25)), (qf127, .inl (cf127, 30, .inl g127_25)), (qf104, .inl (cf104, 8, .inl f104)), (qf102, .inl (cf102, 2048, .inl f102)), (qf118, .inl (cf118, 2100, .inl g118_25)), (qf119, .inl (cf119, 2100, .inl g119_25)), (qf105, .inl (cf105, 8, .inl f105)), (qf137, .inl (cf137, 6, .inl g137_25))]) [8, 0, 9, 1, 2, 3, 4, 5, 6, 7] rfl
          have hD9 := hD.sub (ws' := [(h0, .inr (13, z_17)), (qf100, .inl (cf100, 48000, .inl f100)), (qf128, .inl (cf128, 31, .inl g128_25)), (qf127, .inl (cf127, 30, .inl g127_25)), (qf104, .inl (cf104, 8, .inl f104)), (qf102, .inl (cf102, 2048, .inl f102)), (qf118, .inl (cf118, 2100, .inl g118_25)), (qf119, .inl (cf119, 2100, .inl g119_25)), (qf105, .inl (cf105, 8, .inl f105)), (qf137, .inl (cf137, 6, .inl g137_25))]) [8, 0, 9, 1, 2, 3, 4, 5, 6, 7] (by decide) rfl
          have hK9 := hK.sub (tys' := [(cf100, .int), (cf128, .int), (cf127, .int), (cf104, .int), (cf102, .int), (cf118, .int), (cf119, .int), (cf105, .int), (cf137, .int)]) [0, 8, 1, 2, 3, 4, 5, 6, 7] rfl
          exact W.zret hx hb hr (by decide) (fun t ht hW => ⟨⟨(0), (z_17), rfl, ⟨⟨rfl, Or.inl rfl⟩, hln_17, hrq_17, hfk_17_117, hfk_17_120, hch_17_131⟩, by rw [ht]; exact hP9, va_K.moved hW.alike hK9, hD9⟩, hS.F ht⟩) hS.2.2 dX13_wanted_943
    rw [if_neg hs_106] at hsp
    by_cases hs_111 : l2_25 = 59
    · rw [if_pos hs_111] at hsp
      refine lv_tableIn (tgt := 1642) hx hb dX13_wanted_27 (by rw [hs_111]; decide) (by rw [hs_111]; decide) (off := 1615) (by rw [hs_111]; rfl) (by decide) ?_
      exact hj_1642 (H, locs, ls, z25, g118_25, g119_25, g127_25, g128_25, g137_25, x117_25, x120_25, x131_25) ⟨lv_sub hl [1] rfl, hS, hD.sub (ws' := [(h0, .inr (13, z25)), (qf100, .inl (cf100, 48000, .inl f100)), (qf128, .inl (cf128, 31, .inl g128_25)), (qf127, .inl (cf127, 30, .inl g127_25)), (qf104, .inl (cf104, 8, .inl f104)), (qf102, .inl (cf102, 2048, .inl f102)), (qf118, .inl (cf118, 2100, .inl g118_25)), (qf119, .inl (cf119, 2100, .inl g119_25)), (qf105, .inl (cf105, 8, .inl f105)), (qf137, .inl (cf137, 6, .inl g137_25))]) [0, 1, 2, 3, 4, 5, 6, 7, 8, 9] (by decide) rfl, hP.sub (ws' := [(h0, .inr (13, z25)), (qf100, .inl (cf100, 48000, .inl f100)), (qf128, .inl (cf128, 31, .inl g128_25)), (qf127, .inl (cf127, 30, .inl g127_25)), (qf104, .inl (cf104, 8, .inl f104)), (qf102, .inl (cf102, 2048, .inl f102)), (qf118, .inl (cf118, 2100, .inl g118_25)), (qf119, .inl (cf119, 2100, .inl g119_25)), (qf105, .inl (cf105, 8, .inl f105)), (qf137, .inl (cf137, 6, .inl g137_25))]) [0, 1, 2, 3, 4, 5, 6, 7, 8, 9] rfl, hfh_25_98, hfh_25_100, hfh_25_102, hfh_25_104, hfh_25_105, hfh_25_117, hfh_25_118, hfh_25_119, hfh_25_120, hfh_25_127, hfh_25_128, hfh_25_129, hfh_25_130, hfh_25_131, hfh_25_132, hfh_25_134, hfh_25_136, hfh_25_137, hlh_25, hrh_25, hsp⟩
    rw [if_neg hs_111] at hsp
    by_cases hs_112 : l2_25 = 60
    · rw [if_pos hs_112] at hsp
      refine lv_tableIn (tgt := 1642) hx hb dX13_wanted_27 (by rw [hs_112]; decide) (by rw [hs_112]; decide) (off := 1615) (by rw [hs_112]; rfl) (by decide) ?_
      exact hj_1642 (H, locs, ls, z25, g118_25, g119_25, g127_25, g128_25, g137_25, x117_25, x120_25, x131_25) ⟨lv_sub hl [1] rfl, hS, hD.sub (ws' := [(h0, .inr (13, z25)), (qf100, .inl (cf100, 48000, .inl f100)), (qf128, .inl (cf128, 31, .inl g128_25)), (qf127, .inl (cf127, 30, .inl g127_25)), (qf104, .inl (cf104, 8, .inl f104)), (qf102, .inl (cf102, 2048, .inl f102)), (qf118, .inl (cf118, 2100, .inl g118_25)), (qf119, .inl (cf119, 2100, .inl g119_25)), (qf105, .inl (cf105, 8, .inl f105)), (qf137, .inl (cf137, 6, .inl g137_25))]) [0, 1, 2, 3, 4, 5, 6, 7, 8, 9] (by decide) rfl, hP.sub (ws' := [(h0, .inr (13, z25)), (qf100, .inl (cf100, 48000, .inl f100)), (qf128, .inl (cf128, 31, .inl g128_25)), (qf127, .inl (cf127, 30, .inl g127_25)), (qf104, .inl (cf104, 8, .inl f104)), (qf102, .inl (cf102, 2048, .inl f102)), (qf118, .inl (cf118, 2100, .inl g118_25)), (qf119, .inl (cf119, 2100, .inl g119_25)), (qf105, .inl (cf105, 8, .inl f105)), (qf137, .inl (cf137, 6, .inl g137_25))]) [0, 1, 2, 3, 4, 5, 6, 7, 8, 9] rfl, hfh_25_98, hfh_25_100, hfh_25_102, hfh_25_104, hfh_25_105, hfh_25_117, hfh_25_118, hfh_25_119, hfh_25_120, hfh_25_127, hfh_25_128, hfh_25_129, hfh_25_130, hfh_25_131, hfh_25_132, hfh_25_134, hfh_25_136, hfh_25_137, hlh_25, hrh_25, hsp⟩
    rw [if_neg hs_112] at hsp
    by_cases hs_113 : l2_25 = 61
    · rw [if_pos hs_113] at hsp
      refine lv_tableIn (tgt := 1642) hx hb dX13_wanted_27 (by rw [hs_113]; decide) (by rw [hs_113]; decide) (off := 1615) (by rw [hs_113]; rfl) (by decide) ?_
      exact hj_1642 (H, locs, ls, z25, g118_25, g119_25, g127_25, g128_25, g137_25, x117_25, x120_25, x131_25) ⟨lv_sub hl [1] rfl, hS, hD.sub (ws' := [(h0, .inr (13, z25)), (qf100, .inl (cf100, 48000, .inl f100)), (qf128, .inl (cf128, 31, .inl g128_25)), (qf127, .inl (cf127, 30, .inl g127_25)), (qf104, .inl (cf104, 8, .inl f104)), (qf102, .inl (cf102, 2048, .inl f102)), (qf118, .inl (cf118, 2100, .inl g118_25)), (qf119, .inl (cf119, 2100, .inl g119_25)), (qf105, .inl (cf105, 8, .inl f105)), (qf137, .inl (cf137, 6, .inl g137_25))]) [0, 1, 2, 3, 4, 5, 6, 7, 8, 9] (by decide) rfl, hP.sub (ws' := [(h0, .inr (13, z25)), (qf100, .inl (cf100, 48000, .inl f100)), (qf128, .inl (cf128, 31, .inl g128_25)), (qf127, .inl (cf127, 30, .inl g127_25)), (qf104, .inl (cf104, 8, .inl f104)), (qf102, .inl (cf102, 2048, .inl f102)), (qf118, .inl (cf118, 2100, .inl g118_25)), (qf119, .inl (cf119, 2100, .inl g119_25)), (qf105, .inl (cf105, 8, .inl f105)), (qf137, .inl (cf137, 6, .inl g137_25))]) [0, 1, 2, 3, 4, 5, 6, 7, 8, 9] rfl, hfh_25_98, hfh_25_100, hfh_25_102, hfh_25_104, hfh_25_105, hfh_25_117, hfh_25_118, hfh_25_119, hfh_25_120, hfh_25_127, hfh_25_128, hfh_25_129, hfh_25_130, hfh_25_131, hfh_25_132, hfh_25_134, hfh_25_136, hfh_25_137, hlh_25, hrh_25, hsp⟩
    rw [if_neg hs_113] at hsp
    by_cases hs_114 : l2_25 = 62
    · rw [if_pos hs_114] at hsp
      refine lv_tableIn (tgt := 1642) hx hb dX13_wanted_27 (by rw [hs_114]; decide) (by rw [hs_114]; decide) (off := 1615) (by rw [hs_114]; rfl) (by decide) ?_
      exact hj_1642 (H, locs, ls, z25, g118_25, g119_25, g127_25, g128_25, g137_25, x117_25, x120_25, x131_25) ⟨lv_sub hl [1] rfl, hS, hD.sub (ws' := [(h0, .inr (13, z25)), (qf100, .inl (cf100, 48000, .inl f100)), (qf128, .inl (cf128, 31, .inl g128_25)), (qf127, .inl (cf127, 30, .inl g127_25)), (qf104, .inl (cf104, 8, .inl f104)), (qf102, .inl (cf102, 2048, .inl f102)), (qf118, .inl (cf118, 2100, .inl g118_25)), (qf119, .inl (cf119, 2100, .inl g119_25)), (qf105, .inl (cf105, 8, .inl f105)), (qf137, .inl (cf137, 6, .inl g137_25))]) [0, 1, 2, 3, 4, 5, 6, 7, 8, 9] (by decide) rfl, hP.sub (ws' := [(h0, .inr (13, z25)), (qf100, .inl (cf100, 48000, .inl f100)), (qf128, .inl (cf128, 31, .inl g128_25)), (qf127, .inl (cf127, 30, .inl g127_25)), (qf104, .inl (cf104, 8, .inl f104)), (qf102, .inl (cf102, 2048, .inl f102)), (qf118, .inl (cf118, 2100, .inl g118_25)), (qf119, .inl (cf119, 2100, .inl g119_25)), (qf105, .inl (cf105, 8, .inl f105)), (qf137, .inl (cf137, 6, .inl g137_25))]) [0, 1, 2, 3, 4, 5, 6, 7, 8, 9] rfl, hfh_25_98, hfh_25_100, hfh_25_102, hfh_25_104, hfh_25_105, hfh_25_117, hfh_25_118, hfh_25_119, hfh_25_120, hfh_25_127, hfh_25_128, hfh_25_129, hfh_25_130, hfh_25_131, hfh_25_132, hfh_25_134, hfh_25_136, hfh_25_137, hlh_25, hrh_25, hsp⟩
    rw [if_neg hs_114] at hsp
    by_cases hs_115 : l2_25 = 63
    · rw [if_pos hs_115] at hsp
      refine lv_tableIn (tgt := 1642) hx hb dX13_wanted_27 (by rw [hs_115]; decide) (by rw [hs_115]; decide) (off := 1615) (by rw [hs_115]; rfl) (by decide) ?_
      exact hj_1642 (H, locs, ls, z25, g118_25, g119_25, g127_25, g128_25, g137_25, x117_25, x120_25, x131_25) ⟨lv_sub hl [1] rfl, hS, hD.sub (ws' := [(h0, .inr (13, z25)), (qf100, .inl (cf100, 48000, .inl f100)), (qf128, .inl (cf128, 31, .inl g128_25)), (qf127, .inl (cf127, 30, .inl g127_25)), (qf104, .inl (cf104, 8, .inl f104)), (qf102, .inl (cf102, 2048, .inl f102)), (qf118, .inl (cf118, 2100, .inl g118_25)), (qf119, .inl (cf119, 2100, .inl g119_25)), (qf105, .inl (cf105, 8, .inl f105)), (qf137, .inl (cf137, 6, .inl g137_25))]) [0, 1, 2, 3, 4, 5, 6, 7, 8, 9] (by decide) rfl, hP.sub (ws' := [(h0, .inr (13, z25)), (qf100, .inl (cf100, 48000, .inl f100)), (qf128, .inl (cf128, 31, .inl g128_25)), (qf127, .inl (cf127, 30, .inl g127_25)), (qf104, .inl (cf104, 8, .inl f104)), (qf102, .inl (cf102, 2048, .inl f102)), (qf118, .inl (cf118, 2100, .inl g118_25)), (qf119, .inl (cf119, 2100, .inl g119_25)), (qf105, .inl (cf105, 8, .inl f105)), (qf137, .inl (cf137, 6, .inl g137_25))]) [0, 1, 2, 3, 4, 5, 6, 7, 8, 9] rfl, hfh_25_98, hfh_25_100, hfh_25_102, hfh_25_104, hfh_25_105, hfh_25_117, hfh_25_118, hfh_25_119, hfh_25_120, hfh_25_127, hfh_25_128, hfh_25_129, hfh_25_130, hfh_25_131, hfh_25_132, hfh_25_134, hfh_25_136, hfh_25_137, hlh_25, hrh_25, hsp⟩
    rw [if_neg hs_115] at hsp
    by_cases hs_116 : l2_25 = 64
    · rw [if_pos hs_116] at hsp
      refine lv_tableIn (tgt := 1642) hx hb dX13_wanted_27 (by rw [hs_116]; decide) (by rw [hs_116]; decide) (off := 1615) (by rw [hs_116]; rfl) (by decide) ?_
      exact hj_1642 (H, locs, ls, z25, g118_25, g119_25, g127_25, g128_25, g137_25, x117_25, x120_25, x131_25) ⟨lv_sub hl [1] rfl, hS, hD.sub (ws' := [(h0, .inr (13, z25)), (qf100, .inl (cf100, 48000, .inl f100)), (qf128, .inl (cf128, 31, .inl g128_25)), (qf127, .inl (cf127, 30, .inl g127_25)), (qf104, .inl (cf104, 8, .inl f104)), (qf102, .inl (cf102, 2048, .inl f102)), (qf118, .inl (cf118, 2100, .inl g118_25)), (qf119, .inl (cf119, 2100, .inl g119_25)), (qf105, .inl (cf105, 8, .inl f105)), (qf137, .inl (cf137, 6, .inl g137_25))]) [0, 1, 2, 3, 4, 5, 6, 7, 8, 9] (by decide) rfl, hP.sub (ws' := [(h0, .inr (13, z25)), (qf100, .inl (cf100, 48000, .inl f100)), (qf128, .inl (cf128, 31, .inl g128_25)), (qf127, .inl (cf127, 30, .inl g127_25)), (qf104, .inl (cf104, 8, .inl f104)), (qf102, .inl (cf102, 2048, .inl f102)), (qf118, .inl (cf118, 2100, .inl g118_25)), (qf119, .inl (cf119, 2100, .inl g119_25)), (qf105, .inl (cf105, 8, .inl f105)), (qf137, .inl (cf137, 6, .inl g137_25))]) [0, 1, 2, 3, 4, 5, 6, 7, 8, 9] rfl, hfh_25_98, hfh_25_100, hfh_25_102, hfh_25_104, hfh_25_105, hfh_25_117, hfh_25_118, hfh_25_119, hfh_25_120, hfh_25_127, hfh_25_128, hfh_25_129, hfh_25_130, hfh_25_131, hfh_25_132, hfh_25_134, hfh_25_136, hfh_25_137, hlh_25, hrh_25, hsp⟩
    rw [if_neg hs_116] at hsp
    by_cases hs_117 : l2_25 = 65
    · rw [if_pos hs_117] at hsp
      refine lv_tableIn (tgt := 1642) hx hb dX13_wanted_27 (by rw [hs_117]; decide) (by rw [hs_117]; decide) (off := 1615) (by rw [hs_117]; rfl) (by decide) ?_
      exact hj_1642 (H, locs, ls, z25, g118_25, g119_25, g127_25, g128_25, g137_25, x117_25, x120_25, x131_25) ⟨lv_sub hl [1] rfl, hS, hD.sub (ws' := [(h0, .inr (13, z25)), (qf100, .inl (cf100, 48000, .inl f100)), (qf128, .inl (cf128, 31, .inl g128_25)), (qf127, .inl (cf127, 30, .inl g127_25)), (qf104, .inl (cf104, 8, .inl f104)), (qf102, .inl (cf102, 2048, .inl f102)), (qf118, .inl (cf118, 2100, .inl g118_25)), (qf119, .inl (cf119, 2100, .inl g119_25)), (qf105, .inl (cf105, 8, .inl f105)), (qf137, .inl (cf137, 6, .inl g137_25))]) [0, 1, 2, 3, 4, 5, 6, 7, 8, 9] (by decide) rfl, hP.sub (ws' := [(h0, .inr (13, z25)), (qf100, .inl (cf100, 48000, .inl f100)), (qf128, .inl (cf128, 31, .inl g128_25)), (qf127, .inl (cf127, 30, .inl g127_25)), (qf104, .inl (cf104, 8, .inl f104)), (qf102, .inl (cf102, 2048, .inl f102)), (qf118, .inl (cf118, 2100, .inl g118_25)), (qf119, .inl (cf119, 2100, .inl g119_25)), (qf105, .inl (cf105, 8, .inl f105)), (qf137, .inl (cf137, 6, .inl g137_25))]) [0, 1, 2, 3, 4, 5, 6, 7, 8, 9] rfl, hfh_25_98, hfh_25_100, hfh_25_102, hfh_25_104, hfh_25_105, hfh_25_117, hfh_25_118, hfh_25_119, hfh_25_120, hfh_25_127, hfh_25_128, hfh_25_129, hfh_25_130, hfh_25_131, hfh_25_132, hfh_25_134, hfh_25_136, hfh_25_137, hlh_25, hrh_25, hsp⟩
    rw [if_neg hs_117] at hsp
    by_cases hs_118 : l2_25 = 66
    · rw [if_pos hs_118] at hsp
      refine lv_tableIn (tgt := 1642) hx hb dX13_wanted_27 (by rw [hs_118]; decide) (by rw [hs_118]; decide) (off := 1615) (by rw [hs_118]; rfl) (by decide) ?_
      exact hj_1642 (H, locs, ls, z25, g118_25, g119_25, g127_25, g128_25, g137_25, x117_25, x120_25, x131_25) ⟨lv_sub hl [1] rfl, hS, hD.sub (ws' := [(h0, .inr (13, z25)), (qf100, .inl (cf100, 48000, .inl f100)), (qf128, .inl (cf128, 31, .inl g128_25)), (qf127, .inl (cf127, 30, .inl g127_25)), (qf104, .inl (cf104, 8, .inl f104)), (qf102, .inl (cf102, 2048, .inl f102)), (qf118, .inl (cf118, 2100, .inl g118_25)), (qf119, .inl (cf119, 2100, .inl g119_25)), (qf105, .inl (cf105, 8, .inl f105)), (qf137, .inl (cf137, 6, .inl g137_25))]) [0, 1, 2, 3, 4, 5, 6, 7, 8, 9] (by decide) rfl, hP.sub (ws' := [(h0, .inr (13, z25)), (qf100, .inl (cf100, 48000, .inl f100)), (qf128, .inl (cf128, 31, .inl g128_25)), (qf127, .inl (cf127, 30, .inl g127_25)), (qf104, .inl (cf104, 8, .inl f104)), (qf102, .inl (cf102, 2048, .inl f102)), (qf118, .inl (cf118, 2100, .inl g118_25)), (qf119, .inl (cf119, 2100, .inl g119_25)), (qf105, .inl (cf105, 8, .inl f105)), (qf137, .inl (cf137, 6, .inl g137_25))]) [0, 1, 2, 3, 4, 5, 6, 7, 8, 9] rfl, hfh_25_98, hfh_25_100, hfh_25_102, hfh_25_104, hfh_25_105, hfh_25_117, hfh_25_118, hfh_25_119, hfh_25_120, hfh_25_127, hfh_25_128, hfh_25_129, hfh_25_130, hfh_25_131, hfh_25_132, hfh_25_134, hfh_25_136, hfh_25_137, hlh_25, hrh_25, hsp⟩
    rw [if_neg hs_118] at hsp
    by_cases hs_119 : l2_25 = 67
    · rw [if_pos hs_119] at hsp
      refine lv_tableIn (tgt := 1642) hx hb dX13_wanted_27 (by rw [hs_119]; decide) (by rw [hs_119]; decide) (off := 1615) (by rw [hs_119]; rfl) (by decide) ?_
      exact hj_1642 (H, locs, ls, z25, g118_25, g119_25, g127_25, g128_25, g137_25, x117_25, x120_25, x131_25) ⟨lv_sub hl [1] rfl, hS, hD.sub (ws' := [(h0, .inr (13, z25)), (qf100, .inl (cf100, 48000, .inl f100)), (qf128, .inl (cf128, 31, .inl g128_25)), (qf127, .inl (cf127, 30, .inl g127_25)), (qf104, .inl (cf104, 8, .inl f104)), (qf102, .inl (cf102, 2048, .inl f102)), (qf118, .inl (cf118, 2100, .inl g118_25)), (qf119, .inl (cf119, 2100, .inl g119_25)), (qf105, .inl (cf105, 8, .inl f105)), (qf137, .inl (cf137, 6, .inl g137_25))]) [0, 1, 2, 3, 4, 5, 6, 7, 8, 9] (by decide) rfl, hP.sub (ws' := [(h0, .inr (13, z25)), (qf100, .inl (cf100, 48000, .inl f100)), (qf128, .inl (cf128, 31, .inl g128_25)), (qf127, .inl (cf127, 30, .inl g127_25)), (qf104, .inl (cf104, 8, .inl f104)), (qf102, .inl (cf102, 2048, .inl f102)), (qf118, .inl (cf118, 2100, .inl g118_25)), (qf119, .inl (cf119, 2100, .inl g119_25)), (qf105, .inl (cf105, 8, .inl f105)), (qf137, .inl (cf137, 6, .inl g137_25))]) [0, 1, 2, 3, 4, 5, 6, 7, 8, 9] rfl, hfh_25_98, hfh_25_100, hfh_25_102, hfh_25_104, hfh_25_105, hfh_25_117, hfh_25_118, hfh_25_119, hfh_25_120, hfh_25_127, hfh_25_128, hfh_25_129, hfh_25_130, hfh_25_131, hfh_25_132, hfh_25_134, hfh_25_136, hfh_25_137, hlh_25, hrh_25, hsp⟩
    rw [if_neg hs_119] at hsp
    by_cases hs_120 : l2_25 = 68
    · rw [if_pos hs_120] at hsp
      refine lv_tableIn (tgt := 1642) hx hb dX13_wanted_27 (by rw [hs_120]; decide) (by rw [hs_120]; decide) (off := 1615) (by rw [hs_120]; rfl) (by decide) ?_
      exact hj_1642 (H, locs, ls, z25, g118_25, g119_25, g127_25, g128_25, g137_25, x117_25, x120_25, x131_25) ⟨lv_sub hl [1] rfl, hS, hD.sub (ws' := [(h0, .inr (13, z25)), (qf100, .inl (cf100, 48000, .inl f100)), (qf128, .inl (cf128, 31, .inl g128_25)), (qf127, .inl (cf127, 30, .inl g127_25)), (qf104, .inl (cf104, 8, .inl f104)), (qf102, .inl (cf102, 2048, .inl f102)), (qf118, .inl (cf118, 2100, .inl g118_25)), (qf119, .inl (cf119, 2100, .inl g119_25)), (qf105, .inl (cf105, 8, .inl f105)), (qf137, .inl (cf137, 6, .inl g137_25))]) [0, 1, 2, 3, 4, 5, 6, 7, 8, 9] (by decide) rfl, hP.sub (ws' := [(h0, .inr (13, z25)), (qf100, .inl (cf100, 48000, .inl f100)), (qf128, .inl (cf128, 31, .inl g128_25)), (qf127, .inl (cf127, 30, .inl g127_25)), (qf104, .inl (cf104, 8, .inl f104)), (qf102, .inl (cf102, 2048, .inl f102)), (qf118, .inl (cf118, 2100, .inl g118_25)), (qf119, .inl (cf119, 2100, .inl g119_25)), (qf105, .inl (cf105, 8, .inl f105)), (qf137, .inl (cf137, 6, .inl g137_25))]) [0, 1, 2, 3, 4, 5, 6, 7, 8, 9] rfl, hfh_25_98, hfh_25_100, hfh_25_102, hfh_25_104, hfh_25_105, hfh_25_117, hfh_25_118, hfh_25_119, hfh_25_120, hfh_25_127, hfh_25_128, hfh_25_129, hfh_25_130, hfh_25_131, hfh_25_132, hfh_25_134, hfh_25_136, hfh_25_137, hlh_25, hrh_25, hsp⟩
    rw [if_neg hs_120] at hsp
    by_cases hs_121 : l2_25 = 69
    · rw [if_pos hs_121] at hsp
      refine lv_tableIn (tgt := 1642) hx hb dX13_wanted_27 (by rw [hs_121]; decide) (by rw [hs_121]; decide) (off := 1615) (by rw [hs_121]; rfl) (by decide) ?_
      exact hj_1642 (H, locs, ls, z25, g118_25, g119_25, g127_25, g128_25, g137_25, x117_25, x120_25, x131_25) ⟨lv_sub hl [1] rfl, hS, hD.sub (ws' := [(h0, .inr (13, z25)), (qf100, .inl (cf100, 48000, .inl f100)), (qf128, .inl (cf128, 31, .inl g128_25)), (qf127, .inl (cf127, 30, .inl g127_25)), (qf104, .inl (cf104, 8, .inl f104)), (qf102, .inl (cf102, 2048, .inl f102)), (qf118, .inl (cf118, 2100, .inl g118_25)), (qf119, .inl (cf119, 2100, .inl g119_25)), (qf105, .inl (cf105, 8, .inl f105)), (qf137, .inl (cf137, 6, .inl g137_25))]) [0, 1, 2, 3, 4, 5, 6, 7, 8, 9] (by decide) rfl, hP.sub (ws' := [(h0, .inr (13, z25)), (qf100, .inl (cf100, 48000, .inl f100)), (qf128, .inl (cf128, 31, .inl g128_25)), (qf127, .inl (cf127, 30, .inl g127_25)), (qf104, .inl (cf104, 8, .inl f104)), (qf102, .inl (cf102, 2048, .inl f102)), (qf118, .inl (cf118, 2100, .inl g118_25)), (qf119, .inl (cf119, 2100, .inl g119_25)), (qf105, .inl (cf105, 8, .inl f105)), (qf137, .inl (cf137, 6, .inl g137_25))]) [0, 1, 2, 3, 4, 5, 6, 7, 8, 9] rfl, hfh_25_98, hfh_25_100, hfh_25_102, hfh_25_104, hfh_25_105, hfh_25_117, hfh_25_118, hfh_25_119, hfh_25_120, hfh_25_127, hfh_25_128, hfh_25_129, hfh_25_130, hfh_25_131, hfh_25_132, hfh_25_134, hfh_25_136, hfh_25_137, hlh_25, hrh_25, hsp⟩
    rw [if_neg hs_121] at hsp
    by_cases hs_122 : l2_25 = 70
    · rw [if_pos hs_122] at hsp
      refine lv_tableIn (tgt := 1642) hx hb dX13_wanted_27 (by rw [hs_122]; decide) (by rw [hs_122]; decide) (off := 1615) (by rw [hs_122]; rfl) (by decide) ?_
      exact hj_1642 (H, locs, ls, z25, g118_25, g119_25, g127_25, g128_25, g137_25, x117_25, x120_25, x131_25) ⟨lv_sub hl [1] rfl, hS, hD.sub (ws' := [(h0, .inr (13, z25)), (qf100, .inl (cf100, 48000, .inl f100)), (qf128, .inl (cf128, 31, .inl g128_25)), (qf127, .inl (cf127, 30, .inl g127_25)), (qf104, .inl (cf104, 8, .inl f104)), (qf102, .inl (cf102, 2048, .inl f102)), (qf118, .inl (cf118, 2100, .inl g118_25)), (qf119, .inl (cf119, 2100, .inl g119_25)), (qf105, .inl (cf105, 8, .inl f105)), (qf137, .inl (cf137, 6, .inl g137_25))]) [0, 1, 2, 3, 4, 5, 6, 7, 8, 9] (by decide) rfl, hP.sub (ws' := [(h0, .inr (13, z25)), (qf100, .inl (cf100, 48000, .inl f100)), (qf128, .inl (cf128, 31, .inl g128_25)), (qf127, .inl (cf127, 30, .inl g127_25)), (qf104, .inl (cf104, 8, .inl f104)), (qf102, .inl (cf102, 2048, .inl f102)), (qf118, .inl (cf118, 2100, .inl g118_25)), (qf119, .inl (cf119, 2100, .inl g119_25)), (qf105, .inl (cf105, 8, .inl f105)), (qf137, .inl (cf137, 6, .inl g137_25))]) [0, 1, 2, 3, 4, 5, 6, 7, 8, 9] rfl, hfh_25_98, hfh_25_100, hfh_25_102, hfh_25_104, hfh_25_105, hfh_25_117, hfh_25_118, hfh_25_119, hfh_25_120, hfh_25_127, hfh_25_128, hfh_25_129, hfh_25_130, hfh_25_131, hfh_25_132, hfh_25_134, hfh_25_136, hfh_25_137, hlh_25, hrh_25, hsp⟩
    rw [if_neg hs_122] at hsp
    by_cases hs_123 : l2_25 = 71
    · rw [if_pos hs_123] at hsp
      refine lv_tableIn (tgt := 1642) hx hb dX13_wanted_27 (by rw [hs_123]; decide) (by rw [hs_123]; decide) (off := 1615) (by rw [hs_123]; rfl) (by decide) ?_
      exact hj_1642 (H, locs, ls, z25, g118_25, g119_25, g127_25, g128_25, g137_25, x117_25, x120_25, x131_25) ⟨lv_sub hl [1] rfl, hS, hD.sub (ws' := [(h0, .inr (13, z25)), (qf100, .inl (cf100, 48000, .inl f100)), (qf128, .inl (cf128, 31, .inl g128_25)), (qf127, .inl (cf127, 30, .inl g127_25)), (qf104, .inl (cf104, 8, .inl f104)), (qf102, .inl (cf102, 2048, .inl f102)), (qf118, .inl (cf118, 2100, .inl g118_25)), (qf119, .inl (cf119, 2100, .inl g119_25)), (qf105, .inl (cf105, 8, .inl f105)), (qf137, .inl (cf137, 6, .inl g137_25))]) [0, 1, 2, 3, 4, 5, 6, 7, 8, 9] (by decide) rfl, hP.sub (ws' := [(h0, .inr (13, z25)), (qf100, .inl (cf100, 48000, .inl f100)), (qf128, .inl (cf128, 31, .inl g128_25)), (qf127, .inl (cf127, 30, .inl g127_25)), (qf104, .inl (cf104, 8, .inl f104)), (qf102, .inl (cf102, 2048, .inl f102)), (qf118, .inl (cf118, 2100, .inl g118_25)), (qf119, .inl (cf119, 2100, .inl g119_25)), (qf105, .inl (cf105, 8, .inl f105)), (qf137, .inl (cf137, 6, .inl g137_25))]) [0, 1, 2, 3, 4, 5, 6, 7, 8, 9] rfl, hfh_25_98, hfh_25_100, hfh_25_102, hfh_25_104, hfh_25_105, hfh_25_117, hfh_25_118, hfh_25_119, hfh_25_120, hfh_25_127, hfh_25_128, hfh_25_129, hfh_25_130, hfh_25_131, hfh_25_132, hfh_25_134, hfh_25_136, hfh_25_137, hlh_25, hrh_25, hsp⟩
    rw [if_neg hs_123] at hsp
    by_cases hs_124 : l2_25 = 72
    · rw [if_pos hs_124] at hsp
      refine lv_tableIn (tgt := 1642) hx hb dX13_wanted_27 (by rw [hs_124]; decide) (by rw [hs_124]; decide) (off := 1615) (by rw [hs_124]; rfl) (by decide) ?_
      exact hj_1642 (H, locs, ls, z25, g118_25, g119_25, g127_25, g128_25, g137_25, x117_25, x120_25, x131_25) ⟨lv_sub hl [1] rfl, hS, hD.sub (ws' := [(h0, .inr (13, z25)), (qf100, .inl (cf100, 48000, .inl f100)), (qf128, .inl (cf128, 31, .inl g128_25)), (qf127, .inl (cf127, 30, .inl g127_25)), (qf104, .inl (cf104, 8, .inl f104)), (qf102, .inl (cf102, 2048, .inl f102)), (qf118, .inl (cf118, 2100, .inl g118_25)), (qf119, .inl (cf119, 2100, .inl g119_25)), (qf105, .inl (cf105, 8, .inl f105)), (qf137, .inl (cf137, 6, .inl g137_25))]) [0, 1, 2, 3, 4, 5, 6, 7, 8, 9] (by decide) rfl, hP.sub (ws' := [(h0, .inr (13, z25)), (qf100, .inl (cf100, 48000, .inl f100)), (qf128, .inl (cf128, 31, .inl g128_25)), (qf127, .inl (cf127, 30, .inl g127_25)), (qf104, .inl (cf104, 8, .inl f104)), (qf102, .inl (cf102, 2048, .inl f102)), (qf118, .inl (cf118, 2100, .inl g118_25)), (qf119, .inl (cf119, 2100, .inl g119_25)), (qf105, .inl (cf105, 8, .inl f105)), (qf137, .inl (cf137, 6, .inl g137_25))]) [0, 1, 2, 3, 4, 5, 6, 7, 8, 9] rfl, hfh_25_98, hfh_25_100, hfh_25_102, hfh_25_104, hfh_25_105, hfh_25_117, hfh_25_118, hfh_25_119, hfh_25_120, hfh_25_127, hfh_25_128, hfh_25_129, hfh_25_130, hfh_25_131, hfh_25_132, hfh_25_134, hfh_25_136, hfh_25_137, hlh_25, hrh_25, hsp⟩
    rw [if_neg hs_124] at hsp
    by_cases hs_125 : l2_25 = 73
    · rw [if_pos hs_125] at hsp
      refine lv_tableIn (tgt := 1642) hx hb dX13_wanted_27 (by rw [hs_125]; decide) (by rw [hs_125]; decide) (off := 1615) (by rw [hs_125]; rfl) (by decide) ?_
      exact hj_1642 (H, locs, ls, z25, g118_25, g119_25, g127_25, g128_25, g137_25, x117_25, x120_25, x131_25) ⟨lv_sub hl [1] rfl, hS, hD.sub (ws' := [(h0, .inr (13, z25)), (qf100, .inl (cf100, 48000, .inl f100)), (qf128, .inl (cf128, 31, .inl g128_25)), (qf127, .inl (cf127, 30, .inl g127_25)), (qf104, .inl (cf104, 8, .inl f104)), (qf102, .inl (cf102, 2048, .inl f102)), (qf118, .inl (cf118, 2100, .inl g118_25)), (qf119, .inl (cf119, 2100, .inl g119_25)), (qf105, .inl (cf105, 8, .inl f105)), (qf137, .inl (cf137, 6, .inl g137_25))]) [0, 1, 2, 3, 4, 5, 6, 7, 8, 9] (by decide) rfl, hP.sub (ws' := [(h0, .inr (13, z25)), (qf100, .inl (cf100, 48000, .inl f100)), (qf128, .inl (cf128, 31, .inl g128_25)), (qf127, .inl (cf127, 30, .inl g127_25)), (qf104, .inl (cf104, 8, .inl f104)), (qf102, .inl (cf102, 2048, .inl f102)), (qf118, .inl (cf118, 2100, .inl g118_25)), (qf119, .inl (cf119, 2100, .inl g119_25)), (qf105, .inl (cf105, 8, .inl f105)), (qf137, .inl (cf137, 6, .inl g137_25))]) [0, 1, 2, 3, 4, 5, 6, 7, 8, 9] rfl, hfh_25_98, hfh_25_100, hfh_25_102, hfh_25_104, hfh_25_105, hfh_25_117, hfh_25_118, hfh_25_119, hfh_25_120, hfh_25_127, hfh_25_128, hfh_25_129, hfh_25_130, hfh_25_131, hfh_25_132, hfh_25_134, hfh_25_136, hfh_25_137, hlh_25, hrh_25, hsp⟩
    rw [if_neg hs_125] at hsp
    by_cases hs_126 : l2_25 = 74
    · rw [if_pos hs_126] at hsp
      refine lv_tableIn (tgt := 1642) hx hb dX13_wanted_27 (by rw [hs_126]; decide) (by rw [hs_126]; decide) (off := 1615) (by rw [hs_126]; rfl) (by decide) ?_
      exact hj_1642 (H, locs, ls, z25, g118_25, g119_25, g127_25, g128_25, g137_25, x117_25, x120_25, x131_25) ⟨lv_sub hl [1] rfl, hS, hD.sub (ws' := [(h0, .inr (13, z25)), (qf100, .inl (cf100, 48000, .inl f100)), (qf128, .inl (cf128, 31, .inl g128_25)), (qf127, .inl (cf127, 30, .inl g127_25)), (qf104, .inl (cf104, 8, .inl f104)), (qf102, .inl (cf102, 2048, .inl f102)), (qf118, .inl (cf118, 2100, .inl g118_25)), (qf119, .inl (cf119, 2100, .inl g119_25)), (qf105, .inl (cf105, 8, .inl f105)), (qf137, .inl (cf137, 6, .inl g137_25))]) [0, 1, 2, 3, 4, 5, 6, 7, 8, 9] (by decide) rfl, hP.sub (ws' := [(h0, .inr (13, z25)), (qf100, .inl (cf100, 48000, .inl f100)), (qf128, .inl (cf128, 31, .inl g128_25)), (qf127, .inl (cf127, 30, .inl g127_25)), (qf104, .inl (cf104, 8, .inl f104)), (qf102, .inl (cf102, 2048, .inl f102)), (qf118, .inl (cf118, 2100, .inl g118_25)), (qf119, .inl (cf119, 2100, .inl g119_25)), (qf105, .inl (cf105, 8, .inl f105)), (qf137, .inl (cf137, 6, .inl g137_25))]) [0, 1, 2, 3, 4, 5, 6, 7, 8, 9] rfl, hfh_25_98, hfh_25_100, hfh_25_102, hfh_25_104, hfh_25_105, hfh_25_117, hfh_25_118, hfh_25_119, hfh_25_120, hfh_25_127, hfh_25_128, hfh_25_129, hfh_25_130, hfh_25_131, hfh_25_132, hfh_25_134, hfh_25_136, hfh_25_137, hlh_25, hrh_25, hsp⟩
    rw [if_neg hs_126] at hsp
    by_cases hs_127 : l2_25 = 75
    · rw [if_pos hs_127] at hsp
      refine lv_tableIn (tgt := 1642) hx hb dX13_wanted_27 (by rw [hs_127]; decide) (by rw [hs_127]; decide) (off := 1615) (by rw [hs_127]; rfl) (by decide) ?_
      exact hj_1642 (H, locs, ls, z25, g118_25, g119_25, g127_25, g128_25, g137_25, x117_25, x120_25, x131_25) ⟨lv_sub hl [1] rfl, hS, hD.sub (ws' := [(h0, .inr (13, z25)), (qf100, .inl (cf100, 48000, .inl f100)), (qf128, .inl (cf128, 31, .inl g128_25)), (qf127, .inl (cf127, 30, .inl g127_25)), (qf104, .inl (cf104, 8, .inl f104)), (qf102, .inl (cf102, 2048, .inl f102)), (qf118, .inl (cf118, 2100, .inl g118_25)), (qf119, .inl (cf119, 2100, .inl g119_25)), (qf105, .inl (cf105, 8, .inl f105)), (qf137, .inl (cf137, 6, .inl g137_25))]) [0, 1, 2, 3, 4, 5, 6, 7, 8, 9] (by decide) rfl, hP.sub (ws' := [(h0, .inr (13, z25)), (qf100, .inl (cf100, 48000, .inl f100)), (qf128, .inl (cf128, 31, .inl g128_25)), (qf127, .inl (cf127, 30, .inl g127_25)), (qf104, .inl (cf104, 8, .inl f104)), (qf102, .inl (cf102, 2048, .inl f102)), (qf118, .inl (cf118, 2100, .inl g118_25)), (qf119, .inl (cf119, 2100, .inl g119_25)), (qf105, .inl (cf105, 8, .inl f105)), (qf137, .inl (cf137, 6, .inl g137_25))]) [0, 1, 2, 3, 4, 5, 6, 7, 8, 9] rfl, hfh_25_98, hfh_25_100, hfh_25_102, hfh_25_104, hfh_25_105, hfh_25_117, hfh_25_118, hfh_25_119, hfh_25_120, hfh_25_127, hfh_25_128, hfh_25_129, hfh_25_130, hfh_25_131, hfh_25_132, hfh_25_134, hfh_25_136, hfh_25_137, hlh_25, hrh_25, hsp⟩
    rw [if_neg hs_127] at hsp
    by_cases hs_128 : l2_25 = 76
    · rw [if_pos hs_128] at hsp
      refine lv_tableIn (tgt := 1642) hx hb dX13_wanted_27 (by rw [hs_128]; decide) (by rw [hs_128]; decide) (off := 1615) (by rw [hs_128]; rfl) (by decide) ?_
      exact hj_1642 (H, locs, ls, z25, g118_25, g119_25, g127_25, g128_25, g137_25, x117_25, x120_25, x131_25) ⟨lv_sub hl [1] rfl, hS, hD.sub (ws' := [(h0, .inr (13, z25)), (qf100, .inl (cf100, 48000, .inl f100)), (qf128, .inl (cf128, 31, .inl g128_25)), (qf127, .inl (cf127, 30, .inl g127_25)), (qf104, .inl (cf104, 8, .inl f104)), (qf102, .inl (cf102, 2048, .inl f102)), (qf118, .inl (cf118, 2100, .inl g118_25)), (qf119, .inl (cf119, 2100, .inl g119_25)), (qf105, .inl (cf105, 8, .inl f105)), (qf137, .inl (cf137, 6, .inl g137_25))]) [0, 1, 2, 3, 4, 5, 6, 7, 8, 9] (by decide) rfl, hP.sub (ws' := [(h0, .inr (13, z25)), (qf100, .inl (cf100, 48000, .inl f100)), (qf128, .inl (cf128, 31, .inl g128_25)), (qf127, .inl (cf127, 30, .inl g127_25)), (qf104, .inl (cf104, 8, .inl f104)), (qf102, .inl (cf102, 2048, .inl f102)), (qf118, .inl (cf118, 2100, .inl g118_25)), (qf119, .inl (cf119, 2100, .inl g119_25)), (qf105, .inl (cf105, 8, .inl f105)), (qf137, .inl (cf137, 6, .inl g137_25))]) [0, 1, 2, 3, 4, 5, 6, 7, 8, 9] rfl, hfh_25_98, hfh_25_100, hfh_25_102, hfh_25_104, hfh_25_105, hfh_25_117, hfh_25_118, hfh_25_119, hfh_25_120, hfh_25_127, hfh_25_128, hfh_25_129, hfh_25_130, hfh_25_131, hfh_25_132, hfh_25_134, hfh_25_136, hfh_25_137, hlh_25, hrh_25, hsp⟩
    rw [if_neg hs_128] at hsp
    by_cases hs_129 : l2_25 = 77
    · rw [if_pos hs_129] at hsp
      refine lv_tableIn (tgt := 1642) hx hb dX13_wanted_27 (by rw [hs_129]; decide) (by rw [hs_129]; decide) (off := 1615) (by rw [hs_129]; rfl) (by decide) ?_
      exact hj_1642 (H, locs, ls, z25, g118_25, g119_25, g127_25, g128_25, g137_25, x117_25, x120_25, x131_25) ⟨lv_sub hl [1] rfl, hS, hD.sub (ws' := [(h0, .inr (13, z25)), (qf100, .inl (cf100, 48000, .inl f100)), (qf128, .inl (cf128, 31, .inl g128_25)), (qf127, .inl (cf127, 30, .inl g127_25)), (qf104, .inl (cf104, 8, .inl f104)), (qf102, .inl (cf102, 2048, .inl f102)), (qf118, .inl (cf118, 2100, .inl g118_25)), (qf119, .inl (cf119, 2100, .inl g119_25)), (qf105, .inl (cf105, 8, .inl f105)), (qf137, .inl (cf137, 6, .inl g137_25))]) [0, 1, 2, 3, 4, 5, 6, 7, 8, 9] (by decide) rfl, hP.sub (ws' := [(h0, .inr (13, z25)), (qf100, .inl (cf100, 48000, .inl f100)), (qf128, .inl (cf128, 31, .inl g128_25)), (qf127, .inl (cf127, 30, .inl g127_25)), (qf104, .inl (cf104, 8, .inl f104)), (qf102, .inl (cf102, 2048, .inl f102)), (qf118, .inl (cf118, 2100, .inl g118_25)), (qf119, .inl (cf119, 2100, .inl g119_25)), (qf105, .inl (cf105, 8, .inl f105)), (qf137, .inl (cf137, 6, .inl g137_25))]) [0, 1, 2, 3, 4, 5, 6, 7, 8, 9] rfl, hfh_25_98, hfh_25_100, hfh_25_102, hfh_25_104, hfh_25_105, hfh_25_117, hfh_25_118, hfh_25_119, hfh_25_120, hfh_25_127, hfh_25_128, hfh_25_129, hfh_25_130, hfh_25_131, hfh_25_132, hfh_25_134, hfh_25_136, hfh_25_137, hlh_25, hrh_25, hsp⟩
    rw [if_neg hs_129] at hsp
    by_cases hs_130 : l2_25 = 78
    · rw [if_pos hs_130] at hsp
      refine lv_tableIn (tgt := 1642) hx hb dX13_wanted_27 (by rw [hs_130]; decide) (by rw [hs_130]; decide) (off := 1615) (by rw [hs_130]; rfl) (by decide) ?_
      exact hj_1642 (H, locs, ls, z25, g118_25, g119_25, g127_25, g128_25, g137_25, x117_25, x120_25, x131_25) ⟨lv_sub hl [1] rfl, hS, hD.sub (ws' := [(h0, .inr (13, z25)), (qf100, .inl (cf100, 48000, .inl f100)), (qf128, .inl (cf128, 31, .inl g128_25)), (qf127, .inl (cf127, 30, .inl g127_25)), (qf104, .inl (cf104, 8, .inl f104)), (qf102, .inl (cf102, 2048, .inl f102)), (qf118, .inl (cf118, 2100, .inl g118_25)), (qf119, .inl (cf119, 2100, .inl g119_25)), (qf105, .inl (cf105, 8, .inl f105)), (qf137, .inl (cf137, 6, .inl g137_25))]) [0, 1, 2, 3, 4, 5, 6, 7, 8, 9] (by decide) rfl, hP.sub (ws' := [(h0, .inr (13, z25)), (qf100, .inl (cf100, 48000, .inl f100)), (qf128, .inl (cf128, 31, .inl g128_25)), (qf127, .inl (cf127, 30, .inl g127_25)), (qf104, .inl (cf104, 8, .inl f104)), (qf102, .inl (cf102, 2048, .inl f102)), (qf118, .inl (cf118, 2100, .inl g118_25)), (qf119, .inl (cf119, 2100, .inl g119_25)), (qf105, .inl (cf105, 8, .inl f105)), (qf137, .inl (cf137, 6, .inl g137_25))]) [0, 1, 2, 3, 4, 5, 6, 7, 8, 9] rfl, hfh_25_98, hfh_25_100, hfh_25_102, hfh_25_104, hfh_25_105, hfh_25_117, hfh_25_118, hfh_25_119, hfh_25_120, hfh_25_127, hfh_25_128, hfh_25_129, hfh_25_130, hfh_25_131, hfh_25_132, hfh_25_134, hfh_25_136, hfh_25_137, hlh_25, hrh_25, hsp⟩
    rw [if_neg hs_130] at hsp
    by_cases hs_131 : l2_25 = 79
    · rw [if_pos hs_131] at hsp
      refine lv_tableIn (tgt := 1055) hx hb dX13_wanted_27 (by rw [hs_131]; decide) (by rw [hs_131]; decide) (off := 1028) (by rw [hs_131]; rfl) (by decide) ?_
      refine lv_aload_n hx hb dX13_wanted_1055 rfl (lv_at hl 1 rfl) ?_
      refine lv_iconst (v := 2) hx hb dX13_wanted_1056 (by decide) ?_
      obtain ⟨⟨u18_0, u18_1⟩, hu_18, hsp⟩ := ox_bind hsp
      try dsimp only at hsp
      have hPc := hP.sub (ws' := [(h0, .inr (13, z25)), (qf128, .inl (cf128, 31, .inl g128_25))]) [0, 2] rfl
      have hDc := hD.sub (ws' := [(h0, .inr (13, z25)), (qf128, .inl (cf128, 31, .inl g128_25))]) [0, 2] (by decide) rfl
      have hKc := hK.sub (tys' := [(cf128, .int)]) [1] rfl
      have hFc := va_free (wc := [(h0, .inr (13, z25)), (qf128, .inl (cf128, 31, .inl g128_25))]) hD hS hA [0, 2] rfl
      refine va_calli (va_runV (As := [.int 2]) (rest := []) ⟨hx, hb, hml, hown, hts⟩ (tn_pullInts l dC dI H.size h0 z25 2 qf128 x131_25 cf128 g128_25 nf u18_0 u18_1 hlh_25 hfh_25_128 hfh_25_131 hu_18) (cwV 1 hts gv_h9_70 rfl rfl rfl (by decide +kernel) ⟨Nat.le_of_ble_eq_true rfl, Nat.le_of_ble_eq_true rfl⟩) ⟨fun a U g mk q => by obtain ⟨q0, q1, qP, qK, qD⟩ := q; exact ⟨q0, q1, qP, va_K.moved (u := U) (U := U.calling g mk a) (Vm.Alike.refl U.vm) qK, qD⟩, va_recv hKc hPc (ci := 13) (q0 := 0) rfl rfl, fun U hU hW => ⟨rfl, by rw [hU], by rw [hU]; exact hPc, va_K.moved hW.alike hKc, hDc.weaken (fun _ _ _ _ => trivial)⟩⟩ rfl rfl hl.1 rfl (lv_room (Nat.le_of_ble_eq_true rfl)) dX13_wanted_1057 ⟨Nat.le_of_ble_eq_true rfl, Nat.le_of_ble_eq_true rfl⟩) hS (fun q _ h => hFc q h) hFc ?_
      clear hS
      intro r_132 u t H1 locs ht hvm hw hB hz1 hk1 hS
      obtain ⟨z_18, rfl⟩ : ∃ z, z = u := ⟨_, rfl⟩
      obtain ⟨hP1, hK1, hD1⟩ := hB
      rw [ht] at hP1
      have hK1 := va_K.moved hvm.symm hK1
      try dsimp only at hw
      have hPD := va_join (wr := [(qf100, .inl (cf100, 48000, .inl f100)), (qf127, .inl (cf127, 30, .inl g127_25)), (qf104, .inl (cf104, 8, .inl f104)), (qf102, .inl (cf102, 2048, .inl f102)), (qf118, .inl (cf118, 2100, .inl g118_25)), (qf119, .inl (cf119, 2100, .inl g119_25)), (qf105, .inl (cf105, 8, .inl f105)), (qf137, .inl (cf137, 6, .inl g137_25))]) (w1 := [(h0, .inr (13, z_18)), (qf128, .inl (cf128, 31, .inl g128_25))]) hP hD [0, 2] [1, 3, 4, 5, 6, 7, 8, 9] rfl rfl (by decide) (by decide) hk1 hFc hP1 hD1
      clear hP hD
      obtain ⟨hP, hD⟩ := hPD
      replace hK := (hK.sub (tys' := [(cf100, .int), (cf127, .int), (cf104, .int), (cf102, .int), (cf118, .int), (cf119, .int), (cf105, .int), (cf137, .int)]) [0, 2, 3, 4, 5, 6, 7, 8] rfl).app hK1
      clear hPc hDc hKc hFc hP1 hK1 hD1 hz1 hk1 ht hvm
      generalize H1 = H at hP hS ⊢
      replace hP : va_P (dC, dI) vwCl [(qf100, .inl (cf100, 48000, .inl f100)), (qf127, .inl (cf127, 30, .inl g127_25)), (qf104, .inl (cf104, 8, .inl f104)), (qf102, .inl (cf102, 2048, .inl f102)), (qf118, .inl (cf118, 2100, .inl g118_25)), (qf119, .inl (cf119, 2100, .inl g119_25)), (qf105, .inl (cf105, 8, .inl f105)), (qf137, .inl (cf137, 6, .inl g137_25)), (h0, .inr (13, z_18)), (qf128, .inl (cf128, 31, .inl g128_25))] H := hP
      replace hD : va_D A [(qf100, .inl (cf100, 48000, .inl f100)), (qf127, .inl (cf127, 30, .inl g127_25)), (qf104, .inl (cf104, 8, .inl f104)), (qf102, .inl (cf102, 2048, .inl f102)), (qf118, .inl (cf118, 2100, .inl g118_25)), (qf119, .inl (cf119, 2100, .inl g119_25)), (qf105, .inl (cf105, 8, .inl f105)), (qf137, .inl (cf137, 6, .inl g137_25)), (h0, .inr (13, z_18)), (qf128, .inl (cf128, 31, .inl g128_25))] := hD
      replace hK : va_K (dC, dI) vwCl [(cf100, .int), (cf127, .int), (cf104, .int), (cf102, .int), (cf118, .int), (cf119, .int), (cf105, .int), (cf137, .int), (cf128, .int)] s := hK
      obtain ⟨hwa_18, hln_18, hre_18, hch_18_131⟩ := hw
      have hfk_18_98 : z_18[98]? = some (.int v98) := (hre_18 98 (by decide)).trans (hfh_25_98)
      have hfk_18_100 : z_18[100]? = some (.ref qf100) := (hre_18 100 (by decide)).trans (hfh_25_100)
      have hfk_18_102 : z_18[102]? = some (.ref qf102) := (hre_18 102 (by decide)).trans (hfh_25_102)
      have hfk_18_104 : z_18[104]? = some (.ref qf104) := (hre_18 104 (by decide)).trans (hfh_25_104)
      have hfk_18_105 : z_18[105]? = some (.ref qf105) := (hre_18 105 (by decide)).trans (hfh_25_105)
      have hfk_18_117 : z_18[117]? = some (.int x117_25) := (hre_18 117 (by decide)).trans (hfh_25_117)
      have hfk_18_118 : z_18[118]? = some (.ref qf118) := (hre_18 118 (by decide)).trans (hfh_25_118)
      have hfk_18_119 : z_18[119]? = some (.ref qf119) := (hre_18 119 (by decide)).trans (hfh_25_119)
      have hfk_18_120 : z_18[120]? = some (.int x120_25) := (hre_18 120 (by decide)).trans (hfh_25_120)
      have hfk_18_127 : z_18[127]? = some (.ref qf127) := (hre_18 127 (by decide)).trans (hfh_25_127)
      have hfk_18_128 : z_18[128]? = some (.ref qf128) := (hre_18 128 (by decide)).trans (hfh_25_128)
      have hfk_18_129 : z_18[129]? = some (.int v129) := (hre_18 129 (by decide)).trans (hfh_25_129)
      have hfk_18_130 : z_18[130]? = some (.int v130) := (hre_18 130 (by decide)).trans (hfh_25_130)
      have hfk_18_132 : z_18[132]? = some (.int v132) := (hre_18 132 (by decide)).trans (hfh_25_132)
      have hfk_18_134 : z_18[134]? = some (.int v134) := (hre_18 134 (by decide)).trans (hfh_25_134)
      have hfk_18_136 : z_18[136]? = some (.int v136) := (hre_18 136 (by decide)).trans (hfh_25_136)
      have hfk_18_137 : z_18[137]? = some (.ref qf137) := (hre_18 137 (by decide)).trans (hfh_25_137)
      have hrq_18 : ∀ j : Nat, j ≠ 117 → j ≠ 120 → j ≠ 131 → z_18[j]? = zs[j]? := fun j g117 g120 g131 => (hre_18 j g131).trans (hrh_25 j g117 g120 g131)
      obtain ⟨rfl, hz_18⟩ := hwa_18
      rcases hz_18 with rfl | rfl
      · rw [if_pos rfl] at hsp
        refine lv_if_ne (tgt := 1065) hx hb dX13_wanted_1060 (by decide) (fun c_133 => (show False by revert c_133; decide).elim) (fun c_133 => ?_)
        refine lv_iconst (v := 0) hx hb dX13_wanted_1063 (by decide) ?_
        have hr0 := Option.some.inj hsp
        clear hsp
        obtain ⟨hq0, hr1⟩ := Prod.mk.inj hr0
        clear hr0
        obtain ⟨hq1, hr2⟩ := Prod.mk.inj hr1
        clear hr1
        obtain ⟨hq2, hr3⟩ := Prod.mk.inj hr2
        clear hr2
        obtain ⟨hq3, hr4⟩ := Prod.mk.inj hr3
        clear hr3
        obtain ⟨hq4, hr5⟩ := Prod.mk.inj hr4
        clear hr4
        obtain ⟨hq5, hr6⟩ := Prod.mk.inj hr5
        clear hr5
        obtain ⟨hq6, hr7⟩ := Prod.mk.inj hr6
        clear hr6
        obtain ⟨hq7, hr8⟩ := Prod.mk.inj hr7
        clear hr7
        subst hq0
        subst hq1
        subst hq2
        subst hq3
        subst hq4
        subst hq5
        subst hq6
        subst hq7
        subst hr8
        have hP9 := hP.sub (ws' := [(h0, .inr (13, z_18)), (qf100, .inl (cf100, 48000, .inl f100)), (qf128, .inl (cf128, 31, .inl g128_25)), (qf127, .inl (cf127, 30, .inl g127_25)), (qf104, .inl (cf104, 8, .inl f104)), (qf102, .inl (cf102, 2048, .inl f102)), (qf118, .inl (cf118, 2100, .inl g118_25)), (qf119, .inl (cf119, 2100, .inl g119_25)), (qf105, .inl (cf105, 8, .inl f105)), (qf137, .inl (cf137, 6, .inl g137_25))]) [8, 0, 9, 1, 2, 3, 4, 5, 6, 7] rfl
        have hD9 := hD.sub (ws' := [(h0, .inr (13, z_18)), (qf100, .inl (cf100, 48000, .inl f100)), (qf128, .inl (cf128, 31, .inl g128_25)), (qf127, .inl (cf127, 30, .inl g127_25)), (qf104, .inl (cf104, 8, .inl f104)), (qf102, .inl (cf102, 2048, .inl f102)), (qf118, .inl (cf118, 2100, .inl g118_25)), (qf119, .inl (cf119, 2100, .inl g119_25)), (qf105, .inl (cf105, 8, .inl f105)), (qf137, .inl (cf137, 6, .inl g137_25))]) [8, 0, 9, 1, 2, 3, 4, 5, 6, 7] (by decide) rfl
        have hK9 := hK.sub (tys' := [(cf100, .int), (cf128, .int), (cf127, .int), (cf104, .int), (cf102, .int), (cf118, .int), (cf119, .int), (cf105, .int), (cf137, .int)]) [0, 8, 1, 2, 3, 4, 5, 6, 7] rfl
        exact W.zret hx hb hr (by decide) (fun t ht hW => ⟨⟨(0), (z_18), rfl, ⟨⟨rfl, Or.inl rfl⟩, hln_18, hrq_18, hfk_18_117, hfk_18_120, hch_18_131⟩, by rw [ht]; exact hP9, va_K.moved hW.alike hK9, hD9⟩, hS.F ht⟩) hS.2.2 dX13_wanted_1064
      · rw [if_neg (by decide)] at hsp
        refine lv_if_ne (tgt := 1065) hx hb dX13_wanted_1060 (by decide) (fun c_134 => ?_) (fun c_134 => (show False by revert c_134; decide).elim)
        refine lv_aload_n hx hb dX13_wanted_1065 rfl (lv_at hl 1 rfl) ?_
        obtain ⟨⟨u19_0, u19_1⟩, hu_19, hsp⟩ := ox_bind hsp
        try dsimp only at hsp
        have hPc := hP.sub (ws' := [(h0, .inr (13, z_18)), (qf128, .inl (cf128, 31, .inl g128_25))]) [8, 9] rfl
        have hDc := hD.sub (ws' := [(h0, .inr (13, z_18)), (qf128, .inl (cf128, 31, .inl g128_25))]) [8, 9] (by decide) rfl
        have hKc := hK.sub (tys' := [(cf128, .int)]) [8] rfl
        have hFc := va_free (wc := [(h0, .inr (13, z_18)), (qf128, .inl (cf128, 31, .inl g128_25))]) hD hS hA [8, 9] rfl
        refine va_calli (va_runV (As := []) (rest := []) ⟨hx, hb, hml, hown, hts⟩ (tm_pull l dC dI H.size h0 z_18 qf128 u18_1 cf128 g128_25 nf u19_0 u19_1 hln_18 hfk_18_128 hch_18_131 hu_19) (cwV 0 hts gv_h9_68 rfl rfl rfl (by decide +kernel) ⟨Nat.le_of_ble_eq_true rfl, Nat.le_of_ble_eq_true rfl⟩) ⟨fun a U g mk q => by obtain ⟨q0, q1, qP, qK, qD⟩ := q; exact ⟨q0, q1, qP, va_K.moved (u := U) (U := U.calling g mk a) (Vm.Alike.refl U.vm) qK, qD⟩, va_recv hKc hPc (ci := 13) (q0 := 0) rfl rfl, fun U hU hW => ⟨rfl, by rw [hU], by rw [hU]; exact hPc, va_K.moved hW.alike hKc, hDc.weaken (fun _ _ _ _ => trivial)⟩⟩ rfl rfl hl.1 rfl (lv_room (Nat.le_of_ble_eq_true rfl)) dX13_wanted_1066 ⟨Nat.le_of_ble_eq_true rfl, Nat.le_of_ble_eq_true rfl⟩) hS (fun q _ h => hFc q h) hFc ?_
        clear hS
        intro r_135 u t H1 locs ht hvm hw hB hz1 hk1 hS
        obtain ⟨z_19, rfl⟩ : ∃ z, z = u := ⟨_, rfl⟩
        obtain ⟨hP1, hK1, hD1⟩ := hB
        rw [ht] at hP1
        have hK1 := va_K.moved hvm.symm hK1
        try dsimp only at hw
        have hPD := va_join (wr := [(qf100, .inl (cf100, 48000, .inl f100)), (qf127, .inl (cf127, 30, .inl g127_25)), (qf104, .inl (cf104, 8, .inl f104)), (qf102, .inl (cf102, 2048, .inl f102)), (qf118, .inl (cf118, 2100, .inl g118_25)), (qf119, .inl (cf119, 2100, .inl g119_25)), (qf105, .inl (cf105, 8, .inl f105)), (qf137, .inl (cf137, 6, .inl g137_25))]) (w1 := [(h0, .inr (13, z_19)), (qf128, .inl (cf128, 31, .inl g128_25))]) hP hD [8, 9] [0, 1, 2, 3, 4, 5, 6, 7] rfl rfl (by decide) (by decide) hk1 hFc hP1 hD1
        clear hP hD
        obtain ⟨hP, hD⟩ := hPD
        replace hK := (hK.sub (tys' := [(cf100, .int), (cf127, .int), (cf104, .int), (cf102, .int), (cf118, .int), (cf119, .int), (cf105, .int), (cf137, .int)]) [0, 1, 2, 3, 4, 5, 6, 7] rfl).app hK1
        clear hPc hDc hKc hFc hP1 hK1 hD1 hz1 hk1 ht hvm
        generalize H1 = H at hP hS ⊢
        replace hP : va_P (dC, dI) vwCl [(qf100, .inl (cf100, 48000, .inl f100)), (qf127, .inl (cf127, 30, .inl g127_25)), (qf104, .inl (cf104, 8, .inl f104)), (qf102, .inl (cf102, 2048, .inl f102)), (qf118, .inl (cf118, 2100, .inl g118_25)), (qf119, .inl (cf119, 2100, .inl g119_25)), (qf105, .inl (cf105, 8, .inl f105)), (qf137, .inl (cf137, 6, .inl g137_25)), (h0, .inr (13, z_19)), (qf128, .inl (cf128, 31, .inl g128_25))] H := hP
        replace hD : va_D A [(qf100, .inl (cf100, 48000, .inl f100)), (qf127, .inl (cf127, 30, .inl g127_25)), (qf104, .inl (cf104, 8, .inl f104)), (qf102, .inl (cf102, 2048, .inl f102)), (qf118, .inl (cf118, 2100, .inl g118_25)), (qf119, .inl (cf119, 2100, .inl g119_25)), (qf105, .inl (cf105, 8, .inl f105)), (qf137, .inl (cf137, 6, .inl g137_25)), (h0, .inr (13, z_19)), (qf128, .inl (cf128, 31, .inl g128_25))] := hD
        replace hK : va_K (dC, dI) vwCl [(cf100, .int), (cf127, .int), (cf104, .int), (cf102, .int), (cf118, .int), (cf119, .int), (cf105, .int), (cf137, .int), (cf128, .int)] s := hK
        obtain ⟨hwa_19, hln_19, hre_19, hch_19_131⟩ := hw
        have hfk_19_98 : z_19[98]? = some (.int v98) := (hre_19 98 (by decide)).trans (hfk_18_98)
        have hfk_19_100 : z_19[100]? = some (.ref qf100) := (hre_19 100 (by decide)).trans (hfk_18_100)
        have hfk_19_102 : z_19[102]? = some (.ref qf102) := (hre_19 102 (by decide)).trans (hfk_18_102)
        have hfk_19_104 : z_19[104]? = some (.ref qf104) := (hre_19 104 (by decide)).trans (hfk_18_104)
        have hfk_19_105 : z_19[105]? = some (.ref qf105) := (hre_19 105 (by decide)).trans (hfk_18_105)
        have hfk_19_117 : z_19[117]? = some (.int x117_25) := (hre_19 117 (by decide)).trans (hfk_18_117)
        have hfk_19_118 : z_19[118]? = some (.ref qf118) := (hre_19 118 (by decide)).trans (hfk_18_118)
        have hfk_19_119 : z_19[119]? = some (.ref qf119) := (hre_19 119 (by decide)).trans (hfk_18_119)
        have hfk_19_120 : z_19[120]? = some (.int x120_25) := (hre_19 120 (by decide)).trans (hfk_18_120)
        have hfk_19_127 : z_19[127]? = some (.ref qf127) := (hre_19 127 (by decide)).trans (hfk_18_127)
        have hfk_19_128 : z_19[128]? = some (.ref qf128) := (hre_19 128 (by decide)).trans (hfk_18_128)
        have hfk_19_129 : z_19[129]? = some (.int v129) := (hre_19 129 (by decide)).trans (hfk_18_129)
        have hfk_19_130 : z_19[130]? = some (.int v130) := (hre_19 130 (by decide)).trans (hfk_18_130)
        have hfk_19_132 : z_19[132]? = some (.int v132) := (hre_19 132 (by decide)).trans (hfk_18_132)
        have hfk_19_134 : z_19[134]? = some (.int v134) := (hre_19 134 (by decide)).trans (hfk_18_134)
        have hfk_19_136 : z_19[136]? = some (.int v136) := (hre_19 136 (by decide)).trans (hfk_18_136)
        have hfk_19_137 : z_19[137]? = some (.ref qf137) := (hre_19 137 (by decide)).trans (hfk_18_137)
        have hrq_19 : ∀ j : Nat, j ≠ 117 → j ≠ 120 → j ≠ 131 → z_19[j]? = zs[j]? := fun j g117 g120 g131 => (hre_19 j g131).trans (hrq_18 j g117 g120 g131)
        obtain rfl := hwa_19
        refine lv_istore (lv' := [(4, .int u19_0), (3, .int s0_25), (0, .ref h0), (2, .int l2_25)]) hx hb dX13_wanted_1069 hl (by decide) rfl (fun ls hl => ?_)
        refine lv_iload hx hb dX13_wanted_1071 (lv_at hl 0 rfl) ?_
        refine lv_iconst (v := 3) hx hb dX13_wanted_1073 (by decide) ?_
        refine lv_icmp_eq (tgt := 1083) hx hb dX13_wanted_1074 (by decide) (fun c_136 => ?_) (fun c_136 => ?_)
        · rw [if_pos c_136] at hsp
          refine lv_iconst (v := 1) hx hb dX13_wanted_1083 (by decide) ?_
          refine lv_goto (tgt := 1088) hx hb dX13_wanted_1084 (by decide) ?_
          have hr0 := Option.some.inj hsp
          clear hsp
          obtain ⟨hq0, hr1⟩ := Prod.mk.inj hr0
          clear hr0
          obtain ⟨hq1, hr2⟩ := Prod.mk.inj hr1
          clear hr1
          obtain ⟨hq2, hr3⟩ := Prod.mk.inj hr2
          clear hr2
          obtain ⟨hq3, hr4⟩ := Prod.mk.inj hr3
          clear hr3
          obtain ⟨hq4, hr5⟩ := Prod.mk.inj hr4
          clear hr4
          obtain ⟨hq5, hr6⟩ := Prod.mk.inj hr5
          clear hr5
          obtain ⟨hq6, hr7⟩ := Prod.mk.inj hr6
          clear hr6
          obtain ⟨hq7, hr8⟩ := Prod.mk.inj hr7
          clear hr7
          subst hq0
          subst hq1
          subst hq2
          subst hq3
          subst hq4
          subst hq5
          subst hq6
          subst hq7
          subst hr8
          have hP9 := hP.sub (ws' := [(h0, .inr (13, z_19)), (qf100, .inl (cf100, 48000, .inl f100)), (qf128, .inl (cf128, 31, .inl g128_25)), (qf127, .inl (cf127, 30, .inl g127_25)), (qf104, .inl (cf104, 8, .inl f104)), (qf102, .inl (cf102, 2048, .inl f102)), (qf118, .inl (cf118, 2100, .inl g118_25)), (qf119, .inl (cf119, 2100, .inl g119_25)), (qf105, .inl (cf105, 8, .inl f105)), (qf137, .inl (cf137, 6, .inl g137_25))]) [8, 0, 9, 1, 2, 3, 4, 5, 6, 7] rfl
          have hD9 := hD.sub (ws' := [(h0, .inr (13, z_19)), (qf100, .inl (cf100, 48000, .inl f100)), (qf128, .inl (cf128, 31, .inl g128_25)), (qf127, .inl (cf127, 30, .inl g127_25)), (qf104, .inl (cf104, 8, .inl f104)), (qf102, .inl (cf102, 2048, .inl f102)), (qf118, .inl (cf118, 2100, .inl g118_25)), (qf119, .inl (cf119, 2100, .inl g119_25)), (qf105, .inl (cf105, 8, .inl f105)), (qf137, .inl (cf137, 6, .inl g137_25))]) [8, 0, 9, 1, 2, 3, 4, 5, 6, 7] (by decide) rfl
          have hK9 := hK.sub (tys' := [(cf100, .int), (cf128, .int), (cf127, .int), (cf104, .int), (cf102, .int), (cf118, .int), (cf119, .int), (cf105, .int), (cf137, .int)]) [0, 8, 1, 2, 3, 4, 5, 6, 7] rfl
          exact W.zret hx hb hr (by decide) (fun t ht hW => ⟨⟨(1), (z_19), rfl, ⟨⟨rfl, Or.inr rfl⟩, hln_19, hrq_19, hfk_19_117, hfk_19_120, hch_19_131⟩, by rw [ht]; exact hP9, va_K.moved hW.alike hK9, hD9⟩, hS.F ht⟩) hS.2.2 dX13_wanted_1088
        · rw [if_neg c_136] at hsp
          refine lv_iload hx hb dX13_wanted_1077 (lv_at hl 0 rfl) ?_
          refine lv_iconst (v := 2) hx hb dX13_wanted_1079 (by decide) ?_
          refine lv_icmp_ne (tgt := 1087) hx hb dX13_wanted_1080 (by decide) (fun c_137 => ?_) (fun c_137 => ?_)
          · rw [if_neg c_137] at hsp
            refine lv_iconst (v := 0) hx hb dX13_wanted_1087 (by decide) ?_
            have hr0 := Option.some.inj hsp
            clear hsp
            obtain ⟨hq0, hr1⟩ := Prod.mk.inj hr0
            clear hr0
            obtain ⟨hq1, hr2⟩ := Prod.mk.inj hr1
            clear hr1
            obtain ⟨hq2, hr3⟩ := Prod.mk.inj hr2
            clear hr2
            obtain ⟨hq3, hr4⟩ := Prod.mk.inj hr3
            clear hr3
            obtain ⟨hq4, hr5⟩ := Prod.mk.inj hr4
            clear hr4
            obtain ⟨hq5, hr6⟩ := Prod.mk.inj hr5
            clear hr5
            obtain ⟨hq6, hr7⟩ := Prod.mk.inj hr6
            clear hr6
            obtain ⟨hq7, hr8⟩ := Prod.mk.inj hr7
            clear hr7
            subst hq0
            subst hq1
            subst hq2
            subst hq3
            subst hq4
            subst hq5
            subst hq6
            subst hq7
            subst hr8
            have hP9 := hP.sub (ws' := [(h0, .inr (13, z_19)), (qf100, .inl (cf100, 48000, .inl f100)), (qf128, .inl (cf128, 31, .inl g128_25)), (qf127, .inl (cf127, 30, .inl g127_25)), (qf104, .inl (cf104, 8, .inl f104)), (qf102, .inl (cf102, 2048, .inl f102)), (qf118, .inl (cf118, 2100, .inl g118_25)), (qf119, .inl (cf119, 2100, .inl g119_25)), (qf105, .inl (cf105, 8, .inl f105)), (qf137, .inl (cf137, 6, .inl g137_25))]) [8, 0, 9, 1, 2, 3, 4, 5, 6, 7] rfl
            have hD9 := hD.sub (ws' := [(h0, .inr (13, z_19)), (qf100, .inl (cf100, 48000, .inl f100)), (qf128, .inl (cf128, 31, .inl g128_25)), (qf127, .inl (cf127, 30, .inl g127_25)), (qf104, .inl (cf104, 8, .inl f104)), (qf102, .inl (cf102, 2048, .inl f102)), (qf118, .inl (cf118, 2100, .inl g118_25)), (qf119, .inl (cf119, 2100, .inl g119_25)), (qf105, .inl (cf105, 8, .inl f105)), (qf137, .inl (cf137, 6, .inl g137_25))]) [8, 0, 9, 1, 2, 3, 4, 5, 6, 7] (by decide) rfl
            have hK9 := hK.sub (tys' := [(cf100, .int), (cf128, .int), (cf127, .int), (cf104, .int), (cf102, .int), (cf118, .int), (cf119, .int), (cf105, .int), (cf137, .int)]) [0, 8, 1, 2, 3, 4, 5, 6, 7] rfl
            exact W.zret hx hb hr (by decide) (fun t ht hW => ⟨⟨(0), (z_19), rfl, ⟨⟨rfl, Or.inl rfl⟩, hln_19, hrq_19, hfk_19_117, hfk_19_120, hch_19_131⟩, by rw [ht]; exact hP9, va_K.moved hW.alike hK9, hD9⟩, hS.F ht⟩) hS.2.2 dX13_wanted_1088
          · rw [if_pos c_137] at hsp
            refine lv_iconst (v := 1) hx hb dX13_wanted_1083 (by decide) ?_
            refine lv_goto (tgt := 1088) hx hb dX13_wanted_1084 (by decide) ?_
            have hr0 := Option.some.inj hsp
            clear hsp
            obtain ⟨hq0, hr1⟩ := Prod.mk.inj hr0
            clear hr0
            obtain ⟨hq1, hr2⟩ := Prod.mk.inj hr1
            clear hr1
            obtain ⟨hq2, hr3⟩ := Prod.mk.inj hr2
            clear hr2
            obtain ⟨hq3, hr4⟩ := Prod.mk.inj hr3
            clear hr3
            obtain ⟨hq4, hr5⟩ := Prod.mk.inj hr4
            clear hr4
            obtain ⟨hq5, hr6⟩ := Prod.mk.inj hr5
            clear hr5
            obtain ⟨hq6, hr7⟩ := Prod.mk.inj hr6
            clear hr6
            obtain ⟨hq7, hr8⟩ := Prod.mk.inj hr7
            clear hr7
            subst hq0
            subst hq1
            subst hq2
            subst hq3
            subst hq4
            subst hq5
            subst hq6
            subst hq7
            subst hr8
            have hP9 := hP.sub (ws' := [(h0, .inr (13, z_19)), (qf100, .inl (cf100, 48000, .inl f100)), (qf128, .inl (cf128, 31, .inl g128_25)), (qf127, .inl (cf127, 30, .inl g127_25)), (qf104, .inl (cf104, 8, .inl f104)), (qf102, .inl (cf102, 2048, .inl f102)), (qf118, .inl (cf118, 2100, .inl g118_25)), (qf119, .inl (cf119, 2100, .inl g119_25)), (qf105, .inl (cf105, 8, .inl f105)), (qf137, .inl (cf137, 6, .inl g137_25))]) [8, 0, 9, 1, 2, 3, 4, 5, 6, 7] rfl
            have hD9 := hD.sub (ws' := [(h0, .inr (13, z_19)), (qf100, .inl (cf100, 48000, .inl f100)), (qf128, .inl (cf128, 31, .inl g128_25)), (qf127, .inl (cf127, 30, .inl g127_25)), (qf104, .inl (cf104, 8, .inl f104)), (qf102, .inl (cf102, 2048, .inl f102)), (qf118, .inl (cf118, 2100, .inl g118_25)), (qf119, .inl (cf119, 2100, .inl g119_25)), (qf105, .inl (cf105, 8, .inl f105)), (qf137, .inl (cf137, 6, .inl g137_25))]) [8, 0, 9, 1, 2, 3, 4, 5, 6, 7] (by decide) rfl
            have hK9 := hK.sub (tys' := [(cf100, .int), (cf128, .int), (cf127, .int), (cf104, .int), (cf102, .int), (cf118, .int), (cf119, .int), (cf105, .int), (cf137, .int)]) [0, 8, 1, 2, 3, 4, 5, 6, 7] rfl
            exact W.zret hx hb hr (by decide) (fun t ht hW => ⟨⟨(1), (z_19), rfl, ⟨⟨rfl, Or.inr rfl⟩, hln_19, hrq_19, hfk_19_117, hfk_19_120, hch_19_131⟩, by rw [ht]; exact hP9, va_K.moved hW.alike hK9, hD9⟩, hS.F ht⟩) hS.2.2 dX13_wanted_1088
    rw [if_neg hs_131] at hsp
    by_cases hs_138 : l2_25 = 80
    · rw [if_pos hs_138] at hsp
      refine lv_tableIn (tgt := 1642) hx hb dX13_wanted_27 (by rw [hs_138]; decide) (by rw [hs_138]; decide) (off := 1615) (by rw [hs_138]; rfl) (by decide) ?_
      exact hj_1642 (H, locs, ls, z25, g118_25, g119_25, g127_25, g128_25, g137_25, x117_25, x120_25, x131_25) ⟨lv_sub hl [1] rfl, hS, hD.sub (ws' := [(h0, .inr (13, z25)), (qf100, .inl (cf100, 48000, .inl f100)), (qf128, .inl (cf128, 31, .inl g128_25)), (qf127, .inl (cf127, 30, .inl g127_25)), (qf104, .inl (cf104, 8, .inl f104)), (qf102, .inl (cf102, 2048, .inl f102)), (qf118, .inl (cf118, 2100, .inl g118_25)), (qf119, .inl (cf119, 2100, .inl g119_25)), (qf105, .inl (cf105, 8, .inl f105)), (qf137, .inl (cf137, 6, .inl g137_25))]) [0, 1, 2, 3, 4, 5, 6, 7, 8, 9] (by decide) rfl, hP.sub (ws' := [(h0, .inr (13, z25)), (qf100, .inl (cf100, 48000, .inl f100)), (qf128, .inl (cf128, 31, .inl g128_25)), (qf127, .inl (cf127, 30, .inl g127_25)), (qf104, .inl (cf104, 8, .inl f104)), (qf102, .inl (cf102, 2048, .inl f102)), (qf118, .inl (cf118, 2100, .inl g118_25)), (qf119, .inl (cf119, 2100, .inl g119_25)), (qf105, .inl (cf105, 8, .inl f105)), (qf137, .inl (cf137, 6, .inl g137_25))]) [0, 1, 2, 3, 4, 5, 6, 7, 8, 9] rfl, hfh_25_98, hfh_25_100, hfh_25_102, hfh_25_104, hfh_25_105, hfh_25_117, hfh_25_118, hfh_25_119, hfh_25_120, hfh_25_127, hfh_25_128, hfh_25_129, hfh_25_130, hfh_25_131, hfh_25_132, hfh_25_134, hfh_25_136, hfh_25_137, hlh_25, hrh_25, hsp⟩
    rw [if_neg hs_138] at hsp
    by_cases hs_139 : l2_25 = 81
    · rw [if_pos hs_139] at hsp
      refine lv_tableIn (tgt := 1642) hx hb dX13_wanted_27 (by rw [hs_139]; decide) (by rw [hs_139]; decide) (off := 1615) (by rw [hs_139]; rfl) (by decide) ?_
      exact hj_1642 (H, locs, ls, z25, g118_25, g119_25, g127_25, g128_25, g137_25, x117_25, x120_25, x131_25) ⟨lv_sub hl [1] rfl, hS, hD.sub (ws' := [(h0, .inr (13, z25)), (qf100, .inl (cf100, 48000, .inl f100)), (qf128, .inl (cf128, 31, .inl g128_25)), (qf127, .inl (cf127, 30, .inl g127_25)), (qf104, .inl (cf104, 8, .inl f104)), (qf102, .inl (cf102, 2048, .inl f102)), (qf118, .inl (cf118, 2100, .inl g118_25)), (qf119, .inl (cf119, 2100, .inl g119_25)), (qf105, .inl (cf105, 8, .inl f105)), (qf137, .inl (cf137, 6, .inl g137_25))]) [0, 1, 2, 3, 4, 5, 6, 7, 8, 9] (by decide) rfl, hP.sub (ws' := [(h0, .inr (13, z25)), (qf100, .inl (cf100, 48000, .inl f100)), (qf128, .inl (cf128, 31, .inl g128_25)), (qf127, .inl (cf127, 30, .inl g127_25)), (qf104, .inl (cf104, 8, .inl f104)), (qf102, .inl (cf102, 2048, .inl f102)), (qf118, .inl (cf118, 2100, .inl g118_25)), (qf119, .inl (cf119, 2100, .inl g119_25)), (qf105, .inl (cf105, 8, .inl f105)), (qf137, .inl (cf137, 6, .inl g137_25))]) [0, 1, 2, 3, 4, 5, 6, 7, 8, 9] rfl, hfh_25_98, hfh_25_100, hfh_25_102, hfh_25_104, hfh_25_105, hfh_25_117, hfh_25_118, hfh_25_119, hfh_25_120, hfh_25_127, hfh_25_128, hfh_25_129, hfh_25_130, hfh_25_131, hfh_25_132, hfh_25_134, hfh_25_136, hfh_25_137, hlh_25, hrh_25, hsp⟩
    rw [if_neg hs_139] at hsp
    by_cases hs_140 : l2_25 = 82
    · rw [if_pos hs_140] at hsp
      refine lv_tableIn (tgt := 1642) hx hb dX13_wanted_27 (by rw [hs_140]; decide) (by rw [hs_140]; decide) (off := 1615) (by rw [hs_140]; rfl) (by decide) ?_
      exact hj_1642 (H, locs, ls, z25, g118_25, g119_25, g127_25, g128_25, g137_25, x117_25, x120_25, x131_25) ⟨lv_sub hl [1] rfl, hS, hD.sub (ws' := [(h0, .inr (13, z25)), (qf100, .inl (cf100, 48000, .inl f100)), (qf128, .inl (cf128, 31, .inl g128_25)), (qf127, .inl (cf127, 30, .inl g127_25)), (qf104, .inl (cf104, 8, .inl f104)), (qf102, .inl (cf102, 2048, .inl f102)), (qf118, .inl (cf118, 2100, .inl g118_25)), (qf119, .inl (cf119, 2100, .inl g119_25)), (qf105, .inl (cf105, 8, .inl f105)), (qf137, .inl (cf137, 6, .inl g137_25))]) [0, 1, 2, 3, 4, 5, 6, 7, 8, 9] (by decide) rfl, hP.sub (ws' := [(h0, .inr (13, z25)), (qf100, .inl (cf100, 48000, .inl f100)), (qf128, .inl (cf128, 31, .inl g128_25)), (qf127, .inl (cf127, 30, .inl g127_25)), (qf104, .inl (cf104, 8, .inl f104)), (qf102, .inl (cf102, 2048, .inl f102)), (qf118, .inl (cf118, 2100, .inl g118_25)), (qf119, .inl (cf119, 2100, .inl g119_25)), (qf105, .inl (cf105, 8, .inl f105)), (qf137, .inl (cf137, 6, .inl g137_25))]) [0, 1, 2, 3, 4, 5, 6, 7, 8, 9] rfl, hfh_25_98, hfh_25_100, hfh_25_102, hfh_25_104, hfh_25_105, hfh_25_117, hfh_25_118, hfh_25_119, hfh_25_120, hfh_25_127, hfh_25_128, hfh_25_129, hfh_25_130, hfh_25_131, hfh_25_132, hfh_25_134, hfh_25_136, hfh_25_137, hlh_25, hrh_25, hsp⟩
    rw [if_neg hs_140] at hsp
    by_cases hs_141 : l2_25 = 83
    · rw [if_pos hs_141] at hsp
      refine lv_tableIn (tgt := 1089) hx hb dX13_wanted_27 (by rw [hs_141]; decide) (by rw [hs_141]; decide) (off := 1062) (by rw [hs_141]; rfl) (by decide) ?_
      refine lv_aload_n hx hb dX13_wanted_1089 rfl (lv_at hl 1 rfl) ?_
      obtain ⟨⟨u20_0, u20_1⟩, hu_20, hsp⟩ := ox_bind hsp
      try dsimp only at hsp
      have hPc := hP.sub (ws' := [(h0, .inr (13, z25)), (qf128, .inl (cf128, 31, .inl g128_25))]) [0, 2] rfl
      have hDc := hD.sub (ws' := [(h0, .inr (13, z25)), (qf128, .inl (cf128, 31, .inl g128_25))]) [0, 2] (by decide) rfl
      have hKc := hK.sub (tys' := [(cf128, .int)]) [1] rfl
      have hFc := va_free (wc := [(h0, .inr (13, z25)), (qf128, .inl (cf128, 31, .inl g128_25))]) hD hS hA [0, 2] rfl
      refine va_calli (va_runV (As := []) (rest := []) ⟨hx, hb, hml, hown, hts⟩ (tm_pullThing l dC dI H.size h0 z25 qf128 x131_25 cf128 g128_25 nf u20_0 u20_1 hlh_25 hfh_25_128 hfh_25_131 hu_20) (cwV 0 hts gv_h9_71 rfl rfl rfl (by decide +kernel) ⟨Nat.le_of_ble_eq_true rfl, Nat.le_of_ble_eq_true rfl⟩) ⟨fun a U g mk q => by obtain ⟨q0, q1, qP, qK, qD⟩ := q; exact ⟨q0, q1, qP, va_K.moved (u := U) (U := U.calling g mk a) (Vm.Alike.refl U.vm) qK, qD⟩, va_recv hKc hPc (ci := 13) (q0 := 0) rfl rfl, fun U hU hW => ⟨rfl, by rw [hU], by rw [hU]; exact hPc, va_K.moved hW.alike hKc, hDc.weaken (fun _ _ _ _ => trivial)⟩⟩ rfl rfl hl.1 rfl (lv_room (Nat.le_of_ble_eq_true rfl)) dX13_wanted_1090 ⟨Nat.le_of_ble_eq_true rfl, Nat.le_of_ble_eq_true rfl⟩) hS (fun q _ h => hFc q h) hFc ?_
      clear hS
      intro r_142 u t H1 locs ht hvm hw hB hz1 hk1 hS
      obtain ⟨z_20, rfl⟩ : ∃ z, z = u := ⟨_, rfl⟩
      obtain ⟨hP1, hK1, hD1⟩ := hB
      rw [ht] at hP1
      have hK1 := va_K.moved hvm.symm hK1
      try dsimp only at hw
      have hPD := va_join (wr := [(qf100, .inl (cf100, 48000, .inl f100)), (qf127, .inl (cf127, 30, .inl g127_25)), (qf104, .inl (cf104, 8, .inl f104)), (qf102, .inl (cf102, 2048, .inl f102)), (qf118, .inl (cf118, 2100, .inl g118_25)), (qf119, .inl (cf119, 2100, .inl g119_25)), (qf105, .inl (cf105, 8, .inl f105)), (qf137, .inl (cf137, 6, .inl g137_25))]) (w1 := [(h0, .inr (13, z_20)), (qf128, .inl (cf128, 31, .inl g128_25))]) hP hD [0, 2] [1, 3, 4, 5, 6, 7, 8, 9] rfl rfl (by decide) (by decide) hk1 hFc hP1 hD1
      clear hP hD
      obtain ⟨hP, hD⟩ := hPD
      replace hK := (hK.sub (tys' := [(cf100, .int), (cf127, .int), (cf104, .int), (cf102, .int), (cf118, .int), (cf119, .int), (cf105, .int), (cf137, .int)]) [0, 2, 3, 4, 5, 6, 7, 8] rfl).app hK1
      clear hPc hDc hKc hFc hP1 hK1 hD1 hz1 hk1 ht hvm
      generalize H1 = H at hP hS ⊢
      replace hP : va_P (dC, dI) vwCl [(qf100, .inl (cf100, 48000, .inl f100)), (qf127, .inl (cf127, 30, .inl g127_25)), (qf104, .inl (cf104, 8, .inl f104)), (qf102, .inl (cf102, 2048, .inl f102)), (qf118, .inl (cf118, 2100, .inl g118_25)), (qf119, .inl (cf119, 2100, .inl g119_25)), (qf105, .inl (cf105, 8, .inl f105)), (qf137, .inl (cf137, 6, .inl g137_25)), (h0, .inr (13, z_20)), (qf128, .inl (cf128, 31, .inl g128_25))] H := hP
      replace hD : va_D A [(qf100, .inl (cf100, 48000, .inl f100)), (qf127, .inl (cf127, 30, .inl g127_25)), (qf104, .inl (cf104, 8, .inl f104)), (qf102, .inl (cf102, 2048, .inl f102)), (qf118, .inl (cf118, 2100, .inl g118_25)), (qf119, .inl (cf119, 2100, .inl g119_25)), (qf105, .inl (cf105, 8, .inl f105)), (qf137, .inl (cf137, 6, .inl g137_25)), (h0, .inr (13, z_20)), (qf128, .inl (cf128, 31, .inl g128_25))] := hD
      replace hK : va_K (dC, dI) vwCl [(cf100, .int), (cf127, .int), (cf104, .int), (cf102, .int), (cf118, .int), (cf119, .int), (cf105, .int), (cf137, .int), (cf128, .int)] s := hK
      obtain ⟨hwa_20, hln_20, hre_20, hch_20_131⟩ := hw
      have hfk_20_98 : z_20[98]? = some (.int v98) := (hre_20 98 (by decide)).trans (hfh_25_98)
      have hfk_20_100 : z_20[100]? = some (.ref qf100) := (hre_20 100 (by decide)).trans (hfh_25_100)
      have hfk_20_102 : z_20[102]? = some (.ref qf102) := (hre_20 102 (by decide)).trans (hfh_25_102)
      have hfk_20_104 : z_20[104]? = some (.ref qf104) := (hre_20 104 (by decide)).trans (hfh_25_104)
      have hfk_20_105 : z_20[105]? = some (.ref qf105) := (hre_20 105 (by decide)).trans (hfh_25_105)
      have hfk_20_117 : z_20[117]? = some (.int x117_25) := (hre_20 117 (by decide)).trans (hfh_25_117)
      have hfk_20_118 : z_20[118]? = some (.ref qf118) := (hre_20 118 (by decide)).trans (hfh_25_118)
      have hfk_20_119 : z_20[119]? = some (.ref qf119) := (hre_20 119 (by decide)).trans (hfh_25_119)
      have hfk_20_120 : z_20[120]? = some (.int x120_25) := (hre_20 120 (by decide)).trans (hfh_25_120)
      have hfk_20_127 : z_20[127]? = some (.ref qf127) := (hre_20 127 (by decide)).trans (hfh_25_127)
      have hfk_20_128 : z_20[128]? = some (.ref qf128) := (hre_20 128 (by decide)).trans (hfh_25_128)
      have hfk_20_129 : z_20[129]? = some (.int v129) := (hre_20 129 (by decide)).trans (hfh_25_129)
      have hfk_20_130 : z_20[130]? = some (.int v130) := (hre_20 130 (by decide)).trans (hfh_25_130)
      have hfk_20_132 : z_20[132]? = some (.int v132) := (hre_20 132 (by decide)).trans (hfh_25_132)
      have hfk_20_134 : z_20[134]? = some (.int v134) := (hre_20 134 (by decide)).trans (hfh_25_134)
      have hfk_20_136 : z_20[136]? = some (.int v136) := (hre_20 136 (by decide)).trans (hfh_25_136)
      have hfk_20_137 : z_20[137]? = some (.ref qf137) := (hre_20 137 (by decide)).trans (hfh_25_137)
      have hrq_20 : ∀ j : Nat, j ≠ 117 → j ≠ 120 → j ≠ 131 → z_20[j]? = zs[j]? := fun j g117 g120 g131 => (hre_20 j g131).trans (hrh_25 j g117 g120 g131)
      obtain ⟨rfl, hz_20⟩ := hwa_20
      rcases hz_20 with rfl | rfl
      · rw [if_pos rfl] at hsp
        refine lv_if_eq (tgt := 1104) hx hb dX13_wanted_1093 (by decide) (fun c_143 => ?_) (fun c_143 => (show False by revert c_143; decide).elim)
        refine lv_iconst (v := 0) hx hb dX13_wanted_1104 (by decide) ?_
        have hr0 := Option.some.inj hsp
        clear hsp
        obtain ⟨hq0, hr1⟩ := Prod.mk.inj hr0
        clear hr0
        obtain ⟨hq1, hr2⟩ := Prod.mk.inj hr1
        clear hr1
        obtain ⟨hq2, hr3⟩ := Prod.mk.inj hr2
        clear hr2
        obtain ⟨hq3, hr4⟩ := Prod.mk.inj hr3
        clear hr3
        obtain ⟨hq4, hr5⟩ := Prod.mk.inj hr4
        clear hr4
        obtain ⟨hq5, hr6⟩ := Prod.mk.inj hr5
        clear hr5
        obtain ⟨hq6, hr7⟩ := Prod.mk.inj hr6
        clear hr6
        obtain ⟨hq7, hr8⟩ := Prod.mk.inj hr7
        clear hr7
        subst hq0
        subst hq1
        subst hq2
        subst hq3
        subst hq4
        subst hq5
        subst hq6
        subst hq7
        subst hr8
        have hP9 := hP.sub (ws' := [(h0, .inr (13, z_20)), (qf100, .inl (cf100, 48000, .inl f100)), (qf128, .inl (cf128, 31, .inl g128_25)), (qf127, .inl (cf127, 30, .inl g127_25)), (qf104, .inl (cf104, 8, .inl f104)), (qf102, .inl (cf102, 2048, .inl f102)), (qf118, .inl (cf118, 2100, .inl g118_25)), (qf119, .inl (cf119, 2100, .inl g119_25)), (qf105, .inl (cf105, 8, .inl f105)), (qf137, .inl (cf137, 6, .inl g137_25))]) [8, 0, 9, 1, 2, 3, 4, 5, 6, 7] rfl
        have hD9 := hD.sub (ws' := [(h0, .inr (13, z_20)), (qf100, .inl (cf100, 48000, .inl f100)), (qf128, .inl (cf128, 31, .inl g128_25)), (qf127, .inl (cf127, 30, .inl g127_25)), (qf104, .inl (cf104, 8, .inl f104)), (qf102, .inl (cf102, 2048, .inl f102)), (qf118, .inl (cf118, 2100, .inl g118_25)), (qf119, .inl (cf119, 2100, .inl g119_25)), (qf105, .inl (cf105, 8, .inl f105)), (qf137, .inl (cf137, 6, .inl g137_25))]) [8, 0, 9, 1, 2, 3, 4, 5, 6, 7] (by decide) rfl
        have hK9 := hK.sub (tys' := [(cf100, .int), (cf128, .int), (cf127, .int), (cf104, .int), (cf102, .int), (cf118, .int), (cf119, .int), (cf105, .int), (cf137, .int)]) [0, 8, 1, 2, 3, 4, 5, 6, 7] rfl
        exact W.zret hx hb hr (by decide) (fun t ht hW => ⟨⟨(0), (z_20), rfl, ⟨⟨rfl, Or.inl rfl⟩, hln_20, hrq_20, hfk_20_117, hfk_20_120, hch_20_131⟩, by rw [ht]; exact hP9, va_K.moved hW.alike hK9, hD9⟩, hS.F ht⟩) hS.2.2 dX13_wanted_1105
      · rw [if_neg (by decide)] at hsp
        refine lv_if_eq (tgt := 1104) hx hb dX13_wanted_1093 (by decide) (fun c_144 => (show False by revert c_144; decide).elim) (fun c_144 => ?_)
        refine lv_aload_n hx hb dX13_wanted_1096 rfl (lv_at hl 1 rfl) ?_
        refine lv_iconst (v := 1) hx hb dX13_wanted_1097 (by decide) ?_
        obtain ⟨⟨u21_0, u21_1⟩, hu_21, hsp⟩ := ox_bind hsp
        try dsimp only at hsp
        have hPc := hP.sub (ws' := [(h0, .inr (13, z_20)), (qf128, .inl (cf128, 31, .inl g128_25))]) [8, 9] rfl
        have hDc := hD.sub (ws' := [(h0, .inr (13, z_20)), (qf128, .inl (cf128, 31, .inl g128_25))]) [8, 9] (by decide) rfl
        have hKc := hK.sub (tys' := [(cf128, .int)]) [8] rfl
        have hFc := va_free (wc := [(h0, .inr (13, z_20)), (qf128, .inl (cf128, 31, .inl g128_25))]) hD hS hA [8, 9] rfl
        refine va_calli (va_runV (As := [.int 1]) (rest := []) ⟨hx, hb, hml, hown, hts⟩ (tn_pullInts l dC dI H.size h0 z_20 1 qf128 u20_1 cf128 g128_25 nf u21_0 u21_1 hln_20 hfk_20_128 hch_20_131 hu_21) (cwV 1 hts gv_h9_70 rfl rfl rfl (by decide +kernel) ⟨Nat.le_of_ble_eq_true rfl, Nat.le_of_ble_eq_true rfl⟩) ⟨fun a U g mk q => by obtain ⟨q0, q1, qP, qK, qD⟩ := q; exact ⟨q0, q1, qP, va_K.moved (u := U) (U := U.calling g mk a) (Vm.Alike.refl U.vm) qK, qD⟩, va_recv hKc hPc (ci := 13) (q0 := 0) rfl rfl, fun U hU hW => ⟨rfl, by rw [hU], by rw [hU]; exact hPc, va_K.moved hW.alike hKc, hDc.weaken (fun _ _ _ _ => trivial)⟩⟩ rfl rfl hl.1 rfl (lv_room (Nat.le_of_ble_eq_true rfl)) dX13_wanted_1098 ⟨Nat.le_of_ble_eq_true rfl, Nat.le_of_ble_eq_true rfl⟩) hS (fun q _ h => hFc q h) hFc ?_
        clear hS
        intro r_145 u t H1 locs ht hvm hw hB hz1 hk1 hS
        obtain ⟨z_21, rfl⟩ : ∃ z, z = u := ⟨_, rfl⟩
        obtain ⟨hP1, hK1, hD1⟩ := hB
        rw [ht] at hP1
        have hK1 := va_K.moved hvm.symm hK1
        try dsimp only at hw
        have hPD := va_join (wr := [(qf100, .inl (cf100, 48000, .inl f100)), (qf127, .inl (cf127, 30, .inl g127_25)), (qf104, .inl (cf104, 8, .inl f104)), (qf102, .inl (cf102, 2048, .inl f102)), (qf118, .inl (cf118, 2100, .inl g118_25)), (qf119, .inl (cf119, 2100, .inl g119_25)), (qf105, .inl (cf105, 8, .inl f105)), (qf137, .inl (cf137, 6, .inl g137_25))]) (w1 := [(h0, .inr (13, z_21)), (qf128, .inl (cf128, 31, .inl g128_25))]) hP hD [8, 9] [0, 1, 2, 3, 4, 5, 6, 7] rfl rfl (by decide) (by decide) hk1 hFc hP1 hD1
        clear hP hD
        obtain ⟨hP, hD⟩ := hPD
        replace hK := (hK.sub (tys' := [(cf100, .int), (cf127, .int), (cf104, .int), (cf102, .int), (cf118, .int), (cf119, .int), (cf105, .int), (cf137, .int)]) [0, 1, 2, 3, 4, 5, 6, 7] rfl).app hK1
        clear hPc hDc hKc hFc hP1 hK1 hD1 hz1 hk1 ht hvm
        generalize H1 = H at hP hS ⊢
        replace hP : va_P (dC, dI) vwCl [(qf100, .inl (cf100, 48000, .inl f100)), (qf127, .inl (cf127, 30, .inl g127_25)), (qf104, .inl (cf104, 8, .inl f104)), (qf102, .inl (cf102, 2048, .inl f102)), (qf118, .inl (cf118, 2100, .inl g118_25)), (qf119, .inl (cf119, 2100, .inl g119_25)), (qf105, .inl (cf105, 8, .inl f105)), (qf137, .inl (cf137, 6, .inl g137_25)), (h0, .inr (13, z_21)), (qf128, .inl (cf128, 31, .inl g128_25))] H := hP
        replace hD : va_D A [(qf100, .inl (cf100, 48000, .inl f100)), (qf127, .inl (cf127, 30, .inl g127_25)), (qf104, .inl (cf104, 8, .inl f104)), (qf102, .inl (cf102, 2048, .inl f102)), (qf118, .inl (cf118, 2100, .inl g118_25)), (qf119, .inl (cf119, 2100, .inl g119_25)), (qf105, .inl (cf105, 8, .inl f105)), (qf137, .inl (cf137, 6, .inl g137_25)), (h0, .inr (13, z_21)), (qf128, .inl (cf128, 31, .inl g128_25))] := hD
        replace hK : va_K (dC, dI) vwCl [(cf100, .int), (cf127, .int), (cf104, .int), (cf102, .int), (cf118, .int), (cf119, .int), (cf105, .int), (cf137, .int), (cf128, .int)] s := hK
        obtain ⟨hwa_21, hln_21, hre_21, hch_21_131⟩ := hw
        have hfk_21_98 : z_21[98]? = some (.int v98) := (hre_21 98 (by decide)).trans (hfk_20_98)
        have hfk_21_100 : z_21[100]? = some (.ref qf100) := (hre_21 100 (by decide)).trans (hfk_20_100)
        have hfk_21_102 : z_21[102]? = some (.ref qf102) := (hre_21 102 (by decide)).trans (hfk_20_102)
        have hfk_21_104 : z_21[104]? = some (.ref qf104) := (hre_21 104 (by decide)).trans (hfk_20_104)
        have hfk_21_105 : z_21[105]? = some (.ref qf105) := (hre_21 105 (by decide)).trans (hfk_20_105)
        have hfk_21_117 : z_21[117]? = some (.int x117_25) := (hre_21 117 (by decide)).trans (hfk_20_117)
        have hfk_21_118 : z_21[118]? = some (.ref qf118) := (hre_21 118 (by decide)).trans (hfk_20_118)
        have hfk_21_119 : z_21[119]? = some (.ref qf119) := (hre_21 119 (by decide)).trans (hfk_20_119)
        have hfk_21_120 : z_21[120]? = some (.int x120_25) := (hre_21 120 (by decide)).trans (hfk_20_120)
        have hfk_21_127 : z_21[127]? = some (.ref qf127) := (hre_21 127 (by decide)).trans (hfk_20_127)
        have hfk_21_128 : z_21[128]? = some (.ref qf128) := (hre_21 128 (by decide)).trans (hfk_20_128)
        have hfk_21_129 : z_21[129]? = some (.int v129) := (hre_21 129 (by decide)).trans (hfk_20_129)
        have hfk_21_130 : z_21[130]? = some (.int v130) := (hre_21 130 (by decide)).trans (hfk_20_130)
        have hfk_21_132 : z_21[132]? = some (.int v132) := (hre_21 132 (by decide)).trans (hfk_20_132)
        have hfk_21_134 : z_21[134]? = some (.int v134) := (hre_21 134 (by decide)).trans (hfk_20_134)
        have hfk_21_136 : z_21[136]? = some (.int v136) := (hre_21 136 (by decide)).trans (hfk_20_136)
        have hfk_21_137 : z_21[137]? = some (.ref qf137) := (hre_21 137 (by decide)).trans (hfk_20_137)
        have hrq_21 : ∀ j : Nat, j ≠ 117 → j ≠ 120 → j ≠ 131 → z_21[j]? = zs[j]? := fun j g117 g120 g131 => (hre_21 j g131).trans (hrq_20 j g117 g120 g131)
        obtain ⟨rfl, hz_21⟩ := hwa_21
        rcases hz_21 with rfl | rfl
        · rw [if_pos rfl] at hsp
          refine lv_if_ne (tgt := 1106) hx hb dX13_wanted_1101 (by decide) (fun c_146 => (show False by revert c_146; decide).elim) (fun c_146 => ?_)
          refine lv_iconst (v := 0) hx hb dX13_wanted_1104 (by decide) ?_
          have hr0 := Option.some.inj hsp
          clear hsp
          obtain ⟨hq0, hr1⟩ := Prod.mk.inj hr0
          clear hr0
          obtain ⟨hq1, hr2⟩ := Prod.mk.inj hr1
          clear hr1
          obtain ⟨hq2, hr3⟩ := Prod.mk.inj hr2
          clear hr2
          obtain ⟨hq3, hr4⟩ := Prod.mk.inj hr3
          clear hr3
          obtain ⟨hq4, hr5⟩ := Prod.mk.inj hr4
          clear hr4
          obtain ⟨hq5, hr6⟩ := Prod.mk.inj hr5
          clear hr5
          obtain ⟨hq6, hr7⟩ := Prod.mk.inj hr6
          clear hr6
          obtain ⟨hq7, hr8⟩ := Prod.mk.inj hr7
          clear hr7
          subst hq0
          subst hq1
          subst hq2
          subst hq3
          subst hq4
          subst hq5
          subst hq6
          subst hq7
          subst hr8
          have hP9 := hP.sub (ws' := [(h0, .inr (13, z_21)), (qf100, .inl (cf100, 48000, .inl f100)), (qf128, .inl (cf128, 31, .inl g128_25)), (qf127, .inl (cf127, 30, .inl g127_25)), (qf104, .inl (cf104, 8, .inl f104)), (qf102, .inl (cf102, 2048, .inl f102)), (qf118, .inl (cf118, 2100, .inl g118_25)), (qf119, .inl (cf119, 2100, .inl g119_25)), (qf105, .inl (cf105, 8, .inl f105)), (qf137, .inl (cf137, 6, .inl g137_25))]) [8, 0, 9, 1, 2, 3, 4, 5, 6, 7] rfl
          have hD9 := hD.sub (ws' := [(h0, .inr (13, z_21)), (qf100, .inl (cf100, 48000, .inl f100)), (qf128, .inl (cf128, 31, .inl g128_25)), (qf127, .inl (cf127, 30, .inl g127_25)), (qf104, .inl (cf104, 8, .inl f104)), (qf102, .inl (cf102, 2048, .inl f102)), (qf118, .inl (cf118, 2100, .inl g118_25)), (qf119, .inl (cf119, 2100, .inl g119_25)), (qf105, .inl (cf105, 8, .inl f105)), (qf137, .inl (cf137, 6, .inl g137_25))]) [8, 0, 9, 1, 2, 3, 4, 5, 6, 7] (by decide) rfl
          have hK9 := hK.sub (tys' := [(cf100, .int), (cf128, .int), (cf127, .int), (cf104, .int), (cf102, .int), (cf118, .int), (cf119, .int), (cf105, .int), (cf137, .int)]) [0, 8, 1, 2, 3, 4, 5, 6, 7] rfl
          exact W.zret hx hb hr (by decide) (fun t ht hW => ⟨⟨(0), (z_21), rfl, ⟨⟨rfl, Or.inl rfl⟩, hln_21, hrq_21, hfk_21_117, hfk_21_120, hch_21_131⟩, by rw [ht]; exact hP9, va_K.moved hW.alike hK9, hD9⟩, hS.F ht⟩) hS.2.2 dX13_wanted_1105
        · rw [if_neg (by decide)] at hsp
          refine lv_if_ne (tgt := 1106) hx hb dX13_wanted_1101 (by decide) (fun c_147 => ?_) (fun c_147 => (show False by revert c_147; decide).elim)
          refine lv_aload_n hx hb dX13_wanted_1106 rfl (lv_at hl 1 rfl) ?_
          obtain ⟨⟨u22_0, u22_1⟩, hu_22, hsp⟩ := ox_bind hsp
          try dsimp only at hsp
          have hPc := hP.sub (ws' := [(h0, .inr (13, z_21)), (qf128, .inl (cf128, 31, .inl g128_25))]) [8, 9] rfl
          have hDc := hD.sub (ws' := [(h0, .inr (13, z_21)), (qf128, .inl (cf128, 31, .inl g128_25))]) [8, 9] (by decide) rfl
          have hKc := hK.sub (tys' := [(cf128, .int)]) [8] rfl
          have hFc := va_free (wc := [(h0, .inr (13, z_21)), (qf128, .inl (cf128, 31, .inl g128_25))]) hD hS hA [8, 9] rfl
          refine va_calli (va_runV (As := []) (rest := []) ⟨hx, hb, hml, hown, hts⟩ (tm_pull l dC dI H.size h0 z_21 qf128 u21_1 cf128 g128_25 nf u22_0 u22_1 hln_21 hfk_21_128 hch_21_131 hu_22) (cwV 0 hts gv_h9_68 rfl rfl rfl (by decide +kernel) ⟨Nat.le_of_ble_eq_true rfl, Nat.le_of_ble_eq_true rfl⟩) ⟨fun a U g mk q => by obtain ⟨q0, q1, qP, qK, qD⟩ := q; exact ⟨q0, q1, qP, va_K.moved (u := U) (U := U.calling g mk a) (Vm.Alike.refl U.vm) qK, qD⟩, va_recv hKc hPc (ci := 13) (q0 := 0) rfl rfl, fun U hU hW => ⟨rfl, by rw [hU], by rw [hU]; exact hPc, va_K.moved hW.alike hKc, hDc.weaken (fun _ _ _ _ => trivial)⟩⟩ rfl rfl hl.1 rfl (lv_room (Nat.le_of_ble_eq_true rfl)) dX13_wanted_1107 ⟨Nat.le_of_ble_eq_true rfl, Nat.le_of_ble_eq_true rfl⟩) hS (fun q _ h => hFc q h) hFc ?_
          clear hS
          intro r_148 u t H1 locs ht hvm hw hB hz1 hk1 hS
          obtain ⟨z_22, rfl⟩ : ∃ z, z = u := ⟨_, rfl⟩
          obtain ⟨hP1, hK1, hD1⟩ := hB
          rw [ht] at hP1
          have hK1 := va_K.moved hvm.symm hK1
          try dsimp only at hw
          have hPD := va_join (wr := [(qf100, .inl (cf100, 48000, .inl f100)), (qf127, .inl (cf127, 30, .inl g127_25)), (qf104, .inl (cf104, 8, .inl f104)), (qf102, .inl (cf102, 2048, .inl f102)), (qf118, .inl (cf118, 2100, .inl g118_25)), (qf119, .inl (cf119, 2100, .inl g119_25)), (qf105, .inl (cf105, 8, .inl f105)), (qf137, .inl (cf137, 6, .inl g137_25))]) (w1 := [(h0, .inr (13, z_22)), (qf128, .inl (cf128, 31, .inl g128_25))]) hP hD [8, 9] [0, 1, 2, 3, 4, 5, 6, 7] rfl rfl (by decide) (by decide) hk1 hFc hP1 hD1
          clear hP hD
          obtain ⟨hP, hD⟩ := hPD
          replace hK := (hK.sub (tys' := [(cf100, .int), (cf127, .int), (cf104, .int), (cf102, .int), (cf118, .int), (cf119, .int), (cf105, .int), (cf137, .int)]) [0, 1, 2, 3, 4, 5, 6, 7] rfl).app hK1
          clear hPc hDc hKc hFc hP1 hK1 hD1 hz1 hk1 ht hvm
          generalize H1 = H at hP hS ⊢
          replace hP : va_P (dC, dI) vwCl [(qf100, .inl (cf100, 48000, .inl f100)), (qf127, .inl (cf127, 30, .inl g127_25)), (qf104, .inl (cf104, 8, .inl f104)), (qf102, .inl (cf102, 2048, .inl f102)), (qf118, .inl (cf118, 2100, .inl g118_25)), (qf119, .inl (cf119, 2100, .inl g119_25)), (qf105, .inl (cf105, 8, .inl f105)), (qf137, .inl (cf137, 6, .inl g137_25)), (h0, .inr (13, z_22)), (qf128, .inl (cf128, 31, .inl g128_25))] H := hP
          replace hD : va_D A [(qf100, .inl (cf100, 48000, .inl f100)), (qf127, .inl (cf127, 30, .inl g127_25)), (qf104, .inl (cf104, 8, .inl f104)), (qf102, .inl (cf102, 2048, .inl f102)), (qf118, .inl (cf118, 2100, .inl g118_25)), (qf119, .inl (cf119, 2100, .inl g119_25)), (qf105, .inl (cf105, 8, .inl f105)), (qf137, .inl (cf137, 6, .inl g137_25)), (h0, .inr (13, z_22)), (qf128, .inl (cf128, 31, .inl g128_25))] := hD
          replace hK : va_K (dC, dI) vwCl [(cf100, .int), (cf127, .int), (cf104, .int), (cf102, .int), (cf118, .int), (cf119, .int), (cf105, .int), (cf137, .int), (cf128, .int)] s := hK
          obtain ⟨hwa_22, hln_22, hre_22, hch_22_131⟩ := hw
          have hfk_22_98 : z_22[98]? = some (.int v98) := (hre_22 98 (by decide)).trans (hfk_21_98)
          have hfk_22_100 : z_22[100]? = some (.ref qf100) := (hre_22 100 (by decide)).trans (hfk_21_100)
          have hfk_22_102 : z_22[102]? = some (.ref qf102) := (hre_22 102 (by decide)).trans (hfk_21_102)
          have hfk_22_104 : z_22[104]? = some (.ref qf104) := (hre_22 104 (by decide)).trans (hfk_21_104)
          have hfk_22_105 : z_22[105]? = some (.ref qf105) := (hre_22 105 (by decide)).trans (hfk_21_105)
          have hfk_22_117 : z_22[117]? = some (.int x117_25) := (hre_22 117 (by decide)).trans (hfk_21_117)
          have hfk_22_118 : z_22[118]? = some (.ref qf118) := (hre_22 118 (by decide)).trans (hfk_21_118)
          have hfk_22_119 : z_22[119]? = some (.ref qf119) := (hre_22 119 (by decide)).trans (hfk_21_119)
          have hfk_22_120 : z_22[120]? = some (.int x120_25) := (hre_22 120 (by decide)).trans (hfk_21_120)
          have hfk_22_127 : z_22[127]? = some (.ref qf127) := (hre_22 127 (by decide)).trans (hfk_21_127)
          have hfk_22_128 : z_22[128]? = some (.ref qf128) := (hre_22 128 (by decide)).trans (hfk_21_128)
          have hfk_22_129 : z_22[129]? = some (.int v129) := (hre_22 129 (by decide)).trans (hfk_21_129)
          have hfk_22_130 : z_22[130]? = some (.int v130) := (hre_22 130 (by decide)).trans (hfk_21_130)
          have hfk_22_132 : z_22[132]? = some (.int v132) := (hre_22 132 (by decide)).trans (hfk_21_132)
          have hfk_22_134 : z_22[134]? = some (.int v134) := (hre_22 134 (by decide)).trans (hfk_21_134)
          have hfk_22_136 : z_22[136]? = some (.int v136) := (hre_22 136 (by decide)).trans (hfk_21_136)
          have hfk_22_137 : z_22[137]? = some (.ref qf137) := (hre_22 137 (by decide)).trans (hfk_21_137)
          have hrq_22 : ∀ j : Nat, j ≠ 117 → j ≠ 120 → j ≠ 131 → z_22[j]? = zs[j]? := fun j g117 g120 g131 => (hre_22 j g131).trans (hrq_21 j g117 g120 g131)
          obtain rfl := hwa_22
          refine lv_istore (lv' := [(4, .int u22_0), (3, .int s0_25), (0, .ref h0), (2, .int l2_25)]) hx hb dX13_wanted_1110 hl (by decide) rfl (fun ls hl => ?_)
          refine lv_iload hx hb dX13_wanted_1112 (lv_at hl 0 rfl) ?_
          refine lv_iconst (v := 2) hx hb dX13_wanted_1114 (by decide) ?_
          refine lv_icmp_eq (tgt := 1132) hx hb dX13_wanted_1115 (by decide) (fun c_149 => ?_) (fun c_149 => ?_)
          · rw [if_pos c_149] at hsp
            refine lv_iconst (v := 1) hx hb dX13_wanted_1132 (by decide) ?_
            refine lv_goto (tgt := 1137) hx hb dX13_wanted_1133 (by decide) ?_
            have hr0 := Option.some.inj hsp
            clear hsp
            obtain ⟨hq0, hr1⟩ := Prod.mk.inj hr0
            clear hr0
            obtain ⟨hq1, hr2⟩ := Prod.mk.inj hr1
            clear hr1
            obtain ⟨hq2, hr3⟩ := Prod.mk.inj hr2
            clear hr2
            obtain ⟨hq3, hr4⟩ := Prod.mk.inj hr3
            clear hr3
            obtain ⟨hq4, hr5⟩ := Prod.mk.inj hr4
            clear hr4
            obtain ⟨hq5, hr6⟩ := Prod.mk.inj hr5
            clear hr5
            obtain ⟨hq6, hr7⟩ := Prod.mk.inj hr6
            clear hr6
            obtain ⟨hq7, hr8⟩ := Prod.mk.inj hr7
            clear hr7
            subst hq0
            subst hq1
            subst hq2
            subst hq3
            subst hq4
            subst hq5
            subst hq6
            subst hq7
            subst hr8
            have hP9 := hP.sub (ws' := [(h0, .inr (13, z_22)), (qf100, .inl (cf100, 48000, .inl f100)), (qf128, .inl (cf128, 31, .inl g128_25)), (qf127, .inl (cf127, 30, .inl g127_25)), (qf104, .inl (cf104, 8, .inl f104)), (qf102, .inl (cf102, 2048, .inl f102)), (qf118, .inl (cf118, 2100, .inl g118_25)), (qf119, .inl (cf119, 2100, .inl g119_25)), (qf105, .inl (cf105, 8, .inl f105)), (qf137, .inl (cf137, 6, .inl g137_25))]) [8, 0, 9, 1, 2, 3, 4, 5, 6, 7] rfl
            have hD9 := hD.sub (ws' := [(h0, .inr (13, z_22)), (qf100, .inl (cf100, 48000, .inl f100)), (qf128, .inl (cf128, 31, .inl g128_25)), (qf127, .inl (cf127, 30, .inl g127_25)), (qf104, .inl (cf104, 8, .inl f104)), (qf102, .inl (cf102, 2048, .inl f102)), (qf118, .inl (cf118, 2100, .inl g118_25)), (qf119, .inl (cf119, 2100, .inl g119_25)), (qf105, .inl (cf105, 8, .inl f105)), (qf137, .inl (cf137, 6, .inl g137_25))]) [8, 0, 9, 1, 2, 3, 4, 5, 6, 7] (by decide) rfl
            have hK9 := hK.sub (tys' := [(cf100, .int), (cf128, .int), (cf127, .int), (cf104, .int), (cf102, .int), (cf118, .int), (cf119, .int), (cf105, .int), (cf137, .int)]) [0, 8, 1, 2, 3, 4, 5, 6, 7] rfl
            exact W.zret hx hb hr (by decide) (fun t ht hW => ⟨⟨(1), (z_22), rfl, ⟨⟨rfl, Or.inr rfl⟩, hln_22, hrq_22, hfk_22_117, hfk_22_120, hch_22_131⟩, by rw [ht]; exact hP9, va_K.moved hW.alike hK9, hD9⟩, hS.F ht⟩) hS.2.2 dX13_wanted_1137
          · rw [if_neg c_149] at hsp
            refine lv_iload hx hb dX13_wanted_1118 (lv_at hl 0 rfl) ?_
            refine lv_iconst (v := 3) hx hb dX13_wanted_1120 (by decide) ?_
            refine lv_icmp_le (tgt := 1136) hx hb dX13_wanted_1121 (by decide) (fun c_150 => ?_) (fun c_150 => ?_)
            · rw [if_pos c_150] at hsp
              refine lv_iconst (v := 0) hx hb dX13_wanted_1136 (by decide) ?_
              have hr0 := Option.some.inj hsp
              clear hsp
              obtain ⟨hq0, hr1⟩ := Prod.mk.inj hr0
              clear hr0
              obtain ⟨hq1, hr2⟩ := Prod.mk.inj hr1
              clear hr1
              obtain ⟨hq2, hr3⟩ := Prod.mk.inj hr2
              clear hr2
              obtain ⟨hq3, hr4⟩ := Prod.mk.inj hr3
              clear hr3
              obtain ⟨hq4, hr5⟩ := Prod.mk.inj hr4
              clear hr4
              obtain ⟨hq5, hr6⟩ := Prod.mk.inj hr5
              clear hr5
              obtain ⟨hq6, hr7⟩ := Prod.mk.inj hr6
              clear hr6
              obtain ⟨hq7, hr8⟩ := Prod.mk.inj hr7
              clear hr7
              subst hq0
              subst hq1
              subst hq2
              subst hq3
              subst hq4
              subst hq5
              subst hq6
              subst hq7
              subst hr8
              have hP9 := hP.sub (ws' := [(h0, .inr (13, z_22)), (qf100, .inl (cf100, 48000, .inl f100)), (qf128, .inl (cf128, 31, .inl g128_25)), (qf127, .inl (cf127, 30, .inl g127_25)), (qf104, .inl (cf104, 8, .inl f104)), (qf102, .inl (cf102, 2048, .inl f102)), (qf118, .inl (cf118, 2100, .inl g118_25)), (qf119, .inl (cf119, 2100, .inl g119_25)), (qf105, .inl (cf105, 8, .inl f105)), (qf137, .inl (cf137, 6, .inl g137_25))]) [8, 0, 9, 1, 2, 3, 4, 5, 6, 7] rfl
              have hD9 := hD.sub (ws' := [(h0, .inr (13, z_22)), (qf100, .inl (cf100, 48000, .inl f100)), (qf128, .inl (cf128, 31, .inl g128_25)), (qf127, .inl (cf127, 30, .inl g127_25)), (qf104, .inl (cf104, 8, .inl f104)), (qf102, .inl (cf102, 2048, .inl f102)), (qf118, .inl (cf118, 2100, .inl g118_25)), (qf119, .inl (cf119, 2100, .inl g119_25)), (qf105, .inl (cf105, 8, .inl f105)), (qf137, .inl (cf137, 6, .inl g137_25))]) [8, 0, 9, 1, 2, 3, 4, 5, 6, 7] (by decide) rfl
              have hK9 := hK.sub (tys' := [(cf100, .int), (cf128, .int), (cf127, .int), (cf104, .int), (cf102, .int), (cf118, .int), (cf119, .int), (cf105, .int), (cf137, .int)]) [0, 8, 1, 2, 3, 4, 5, 6, 7] rfl
              exact W.zret hx hb hr (by decide) (fun t ht hW => ⟨⟨(0), (z_22), rfl, ⟨⟨rfl, Or.inl rfl⟩, hln_22, hrq_22, hfk_22_117, hfk_22_120, hch_22_131⟩, by rw [ht]; exact hP9, va_K.moved hW.alike hK9, hD9⟩, hS.F ht⟩) hS.2.2 dX13_wanted_1137
            · rw [if_neg c_150] at hsp
              refine lv_iload hx hb dX13_wanted_1124 (lv_at hl 0 rfl) ?_
              obtain ⟨u23_0, hu_23, hsp⟩ := ox_bind hsp
              try dsimp only at hsp
              have hPc := hP.sub (ws' := []) [] rfl
              have hDc := hD.sub (ws' := []) [] (by decide) rfl
              have hKc := hK.sub (tys' := []) [] rfl
              have hFc := va_free (wc := []) hD hS hA [] rfl
              refine va_calli (va_runS (As := [.int u22_0]) (rest := []) ⟨hx, hb, hml, hown, hts⟩ (tm_isRow l dC dI H.size u22_0 nf u23_0 hu_23) (va_cwS 1 hts gv_h9_56 rfl rfl rfl (by decide +kernel) ⟨Nat.le_of_ble_eq_true rfl, Nat.le_of_ble_eq_true rfl⟩) ⟨fun a U g mk q => by obtain ⟨q0, q1, qP, qK, qD⟩ := q; exact ⟨q0, q1, qP, va_K.moved (u := U) (U := U.calling g mk a) (Vm.Alike.refl U.vm) qK, qD⟩, fun U hU hW => ⟨rfl, by rw [hU], by rw [hU]; exact hPc, va_K.moved hW.alike hKc, hDc.weaken (fun _ _ _ _ => trivial)⟩⟩ rfl rfl hl.1 rfl (lv_room (Nat.le_of_ble_eq_true rfl)) dX13_wanted_1126 ⟨Nat.le_of_ble_eq_true rfl, Nat.le_of_ble_eq_true rfl⟩) hS (fun q _ h => hFc q h) hFc ?_
              clear hS
              intro r_151 u t H1 locs ht hvm hw hB hz1 hk1 hS
              obtain ⟨⟩ := u
              obtain ⟨hP1, hK1, hD1⟩ := hB
              rw [ht] at hP1
              have hK1 := va_K.moved hvm.symm hK1
              try dsimp only at hw
              have hPD := va_join (wr := [(qf100, .inl (cf100, 48000, .inl f100)), (qf127, .inl (cf127, 30, .inl g127_25)), (qf104, .inl (cf104, 8, .inl f104)), (qf102, .inl (cf102, 2048, .inl f102)), (qf118, .inl (cf118, 2100, .inl g118_25)), (qf119, .inl (cf119, 2100, .inl g119_25)), (qf105, .inl (cf105, 8, .inl f105)), (qf137, .inl (cf137, 6, .inl g137_25)), (h0, .inr (13, z_22)), (qf128, .inl (cf128, 31, .inl g128_25))]) (w1 := []) hP hD [] [0, 1, 2, 3, 4, 5, 6, 7, 8, 9] rfl rfl (by decide) (by decide) hk1 hFc hP1 hD1
              clear hP hD
              obtain ⟨hP, hD⟩ := hPD
              replace hK := (hK.sub (tys' := [(cf100, .int), (cf127, .int), (cf104, .int), (cf102, .int), (cf118, .int), (cf119, .int), (cf105, .int), (cf137, .int), (cf128, .int)]) [0, 1, 2, 3, 4, 5, 6, 7, 8] rfl).app hK1
              clear hPc hDc hKc hFc hP1 hK1 hD1 hz1 hk1 ht hvm
              generalize H1 = H at hP hS ⊢
              replace hP : va_P (dC, dI) vwCl [(qf100, .inl (cf100, 48000, .inl f100)), (qf127, .inl (cf127, 30, .inl g127_25)), (qf104, .inl (cf104, 8, .inl f104)), (qf102, .inl (cf102, 2048, .inl f102)), (qf118, .inl (cf118, 2100, .inl g118_25)), (qf119, .inl (cf119, 2100, .inl g119_25)), (qf105, .inl (cf105, 8, .inl f105)), (qf137, .inl (cf137, 6, .inl g137_25)), (h0, .inr (13, z_22)), (qf128, .inl (cf128, 31, .inl g128_25))] H := hP
              replace hD : va_D A [(qf100, .inl (cf100, 48000, .inl f100)), (qf127, .inl (cf127, 30, .inl g127_25)), (qf104, .inl (cf104, 8, .inl f104)), (qf102, .inl (cf102, 2048, .inl f102)), (qf118, .inl (cf118, 2100, .inl g118_25)), (qf119, .inl (cf119, 2100, .inl g119_25)), (qf105, .inl (cf105, 8, .inl f105)), (qf137, .inl (cf137, 6, .inl g137_25)), (h0, .inr (13, z_22)), (qf128, .inl (cf128, 31, .inl g128_25))] := hD
              replace hK : va_K (dC, dI) vwCl [(cf100, .int), (cf127, .int), (cf104, .int), (cf102, .int), (cf118, .int), (cf119, .int), (cf105, .int), (cf137, .int), (cf128, .int)] s := hK
              obtain ⟨rfl, hz_23⟩ := hw
              rcases hz_23 with rfl | rfl
              · rw [if_pos rfl] at hsp
                refine lv_if_eq (tgt := 1136) hx hb dX13_wanted_1129 (by decide) (fun c_152 => ?_) (fun c_152 => (show False by revert c_152; decide).elim)
                refine lv_iconst (v := 0) hx hb dX13_wanted_1136 (by decide) ?_
                have hr0 := Option.some.inj hsp
                clear hsp
                obtain ⟨hq0, hr1⟩ := Prod.mk.inj hr0
                clear hr0
                obtain ⟨hq1, hr2⟩ := Prod.mk.inj hr1
                clear hr1
                obtain ⟨hq2, hr3⟩ := Prod.mk.inj hr2
                clear hr2
                obtain ⟨hq3, hr4⟩ := Prod.mk.inj hr3
                clear hr3
                obtain ⟨hq4, hr5⟩ := Prod.mk.inj hr4
                clear hr4
                obtain ⟨hq5, hr6⟩ := Prod.mk.inj hr5
                clear hr5
                obtain ⟨hq6, hr7⟩ := Prod.mk.inj hr6
                clear hr6
                obtain ⟨hq7, hr8⟩ := Prod.mk.inj hr7
                clear hr7
                subst hq0
                subst hq1
                subst hq2
                subst hq3
                subst hq4
                subst hq5
                subst hq6
                subst hq7
                subst hr8
                have hP9 := hP.sub (ws' := [(h0, .inr (13, z_22)), (qf100, .inl (cf100, 48000, .inl f100)), (qf128, .inl (cf128, 31, .inl g128_25)), (qf127, .inl (cf127, 30, .inl g127_25)), (qf104, .inl (cf104, 8, .inl f104)), (qf102, .inl (cf102, 2048, .inl f102)), (qf118, .inl (cf118, 2100, .inl g118_25)), (qf119, .inl (cf119, 2100, .inl g119_25)), (qf105, .inl (cf105, 8, .inl f105)), (qf137, .inl (cf137, 6, .inl g137_25))]) [8, 0, 9, 1, 2, 3, 4, 5, 6, 7] rfl
                have hD9 := hD.sub (ws' := [(h0, .inr (13, z_22)), (qf100, .inl (cf100, 48000, .inl f100)), (qf128, .inl (cf128, 31, .inl g128_25)), (qf127, .inl (cf127, 30, .inl g127_25)), (qf104, .inl (cf104, 8, .inl f104)), (qf102, .inl (cf102, 2048, .inl f102)), (qf118, .inl (cf118, 2100, .inl g118_25)), (qf119, .inl (cf119, 2100, .inl g119_25)), (qf105, .inl (cf105, 8, .inl f105)), (qf137, .inl (cf137, 6, .inl g137_25))]) [8, 0, 9, 1, 2, 3, 4, 5, 6, 7] (by decide) rfl
                have hK9 := hK.sub (tys' := [(cf100, .int), (cf128, .int), (cf127, .int), (cf104, .int), (cf102, .int), (cf118, .int), (cf119, .int), (cf105, .int), (cf137, .int)]) [0, 8, 1, 2, 3, 4, 5, 6, 7] rfl
                exact W.zret hx hb hr (by decide) (fun t ht hW => ⟨⟨(0), (z_22), rfl, ⟨⟨rfl, Or.inl rfl⟩, hln_22, hrq_22, hfk_22_117, hfk_22_120, hch_22_131⟩, by rw [ht]; exact hP9, va_K.moved hW.alike hK9, hD9⟩, hS.F ht⟩) hS.2.2 dX13_wanted_1137
              · rw [if_neg (by decide)] at hsp
                refine lv_if_eq (tgt := 1136) hx hb dX13_wanted_1129 (by decide) (fun c_153 => (show False by revert c_153; decide).elim) (fun c_153 => ?_)
                refine lv_iconst (v := 1) hx hb dX13_wanted_1132 (by decide) ?_
                refine lv_goto (tgt := 1137) hx hb dX13_wanted_1133 (by decide) ?_
                have hr0 := Option.some.inj hsp
                clear hsp
                obtain ⟨hq0, hr1⟩ := Prod.mk.inj hr0
                clear hr0
                obtain ⟨hq1, hr2⟩ := Prod.mk.inj hr1
                clear hr1
                obtain ⟨hq2, hr3⟩ := Prod.mk.inj hr2
                clear hr2
                obtain ⟨hq3, hr4⟩ := Prod.mk.inj hr3
                clear hr3
                obtain ⟨hq4, hr5⟩ := Prod.mk.inj hr4
                clear hr4
                obtain ⟨hq5, hr6⟩ := Prod.mk.inj hr5
                clear hr5
                obtain ⟨hq6, hr7⟩ := Prod.mk.inj hr6
                clear hr6
                obtain ⟨hq7, hr8⟩ := Prod.mk.inj hr7
                clear hr7
                subst hq0
                subst hq1
                subst hq2
                subst hq3
                subst hq4
                subst hq5
                subst hq6
                subst hq7
                subst hr8
                have hP9 := hP.sub (ws' := [(h0, .inr (13, z_22)), (qf100, .inl (cf100, 48000, .inl f100)), (qf128, .inl (cf128, 31, .inl g128_25)), (qf127, .inl (cf127, 30, .inl g127_25)), (qf104, .inl (cf104, 8, .inl f104)), (qf102, .inl (cf102, 2048, .inl f102)), (qf118, .inl (cf118, 2100, .inl g118_25)), (qf119, .inl (cf119, 2100, .inl g119_25)), (qf105, .inl (cf105, 8, .inl f105)), (qf137, .inl (cf137, 6, .inl g137_25))]) [8, 0, 9, 1, 2, 3, 4, 5, 6, 7] rfl
                have hD9 := hD.sub (ws' := [(h0, .inr (13, z_22)), (qf100, .inl (cf100, 48000, .inl f100)), (qf128, .inl (cf128, 31, .inl g128_25)), (qf127, .inl (cf127, 30, .inl g127_25)), (qf104, .inl (cf104, 8, .inl f104)), (qf102, .inl (cf102, 2048, .inl f102)), (qf118, .inl (cf118, 2100, .inl g118_25)), (qf119, .inl (cf119, 2100, .inl g119_25)), (qf105, .inl (cf105, 8, .inl f105)), (qf137, .inl (cf137, 6, .inl g137_25))]) [8, 0, 9, 1, 2, 3, 4, 5, 6, 7] (by decide) rfl
                have hK9 := hK.sub (tys' := [(cf100, .int), (cf128, .int), (cf127, .int), (cf104, .int), (cf102, .int), (cf118, .int), (cf119, .int), (cf105, .int), (cf137, .int)]) [0, 8, 1, 2, 3, 4, 5, 6, 7] rfl
                exact W.zret hx hb hr (by decide) (fun t ht hW => ⟨⟨(1), (z_22), rfl, ⟨⟨rfl, Or.inr rfl⟩, hln_22, hrq_22, hfk_22_117, hfk_22_120, hch_22_131⟩, by rw [ht]; exact hP9, va_K.moved hW.alike hK9, hD9⟩, hS.F ht⟩) hS.2.2 dX13_wanted_1137
    rw [if_neg hs_141] at hsp
    by_cases hs_154 : l2_25 = 84
    · rw [if_pos hs_154] at hsp
      refine lv_tableIn (tgt := 1642) hx hb dX13_wanted_27 (by rw [hs_154]; decide) (by rw [hs_154]; decide) (off := 1615) (by rw [hs_154]; rfl) (by decide) ?_
      exact hj_1642 (H, locs, ls, z25, g118_25, g119_25, g127_25, g128_25, g137_25, x117_25, x120_25, x131_25) ⟨lv_sub hl [1] rfl, hS, hD.sub (ws' := [(h0, .inr (13, z25)), (qf100, .inl (cf100, 48000, .inl f100)), (qf128, .inl (cf128, 31, .inl g128_25)), (qf127, .inl (cf127, 30, .inl g127_25)), (qf104, .inl (cf104, 8, .inl f104)), (qf102, .inl (cf102, 2048, .inl f102)), (qf118, .inl (cf118, 2100, .inl g118_25)), (qf119, .inl (cf119, 2100, .inl g119_25)), (qf105, .inl (cf105, 8, .inl f105)), (qf137, .inl (cf137, 6, .inl g137_25))]) [0, 1, 2, 3, 4, 5, 6, 7, 8, 9] (by decide) rfl, hP.sub (ws' := [(h0, .inr (13, z25)), (qf100, .inl (cf100, 48000, .inl f100)), (qf128, .inl (cf128, 31, .inl g128_25)), (qf127, .inl (cf127, 30, .inl g127_25)), (qf104, .inl (cf104, 8, .inl f104)), (qf102, .inl (cf102, 2048, .inl f102)), (qf118, .inl (cf118, 2100, .inl g118_25)), (qf119, .inl (cf119, 2100, .inl g119_25)), (qf105, .inl (cf105, 8, .inl f105)), (qf137, .inl (cf137, 6, .inl g137_25))]) [0, 1, 2, 3, 4, 5, 6, 7, 8, 9] rfl, hfh_25_98, hfh_25_100, hfh_25_102, hfh_25_104, hfh_25_105, hfh_25_117, hfh_25_118, hfh_25_119, hfh_25_120, hfh_25_127, hfh_25_128, hfh_25_129, hfh_25_130, hfh_25_131, hfh_25_132, hfh_25_134, hfh_25_136, hfh_25_137, hlh_25, hrh_25, hsp⟩
    rw [if_neg hs_154] at hsp
    by_cases hs_155 : l2_25 = 85
    · rw [if_pos hs_155] at hsp
      refine lv_tableIn (tgt := 1642) hx hb dX13_wanted_27 (by rw [hs_155]; decide) (by rw [hs_155]; decide) (off := 1615) (by rw [hs_155]; rfl) (by decide) ?_
      exact hj_1642 (H, locs, ls, z25, g118_25, g119_25, g127_25, g128_25, g137_25, x117_25, x120_25, x131_25) ⟨lv_sub hl [1] rfl, hS, hD.sub (ws' := [(h0, .inr (13, z25)), (qf100, .inl (cf100, 48000, .inl f100)), (qf128, .inl (cf128, 31, .inl g128_25)), (qf127, .inl (cf127, 30, .inl g127_25)), (qf104, .inl (cf104, 8, .inl f104)), (qf102, .inl (cf102, 2048, .inl f102)), (qf118, .inl (cf118, 2100, .inl g118_25)), (qf119, .inl (cf119, 2100, .inl g119_25)), (qf105, .inl (cf105, 8, .inl f105)), (qf137, .inl (cf137, 6, .inl g137_25))]) [0, 1, 2, 3, 4, 5, 6, 7, 8, 9] (by decide) rfl, hP.sub (ws' := [(h0, .inr (13, z25)), (qf100, .inl (cf100, 48000, .inl f100)), (qf128, .inl (cf128, 31, .inl g128_25)), (qf127, .inl (cf127, 30, .inl g127_25)), (qf104, .inl (cf104, 8, .inl f104)), (qf102, .inl (cf102, 2048, .inl f102)), (qf118, .inl (cf118, 2100, .inl g118_25)), (qf119, .inl (cf119, 2100, .inl g119_25)), (qf105, .inl (cf105, 8, .inl f105)), (qf137, .inl (cf137, 6, .inl g137_25))]) [0, 1, 2, 3, 4, 5, 6, 7, 8, 9] rfl, hfh_25_98, hfh_25_100, hfh_25_102, hfh_25_104, hfh_25_105, hfh_25_117, hfh_25_118, hfh_25_119, hfh_25_120, hfh_25_127, hfh_25_128, hfh_25_129, hfh_25_130, hfh_25_131, hfh_25_132, hfh_25_134, hfh_25_136, hfh_25_137, hlh_25, hrh_25, hsp⟩
    rw [if_neg hs_155] at hsp
    by_cases hs_156 : l2_25 = 86
    · rw [if_pos hs_156] at hsp
      refine lv_tableIn (tgt := 1642) hx hb dX13_wanted_27 (by rw [hs_156]; decide) (by rw [hs_156]; decide) (off := 1615) (by rw [hs_156]; rfl) (by decide) ?_
      exact hj_1642 (H, locs, ls, z25, g118_25, g119_25, g127_25, g128_25, g137_25, x117_25, x120_25, x131_25) ⟨lv_sub hl [1] rfl, hS, hD.sub (ws' := [(h0, .inr (13, z25)), (qf100, .inl (cf100, 48000, .inl f100)), (qf128, .inl (cf128, 31, .inl g128_25)), (qf127, .inl (cf127, 30, .inl g127_25)), (qf104, .inl (cf104, 8, .inl f104)), (qf102, .inl (cf102, 2048, .inl f102)), (qf118, .inl (cf118, 2100, .inl g118_25)), (qf119, .inl (cf119, 2100, .inl g119_25)), (qf105, .inl (cf105, 8, .inl f105)), (qf137, .inl (cf137, 6, .inl g137_25))]) [0, 1, 2, 3, 4, 5, 6, 7, 8, 9] (by decide) rfl, hP.sub (ws' := [(h0, .inr (13, z25)), (qf100, .inl (cf100, 48000, .inl f100)), (qf128, .inl (cf128, 31, .inl g128_25)), (qf127, .inl (cf127, 30, .inl g127_25)), (qf104, .inl (cf104, 8, .inl f104)), (qf102, .inl (cf102, 2048, .inl f102)), (qf118, .inl (cf118, 2100, .inl g118_25)), (qf119, .inl (cf119, 2100, .inl g119_25)), (qf105, .inl (cf105, 8, .inl f105)), (qf137, .inl (cf137, 6, .inl g137_25))]) [0, 1, 2, 3, 4, 5, 6, 7, 8, 9] rfl, hfh_25_98, hfh_25_100, hfh_25_102, hfh_25_104, hfh_25_105, hfh_25_117, hfh_25_118, hfh_25_119, hfh_25_120, hfh_25_127, hfh_25_128, hfh_25_129, hfh_25_130, hfh_25_131, hfh_25_132, hfh_25_134, hfh_25_136, hfh_25_137, hlh_25, hrh_25, hsp⟩
    rw [if_neg hs_156] at hsp
    by_cases hs_157 : l2_25 = 87
    · rw [if_pos hs_157] at hsp
      refine lv_tableIn (tgt := 1138) hx hb dX13_wanted_27 (by rw [hs_157]; decide) (by rw [hs_157]; decide) (off := 1111) (by rw [hs_157]; rfl) (by decide) ?_
      refine lv_aload_n hx hb dX13_wanted_1138 rfl (lv_at hl 1 rfl) ?_
      obtain ⟨⟨u24_0, u24_1⟩, hu_24, hsp⟩ := ox_bind hsp
      try dsimp only at hsp
      have hPc := hP.sub (ws' := [(h0, .inr (13, z25)), (qf128, .inl (cf128, 31, .inl g128_25))]) [0, 2] rfl
      have hDc := hD.sub (ws' := [(h0, .inr (13, z25)), (qf128, .inl (cf128, 31, .inl g128_25))]) [0, 2] (by decide) rfl
      have hKc := hK.sub (tys' := [(cf128, .int)]) [1] rfl
      have hFc := va_free (wc := [(h0, .inr (13, z25)), (qf128, .inl (cf128, 31, .inl g128_25))]) hD hS hA [0, 2] rfl
      refine va_calli (va_runV (As := []) (rest := []) ⟨hx, hb, hml, hown, hts⟩ (tm_pull l dC dI H.size h0 z25 qf128 x131_25 cf128 g128_25 nf u24_0 u24_1 hlh_25 hfh_25_128 hfh_25_131 hu_24) (cwV 0 hts gv_h9_68 rfl rfl rfl (by decide +kernel) ⟨Nat.le_of_ble_eq_true rfl, Nat.le_of_ble_eq_true rfl⟩) ⟨fun a U g mk q => by obtain ⟨q0, q1, qP, qK, qD⟩ := q; exact ⟨q0, q1, qP, va_K.moved (u := U) (U := U.calling g mk a) (Vm.Alike.refl U.vm) qK, qD⟩, va_recv hKc hPc (ci := 13) (q0 := 0) rfl rfl, fun U hU hW => ⟨rfl, by rw [hU], by rw [hU]; exact hPc, va_K.moved hW.alike hKc, hDc.weaken (fun _ _ _ _ => trivial)⟩⟩ rfl rfl hl.1 rfl (lv_room (Nat.le_of_ble_eq_true rfl)) dX13_wanted_1139 ⟨Nat.le_of_ble_eq_true rfl, Nat.le_of_ble_eq_true rfl⟩) hS (fun q _ h => hFc q h) hFc ?_
      clear hS
      intro r_158 u t H1 locs ht hvm hw hB hz1 hk1 hS
      obtain ⟨z_24, rfl⟩ : ∃ z, z = u := ⟨_, rfl⟩
      obtain ⟨hP1, hK1, hD1⟩ := hB
      rw [ht] at hP1
      have hK1 := va_K.moved hvm.symm hK1
      try dsimp only at hw
      have hPD := va_join (wr := [(qf100, .inl (cf100, 48000, .inl f100)), (qf127, .inl (cf127, 30, .inl g127_25)), (qf104, .inl (cf104, 8, .inl f104)), (qf102, .inl (cf102, 2048, .inl f102)), (qf118, .inl (cf118, 2100, .inl g118_25)), (qf119, .inl (cf119, 2100, .inl g119_25)), (qf105, .inl (cf105, 8, .inl f105)), (qf137, .inl (cf137, 6, .inl g137_25))]) (w1 := [(h0, .inr (13, z_24)), (qf128, .inl (cf128, 31, .inl g128_25))]) hP hD [0, 2] [1, 3, 4, 5, 6, 7, 8, 9] rfl rfl (by decide) (by decide) hk1 hFc hP1 hD1
      clear hP hD
      obtain ⟨hP, hD⟩ := hPD
      replace hK := (hK.sub (tys' := [(cf100, .int), (cf127, .int), (cf104, .int), (cf102, .int), (cf118, .int), (cf119, .int), (cf105, .int), (cf137, .int)]) [0, 2, 3, 4, 5, 6, 7, 8] rfl).app hK1
      clear hPc hDc hKc hFc hP1 hK1 hD1 hz1 hk1 ht hvm
      generalize H1 = H at hP hS ⊢
      replace hP : va_P (dC, dI) vwCl [(qf100, .inl (cf100, 48000, .inl f100)), (qf127, .inl (cf127, 30, .inl g127_25)), (qf104, .inl (cf104, 8, .inl f104)), (qf102, .inl (cf102, 2048, .inl f102)), (qf118, .inl (cf118, 2100, .inl g118_25)), (qf119, .inl (cf119, 2100, .inl g119_25)), (qf105, .inl (cf105, 8, .inl f105)), (qf137, .inl (cf137, 6, .inl g137_25)), (h0, .inr (13, z_24)), (qf128, .inl (cf128, 31, .inl g128_25))] H := hP
      replace hD : va_D A [(qf100, .inl (cf100, 48000, .inl f100)), (qf127, .inl (cf127, 30, .inl g127_25)), (qf104, .inl (cf104, 8, .inl f104)), (qf102, .inl (cf102, 2048, .inl f102)), (qf118, .inl (cf118, 2100, .inl g118_25)), (qf119, .inl (cf119, 2100, .inl g119_25)), (qf105, .inl (cf105, 8, .inl f105)), (qf137, .inl (cf137, 6, .inl g137_25)), (h0, .inr (13, z_24)), (qf128, .inl (cf128, 31, .inl g128_25))] := hD
      replace hK : va_K (dC, dI) vwCl [(cf100, .int), (cf127, .int), (cf104, .int), (cf102, .int), (cf118, .int), (cf119, .int), (cf105, .int), (cf137, .int), (cf128, .int)] s := hK
      obtain ⟨hwa_24, hln_24, hre_24, hch_24_131⟩ := hw
      have hfk_24_98 : z_24[98]? = some (.int v98) := (hre_24 98 (by decide)).trans (hfh_25_98)
      have hfk_24_100 : z_24[100]? = some (.ref qf100) := (hre_24 100 (by decide)).trans (hfh_25_100)
      have hfk_24_102 : z_24[102]? = some (.ref qf102) := (hre_24 102 (by decide)).trans (hfh_25_102)
      have hfk_24_104 : z_24[104]? = some (.ref qf104) := (hre_24 104 (by decide)).trans (hfh_25_104)
      have hfk_24_105 : z_24[105]? = some (.ref qf105) := (hre_24 105 (by decide)).trans (hfh_25_105)
      have hfk_24_117 : z_24[117]? = some (.int x117_25) := (hre_24 117 (by decide)).trans (hfh_25_117)
      have hfk_24_118 : z_24[118]? = some (.ref qf118) := (hre_24 118 (by decide)).trans (hfh_25_118)
      have hfk_24_119 : z_24[119]? = some (.ref qf119) := (hre_24 119 (by decide)).trans (hfh_25_119)
      have hfk_24_120 : z_24[120]? = some (.int x120_25) := (hre_24 120 (by decide)).trans (hfh_25_120)
      have hfk_24_127 : z_24[127]? = some (.ref qf127) := (hre_24 127 (by decide)).trans (hfh_25_127)
      have hfk_24_128 : z_24[128]? = some (.ref qf128) := (hre_24 128 (by decide)).trans (hfh_25_128)
      have hfk_24_129 : z_24[129]? = some (.int v129) := (hre_24 129 (by decide)).trans (hfh_25_129)
      have hfk_24_130 : z_24[130]? = some (.int v130) := (hre_24 130 (by decide)).trans (hfh_25_130)
      have hfk_24_132 : z_24[132]? = some (.int v132) := (hre_24 132 (by decide)).trans (hfh_25_132)
      have hfk_24_134 : z_24[134]? = some (.int v134) := (hre_24 134 (by decide)).trans (hfh_25_134)
      have hfk_24_136 : z_24[136]? = some (.int v136) := (hre_24 136 (by decide)).trans (hfh_25_136)
      have hfk_24_137 : z_24[137]? = some (.ref qf137) := (hre_24 137 (by decide)).trans (hfh_25_137)
      have hrq_24 : ∀ j : Nat, j ≠ 117 → j ≠ 120 → j ≠ 131 → z_24[j]? = zs[j]? := fun j g117 g120 g131 => (hre_24 j g131).trans (hrh_25 j g117 g120 g131)
      obtain rfl := hwa_24
      refine lv_iconst (v := (-1)) hx hb dX13_wanted_1142 (by decide) ?_
      refine lv_icmp_eq (tgt := 1150) hx hb dX13_wanted_1143 (by decide) (fun c_159 => ?_) (fun c_159 => ?_)
      · rw [if_pos c_159] at hsp
        refine lv_iconst (v := 0) hx hb dX13_wanted_1150 (by decide) ?_
        have hr0 := Option.some.inj hsp
        clear hsp
        obtain ⟨hq0, hr1⟩ := Prod.mk.inj hr0
        clear hr0
        obtain ⟨hq1, hr2⟩ := Prod.mk.inj hr1
        clear hr1
        obtain ⟨hq2, hr3⟩ := Prod.mk.inj hr2
        clear hr2
        obtain ⟨hq3, hr4⟩ := Prod.mk.inj hr3
        clear hr3
        obtain ⟨hq4, hr5⟩ := Prod.mk.inj hr4
        clear hr4
        obtain ⟨hq5, hr6⟩ := Prod.mk.inj hr5
        clear hr5
        obtain ⟨hq6, hr7⟩ := Prod.mk.inj hr6
        clear hr6
        obtain ⟨hq7, hr8⟩ := Prod.mk.inj hr7
        clear hr7
        subst hq0
        subst hq1
        subst hq2
        subst hq3
        subst hq4
        subst hq5
        subst hq6
        subst hq7
        subst hr8
        have hP9 := hP.sub (ws' := [(h0, .inr (13, z_24)), (qf100, .inl (cf100, 48000, .inl f100)), (qf128, .inl (cf128, 31, .inl g128_25)), (qf127, .inl (cf127, 30, .inl g127_25)), (qf104, .inl (cf104, 8, .inl f104)), (qf102, .inl (cf102, 2048, .inl f102)), (qf118, .inl (cf118, 2100, .inl g118_25)), (qf119, .inl (cf119, 2100, .inl g119_25)), (qf105, .inl (cf105, 8, .inl f105)), (qf137, .inl (cf137, 6, .inl g137_25))]) [8, 0, 9, 1, 2, 3, 4, 5, 6, 7] rfl
        have hD9 := hD.sub (ws' := [(h0, .inr (13, z_24)), (qf100, .inl (cf100, 48000, .inl f100)), (qf128, .inl (cf128, 31, .inl g128_25)), (qf127, .inl (cf127, 30, .inl g127_25)), (qf104, .inl (cf104, 8, .inl f104)), (qf102, .inl (cf102, 2048, .inl f102)), (qf118, .inl (cf118, 2100, .inl g118_25)), (qf119, .inl (cf119, 2100, .inl g119_25)), (qf105, .inl (cf105, 8, .inl f105)), (qf137, .inl (cf137, 6, .inl g137_25))]) [8, 0, 9, 1, 2, 3, 4, 5, 6, 7] (by decide) rfl
        have hK9 := hK.sub (tys' := [(cf100, .int), (cf128, .int), (cf127, .int), (cf104, .int), (cf102, .int), (cf118, .int), (cf119, .int), (cf105, .int), (cf137, .int)]) [0, 8, 1, 2, 3, 4, 5, 6, 7] rfl
        exact W.zret hx hb hr (by decide) (fun t ht hW => ⟨⟨(0), (z_24), rfl, ⟨⟨rfl, Or.inl rfl⟩, hln_24, hrq_24, hfk_24_117, hfk_24_120, hch_24_131⟩, by rw [ht]; exact hP9, va_K.moved hW.alike hK9, hD9⟩, hS.F ht⟩) hS.2.2 dX13_wanted_1151
      · rw [if_neg c_159] at hsp
        refine lv_iconst (v := 1) hx hb dX13_wanted_1146 (by decide) ?_
        refine lv_goto (tgt := 1151) hx hb dX13_wanted_1147 (by decide) ?_
        have hr0 := Option.some.inj hsp
        clear hsp
        obtain ⟨hq0, hr1⟩ := Prod.mk.inj hr0
        clear hr0
        obtain ⟨hq1, hr2⟩ := Prod.mk.inj hr1
        clear hr1
        obtain ⟨hq2, hr3⟩ := Prod.mk.inj hr2
        clear hr2
        obtain ⟨hq3, hr4⟩ := Prod.mk.inj hr3
        clear hr3
        obtain ⟨hq4, hr5⟩ := Prod.mk.inj hr4
        clear hr4
        obtain ⟨hq5, hr6⟩ := Prod.mk.inj hr5
        clear hr5
        obtain ⟨hq6, hr7⟩ := Prod.mk.inj hr6
        clear hr6
        obtain ⟨hq7, hr8⟩ := Prod.mk.inj hr7
        clear hr7
        subst hq0
        subst hq1
        subst hq2
        subst hq3
        subst hq4
        subst hq5
        subst hq6
        subst hq7
        subst hr8
        have hP9 := hP.sub (ws' := [(h0, .inr (13, z_24)), (qf100, .inl (cf100, 48000, .inl f100)), (qf128, .inl (cf128, 31, .inl g128_25)), (qf127, .inl (cf127, 30, .inl g127_25)), (qf104, .inl (cf104, 8, .inl f104)), (qf102, .inl (cf102, 2048, .inl f102)), (qf118, .inl (cf118, 2100, .inl g118_25)), (qf119, .inl (cf119, 2100, .inl g119_25)), (qf105, .inl (cf105, 8, .inl f105)), (qf137, .inl (cf137, 6, .inl g137_25))]) [8, 0, 9, 1, 2, 3, 4, 5, 6, 7] rfl
        have hD9 := hD.sub (ws' := [(h0, .inr (13, z_24)), (qf100, .inl (cf100, 48000, .inl f100)), (qf128, .inl (cf128, 31, .inl g128_25)), (qf127, .inl (cf127, 30, .inl g127_25)), (qf104, .inl (cf104, 8, .inl f104)), (qf102, .inl (cf102, 2048, .inl f102)), (qf118, .inl (cf118, 2100, .inl g118_25)), (qf119, .inl (cf119, 2100, .inl g119_25)), (qf105, .inl (cf105, 8, .inl f105)), (qf137, .inl (cf137, 6, .inl g137_25))]) [8, 0, 9, 1, 2, 3, 4, 5, 6, 7] (by decide) rfl
        have hK9 := hK.sub (tys' := [(cf100, .int), (cf128, .int), (cf127, .int), (cf104, .int), (cf102, .int), (cf118, .int), (cf119, .int), (cf105, .int), (cf137, .int)]) [0, 8, 1, 2, 3, 4, 5, 6, 7] rfl
        exact W.zret hx hb hr (by decide) (fun t ht hW => ⟨⟨(1), (z_24), rfl, ⟨⟨rfl, Or.inr rfl⟩, hln_24, hrq_24, hfk_24_117, hfk_24_120, hch_24_131⟩, by rw [ht]; exact hP9, va_K.moved hW.alike hK9, hD9⟩, hS.F ht⟩) hS.2.2 dX13_wanted_1151
    rw [if_neg hs_157] at hsp
    by_cases hs_160 : l2_25 = 88
    · rw [if_pos hs_160] at hsp
      refine lv_tableIn (tgt := 1642) hx hb dX13_wanted_27 (by rw [hs_160]; decide) (by rw [hs_160]; decide) (off := 1615) (by rw [hs_160]; rfl) (by decide) ?_
      exact hj_1642 (H, locs, ls, z25, g118_25, g119_25, g127_25, g128_25, g137_25, x117_25, x120_25, x131_25) ⟨lv_sub hl [1] rfl, hS, hD.sub (ws' := [(h0, .inr (13, z25)), (qf100, .inl (cf100, 48000, .inl f100)), (qf128, .inl (cf128, 31, .inl g128_25)), (qf127, .inl (cf127, 30, .inl g127_25)), (qf104, .inl (cf104, 8, .inl f104)), (qf102, .inl (cf102, 2048, .inl f102)), (qf118, .inl (cf118, 2100, .inl g118_25)), (qf119, .inl (cf119, 2100, .inl g119_25)), (qf105, .inl (cf105, 8, .inl f105)), (qf137, .inl (cf137, 6, .inl g137_25))]) [0, 1, 2, 3, 4, 5, 6, 7, 8, 9] (by decide) rfl, hP.sub (ws' := [(h0, .inr (13, z25)), (qf100, .inl (cf100, 48000, .inl f100)), (qf128, .inl (cf128, 31, .inl g128_25)), (qf127, .inl (cf127, 30, .inl g127_25)), (qf104, .inl (cf104, 8, .inl f104)), (qf102, .inl (cf102, 2048, .inl f102)), (qf118, .inl (cf118, 2100, .inl g118_25)), (qf119, .inl (cf119, 2100, .inl g119_25)), (qf105, .inl (cf105, 8, .inl f105)), (qf137, .inl (cf137, 6, .inl g137_25))]) [0, 1, 2, 3, 4, 5, 6, 7, 8, 9] rfl, hfh_25_98, hfh_25_100, hfh_25_102, hfh_25_104, hfh_25_105, hfh_25_117, hfh_25_118, hfh_25_119, hfh_25_120, hfh_25_127, hfh_25_128, hfh_25_129, hfh_25_130, hfh_25_131, hfh_25_132, hfh_25_134, hfh_25_136, hfh_25_137, hlh_25, hrh_25, hsp⟩
    rw [if_neg hs_160] at hsp
    by_cases hs_161 : l2_25 = 89
    · rw [if_pos hs_161] at hsp
      refine lv_tableIn (tgt := 1152) hx hb dX13_wanted_27 (by rw [hs_161]; decide) (by rw [hs_161]; decide) (off := 1125) (by rw [hs_161]; rfl) (by decide) ?_
      refine lv_aload_n hx hb dX13_wanted_1152 rfl (lv_at hl 1 rfl) ?_
      refine va_get (D := (dC, dI)) (ci := 13) (v := .int x131_25) (C := RX13) (T := TX13) (N := 155) hx hb hts uV_h9_X13 hown hK hP 0 rfl rfl 131 (by decide) (hts (.fieldLink RX13 961 "ClassMillModel" "stackMany" "I") mw_h9_559) (fun _ h9 => h9) hfh_25_131 dX13_wanted_1153 ?_
      refine lv_if_le (tgt := 1181) hx hb dX13_wanted_1156 (by decide) (fun c_162 => ?_) (fun c_162 => ?_)
      · rw [if_pos c_162] at hsp
        refine lv_iconst (v := 0) hx hb dX13_wanted_1181 (by decide) ?_
        have hr0 := Option.some.inj hsp
        clear hsp
        obtain ⟨hq0, hr1⟩ := Prod.mk.inj hr0
        clear hr0
        obtain ⟨hq1, hr2⟩ := Prod.mk.inj hr1
        clear hr1
        obtain ⟨hq2, hr3⟩ := Prod.mk.inj hr2
        clear hr2
        obtain ⟨hq3, hr4⟩ := Prod.mk.inj hr3
        clear hr3
        obtain ⟨hq4, hr5⟩ := Prod.mk.inj hr4
        clear hr4
        obtain ⟨hq5, hr6⟩ := Prod.mk.inj hr5
        clear hr5
        obtain ⟨hq6, hr7⟩ := Prod.mk.inj hr6
        clear hr6
        obtain ⟨hq7, hr8⟩ := Prod.mk.inj hr7
        clear hr7
        subst hq0
        subst hq1
        subst hq2
        subst hq3
        subst hq4
        subst hq5
        subst hq6
        subst hq7
        subst hr8
        have hP9 := hP.sub (ws' := [(h0, .inr (13, z25)), (qf100, .inl (cf100, 48000, .inl f100)), (qf128, .inl (cf128, 31, .inl g128_25)), (qf127, .inl (cf127, 30, .inl g127_25)), (qf104, .inl (cf104, 8, .inl f104)), (qf102, .inl (cf102, 2048, .inl f102)), (qf118, .inl (cf118, 2100, .inl g118_25)), (qf119, .inl (cf119, 2100, .inl g119_25)), (qf105, .inl (cf105, 8, .inl f105)), (qf137, .inl (cf137, 6, .inl g137_25))]) [0, 1, 2, 3, 4, 5, 6, 7, 8, 9] rfl
        have hD9 := hD.sub (ws' := [(h0, .inr (13, z25)), (qf100, .inl (cf100, 48000, .inl f100)), (qf128, .inl (cf128, 31, .inl g128_25)), (qf127, .inl (cf127, 30, .inl g127_25)), (qf104, .inl (cf104, 8, .inl f104)), (qf102, .inl (cf102, 2048, .inl f102)), (qf118, .inl (cf118, 2100, .inl g118_25)), (qf119, .inl (cf119, 2100, .inl g119_25)), (qf105, .inl (cf105, 8, .inl f105)), (qf137, .inl (cf137, 6, .inl g137_25))]) [0, 1, 2, 3, 4, 5, 6, 7, 8, 9] (by decide) rfl
        have hK9 := hK.sub (tys' := [(cf100, .int), (cf128, .int), (cf127, .int), (cf104, .int), (cf102, .int), (cf118, .int), (cf119, .int), (cf105, .int), (cf137, .int)]) [0, 1, 2, 3, 4, 5, 6, 7, 8] rfl
        exact W.zret hx hb hr (by decide) (fun t ht hW => ⟨⟨(0), (z25), rfl, ⟨⟨rfl, Or.inl rfl⟩, hlh_25, hrh_25, hfh_25_117, hfh_25_120, hfh_25_131⟩, by rw [ht]; exact hP9, va_K.moved hW.alike hK9, hD9⟩, hS.F ht⟩) hS.2.2 dX13_wanted_1182
      · rw [if_neg c_162] at hsp
        refine lv_aload_n hx hb dX13_wanted_1159 rfl (lv_at hl 1 rfl) ?_
        refine lv_aload_n hx hb dX13_wanted_1160 rfl (lv_at hl 1 rfl) ?_
        refine va_get (D := (dC, dI)) (ci := 13) (v := .ref qf128) (C := RX13) (T := TX13) (N := 155) hx hb hts uV_h9_X13 hown hK hP 0 rfl rfl 128 (by decide) (hts (.fieldLink RX13 273 "ClassMillModel" "stack" "[I") mw_h9_560) (fun _ h9 => h9) hfh_25_128 dX13_wanted_1161 ?_
        refine lv_aload_n hx hb dX13_wanted_1164 rfl (lv_at hl 1 rfl) ?_
        refine va_get (D := (dC, dI)) (ci := 13) (v := .int x131_25) (C := RX13) (T := TX13) (N := 155) hx hb hts uV_h9_X13 hown hK hP 0 rfl rfl 131 (by decide) (hts (.fieldLink RX13 961 "ClassMillModel" "stackMany" "I") mw_h9_559) (fun _ h9 => h9) hfh_25_131 dX13_wanted_1165 ?_
        refine lv_iconst (v := 1) hx hb dX13_wanted_1168 (by decide) ?_
        refine lv_isub hx hb dX13_wanted_1169 ?_
        obtain ⟨hi_163, hsp⟩ := ox_in hsp
        refine va_iald hx hb hK hP 2 1 rfl rfl (i := (x131_25 - 1)) hi_163 dX13_wanted_1170 ?_
        obtain ⟨⟨u25_0, g925_1, u25_2⟩, hu_25, hsp⟩ := ox_bind hsp
        try dsimp only at hsp
        have hPc := hP.sub (ws' := [(h0, .inr (13, z25)), (qf128, .inl (cf128, 31, .inl g128_25))]) [0, 2] rfl
        have hDc := hD.sub (ws' := [(h0, .inr (13, z25)), (qf128, .inl (cf128, 31, .inl g128_25))]) [0, 2] (by decide) rfl
        have hKc := hK.sub (tys' := [(cf128, .int)]) [1] rfl
        have hFc := va_free (wc := [(h0, .inr (13, z25)), (qf128, .inl (cf128, 31, .inl g128_25))]) hD hS hA [0, 2] rfl
        refine va_calli (va_runV (As := [.int (g128_25 ((x131_25 - 1) : Int32).toNatClampNeg)]) (rest := []) ⟨hx, hb, hml, hown, hts⟩ (tm_comesBack l dC dI H.size h0 z25 ((g128_25 ((x131_25 - 1) : Int32).toNatClampNeg)) qf128 v130 x131_25 cf128 g128_25 nf u25_0 g925_1 u25_2 hlh_25 hfh_25_128 hfh_25_130 hfh_25_131 hu_25) (cwV 1 hts gv_h9_69 rfl rfl rfl (by decide +kernel) ⟨Nat.le_of_ble_eq_true rfl, Nat.le_of_ble_eq_true rfl⟩) ⟨fun a U g mk q => by obtain ⟨q0, q1, qP, qK, qD⟩ := q; exact ⟨q0, q1, qP, va_K.moved (u := U) (U := U.calling g mk a) (Vm.Alike.refl U.vm) qK, qD⟩, va_recv hKc hPc (ci := 13) (q0 := 0) rfl rfl, fun U hU hW => ⟨rfl, by rw [hU], by rw [hU]; exact hPc, va_K.moved hW.alike hKc, hDc.weaken (fun _ _ _ _ => trivial)⟩⟩ rfl rfl hl.1 rfl (lv_room (Nat.le_of_ble_eq_true rfl)) dX13_wanted_1171 ⟨Nat.le_of_ble_eq_true rfl, Nat.le_of_ble_eq_true rfl⟩) hS (fun q _ h => hFc q h) hFc ?_
        clear hS
        intro r_164 u t H1 locs ht hvm hw hB hz1 hk1 hS
        obtain ⟨z_25, rfl⟩ : ∃ z, z = u := ⟨_, rfl⟩
        obtain ⟨hP1, hK1, hD1⟩ := hB
        rw [ht] at hP1
        have hK1 := va_K.moved hvm.symm hK1
        try dsimp only at hw
        have hPD := va_join (wr := [(qf100, .inl (cf100, 48000, .inl f100)), (qf127, .inl (cf127, 30, .inl g127_25)), (qf104, .inl (cf104, 8, .inl f104)), (qf102, .inl (cf102, 2048, .inl f102)), (qf118, .inl (cf118, 2100, .inl g118_25)), (qf119, .inl (cf119, 2100, .inl g119_25)), (qf105, .inl (cf105, 8, .inl f105)), (qf137, .inl (cf137, 6, .inl g137_25))]) (w1 := [(h0, .inr (13, z_25)), (qf128, .inl (cf128, 31, .inl g925_1))]) hP hD [0, 2] [1, 3, 4, 5, 6, 7, 8, 9] rfl rfl (by decide) (by decide) hk1 hFc hP1 hD1
        clear hP hD
        obtain ⟨hP, hD⟩ := hPD
        replace hK := (hK.sub (tys' := [(cf100, .int), (cf127, .int), (cf104, .int), (cf102, .int), (cf118, .int), (cf119, .int), (cf105, .int), (cf137, .int)]) [0, 2, 3, 4, 5, 6, 7, 8] rfl).app hK1
        clear hPc hDc hKc hFc hP1 hK1 hD1 hz1 hk1 ht hvm
        generalize H1 = H at hP hS ⊢
        replace hP : va_P (dC, dI) vwCl [(qf100, .inl (cf100, 48000, .inl f100)), (qf127, .inl (cf127, 30, .inl g127_25)), (qf104, .inl (cf104, 8, .inl f104)), (qf102, .inl (cf102, 2048, .inl f102)), (qf118, .inl (cf118, 2100, .inl g118_25)), (qf119, .inl (cf119, 2100, .inl g119_25)), (qf105, .inl (cf105, 8, .inl f105)), (qf137, .inl (cf137, 6, .inl g137_25)), (h0, .inr (13, z_25)), (qf128, .inl (cf128, 31, .inl g925_1))] H := hP
        replace hD : va_D A [(qf100, .inl (cf100, 48000, .inl f100)), (qf127, .inl (cf127, 30, .inl g127_25)), (qf104, .inl (cf104, 8, .inl f104)), (qf102, .inl (cf102, 2048, .inl f102)), (qf118, .inl (cf118, 2100, .inl g118_25)), (qf119, .inl (cf119, 2100, .inl g119_25)), (qf105, .inl (cf105, 8, .inl f105)), (qf137, .inl (cf137, 6, .inl g137_25)), (h0, .inr (13, z_25)), (qf128, .inl (cf128, 31, .inl g925_1))] := hD
        replace hK : va_K (dC, dI) vwCl [(cf100, .int), (cf127, .int), (cf104, .int), (cf102, .int), (cf118, .int), (cf119, .int), (cf105, .int), (cf137, .int), (cf128, .int)] s := hK
        obtain ⟨hwa_25, hln_25, hre_25, hch_25_131⟩ := hw
        have hfk_25_98 : z_25[98]? = some (.int v98) := (hre_25 98 (by decide)).trans (hfh_25_98)
        have hfk_25_100 : z_25[100]? = some (.ref qf100) := (hre_25 100 (by decide)).trans (hfh_25_100)
        have hfk_25_102 : z_25[102]? = some (.ref qf102) := (hre_25 102 (by decide)).trans (hfh_25_102)
        have hfk_25_104 : z_25[104]? = some (.ref qf104) := (hre_25 104 (by decide)).trans (hfh_25_104)
        have hfk_25_105 : z_25[105]? = some (.ref qf105) := (hre_25 105 (by decide)).trans (hfh_25_105)
        have hfk_25_117 : z_25[117]? = some (.int x117_25) := (hre_25 117 (by decide)).trans (hfh_25_117)
        have hfk_25_118 : z_25[118]? = some (.ref qf118) := (hre_25 118 (by decide)).trans (hfh_25_118)
        have hfk_25_119 : z_25[119]? = some (.ref qf119) := (hre_25 119 (by decide)).trans (hfh_25_119)
        have hfk_25_120 : z_25[120]? = some (.int x120_25) := (hre_25 120 (by decide)).trans (hfh_25_120)
        have hfk_25_127 : z_25[127]? = some (.ref qf127) := (hre_25 127 (by decide)).trans (hfh_25_127)
        have hfk_25_128 : z_25[128]? = some (.ref qf128) := (hre_25 128 (by decide)).trans (hfh_25_128)
        have hfk_25_129 : z_25[129]? = some (.int v129) := (hre_25 129 (by decide)).trans (hfh_25_129)
        have hfk_25_130 : z_25[130]? = some (.int v130) := (hre_25 130 (by decide)).trans (hfh_25_130)
        have hfk_25_132 : z_25[132]? = some (.int v132) := (hre_25 132 (by decide)).trans (hfh_25_132)
        have hfk_25_134 : z_25[134]? = some (.int v134) := (hre_25 134 (by decide)).trans (hfh_25_134)
        have hfk_25_136 : z_25[136]? = some (.int v136) := (hre_25 136 (by decide)).trans (hfh_25_136)
        have hfk_25_137 : z_25[137]? = some (.ref qf137) := (hre_25 137 (by decide)).trans (hfh_25_137)
        have hrq_25 : ∀ j : Nat, j ≠ 117 → j ≠ 120 → j ≠ 131 → z_25[j]? = zs[j]? := fun j g117 g120 g131 => (hre_25 j g131).trans (hrh_25 j g117 g120 g131)
        obtain ⟨rfl, hz_25⟩ := hwa_25
        rcases hz_25 with rfl | rfl
        · rw [if_pos rfl] at hsp
          refine lv_if_eq (tgt := 1181) hx hb dX13_wanted_1174 (by decide) (fun c_165 => ?_) (fun c_165 => (show False by revert c_165; decide).elim)
          refine lv_iconst (v := 0) hx hb dX13_wanted_1181 (by decide) ?_
          have hr0 := Option.some.inj hsp
          clear hsp
          obtain ⟨hq0, hr1⟩ := Prod.mk.inj hr0
          clear hr0
          obtain ⟨hq1, hr2⟩ := Prod.mk.inj hr1
          clear hr1
          obtain ⟨hq2, hr3⟩ := Prod.mk.inj hr2
          clear hr2
          obtain ⟨hq3, hr4⟩ := Prod.mk.inj hr3
          clear hr3
          obtain ⟨hq4, hr5⟩ := Prod.mk.inj hr4
          clear hr4
          obtain ⟨hq5, hr6⟩ := Prod.mk.inj hr5
          clear hr5
          obtain ⟨hq6, hr7⟩ := Prod.mk.inj hr6
          clear hr6
          obtain ⟨hq7, hr8⟩ := Prod.mk.inj hr7
          clear hr7
          subst hq0
          subst hq1
          subst hq2
          subst hq3
          subst hq4
          subst hq5
          subst hq6
          subst hq7
          subst hr8
          have hP9 := hP.sub (ws' := [(h0, .inr (13, z_25)), (qf100, .inl (cf100, 48000, .inl f100)), (qf128, .inl (cf128, 31, .inl g925_1)), (qf127, .inl (cf127, 30, .inl g127_25)), (qf104, .inl (cf104, 8, .inl f104)), (qf102, .inl (cf102, 2048, .inl f102)), (qf118, .inl (cf118, 2100, .inl g118_25)), (qf119, .inl (cf119, 2100, .inl g119_25)), (qf105, .inl (cf105, 8, .inl f105)), (qf137, .inl (cf137, 6, .inl g137_25))]) [8, 0, 9, 1, 2, 3, 4, 5, 6, 7] rfl
          have hD9 := hD.sub (ws' := [(h0, .inr (13, z_25)), (qf100, .inl (cf100, 48000, .inl f100)), (qf128, .inl (cf128, 31, .inl g925_1)), (qf127, .inl (cf127, 30, .inl g127_25)), (qf104, .inl (cf104, 8, .inl f104)), (qf102, .inl (cf102, 2048, .inl f102)), (qf118, .inl (cf118, 2100, .inl g118_25)), (qf119, .inl (cf119, 2100, .inl g119_25)), (qf105, .inl (cf105, 8, .inl f105)), (qf137, .inl (cf137, 6, .inl g137_25))]) [8, 0, 9, 1, 2, 3, 4, 5, 6, 7] (by decide) rfl
          have hK9 := hK.sub (tys' := [(cf100, .int), (cf128, .int), (cf127, .int), (cf104, .int), (cf102, .int), (cf118, .int), (cf119, .int), (cf105, .int), (cf137, .int)]) [0, 8, 1, 2, 3, 4, 5, 6, 7] rfl
          exact W.zret hx hb hr (by decide) (fun t ht hW => ⟨⟨(0), (z_25), rfl, ⟨⟨rfl, Or.inl rfl⟩, hln_25, hrq_25, hfk_25_117, hfk_25_120, hch_25_131⟩, by rw [ht]; exact hP9, va_K.moved hW.alike hK9, hD9⟩, hS.F ht⟩) hS.2.2 dX13_wanted_1182
        · rw [if_neg (by decide)] at hsp
          refine lv_if_eq (tgt := 1181) hx hb dX13_wanted_1174 (by decide) (fun c_166 => (show False by revert c_166; decide).elim) (fun c_166 => ?_)
          refine lv_iconst (v := 1) hx hb dX13_wanted_1177 (by decide) ?_
          refine lv_goto (tgt := 1182) hx hb dX13_wanted_1178 (by decide) ?_
          have hr0 := Option.some.inj hsp
          clear hsp
          obtain ⟨hq0, hr1⟩ := Prod.mk.inj hr0
          clear hr0
          obtain ⟨hq1, hr2⟩ := Prod.mk.inj hr1
          clear hr1
          obtain ⟨hq2, hr3⟩ := Prod.mk.inj hr2
          clear hr2
          obtain ⟨hq3, hr4⟩ := Prod.mk.inj hr3
          clear hr3
          obtain ⟨hq4, hr5⟩ := Prod.mk.inj hr4
          clear hr4
          obtain ⟨hq5, hr6⟩ := Prod.mk.inj hr5
          clear hr5
          obtain ⟨hq6, hr7⟩ := Prod.mk.inj hr6
          clear hr6
          obtain ⟨hq7, hr8⟩ := Prod.mk.inj hr7
          clear hr7
          subst hq0
          subst hq1
          subst hq2
          subst hq3
          subst hq4
          subst hq5
          subst hq6
          subst hq7
          subst hr8
          have hP9 := hP.sub (ws' := [(h0, .inr (13, z_25)), (qf100, .inl (cf100, 48000, .inl f100)), (qf128, .inl (cf128, 31, .inl g925_1)), (qf127, .inl (cf127, 30, .inl g127_25)), (qf104, .inl (cf104, 8, .inl f104)), (qf102, .inl (cf102, 2048, .inl f102)), (qf118, .inl (cf118, 2100, .inl g118_25)), (qf119, .inl (cf119, 2100, .inl g119_25)), (qf105, .inl (cf105, 8, .inl f105)), (qf137, .inl (cf137, 6, .inl g137_25))]) [8, 0, 9, 1, 2, 3, 4, 5, 6, 7] rfl
          have hD9 := hD.sub (ws' := [(h0, .inr (13, z_25)), (qf100, .inl (cf100, 48000, .inl f100)), (qf128, .inl (cf128, 31, .inl g925_1)), (qf127, .inl (cf127, 30, .inl g127_25)), (qf104, .inl (cf104, 8, .inl f104)), (qf102, .inl (cf102, 2048, .inl f102)), (qf118, .inl (cf118, 2100, .inl g118_25)), (qf119, .inl (cf119, 2100, .inl g119_25)), (qf105, .inl (cf105, 8, .inl f105)), (qf137, .inl (cf137, 6, .inl g137_25))]) [8, 0, 9, 1, 2, 3, 4, 5, 6, 7] (by decide) rfl
          have hK9 := hK.sub (tys' := [(cf100, .int), (cf128, .int), (cf127, .int), (cf104, .int), (cf102, .int), (cf118, .int), (cf119, .int), (cf105, .int), (cf137, .int)]) [0, 8, 1, 2, 3, 4, 5, 6, 7] rfl
          exact W.zret hx hb hr (by decide) (fun t ht hW => ⟨⟨(1), (z_25), rfl, ⟨⟨rfl, Or.inr rfl⟩, hln_25, hrq_25, hfk_25_117, hfk_25_120, hch_25_131⟩, by rw [ht]; exact hP9, va_K.moved hW.alike hK9, hD9⟩, hS.F ht⟩) hS.2.2 dX13_wanted_1182
    rw [if_neg hs_161] at hsp
    by_cases hs_167 : l2_25 = 90
    · rw [if_pos hs_167] at hsp
      refine lv_tableIn (tgt := 1642) hx hb dX13_wanted_27 (by rw [hs_167]; decide) (by rw [hs_167]; decide) (off := 1615) (by rw [hs_167]; rfl) (by decide) ?_
      exact hj_1642 (H, locs, ls, z25, g118_25, g119_25, g127_25, g128_25, g137_25, x117_25, x120_25, x131_25) ⟨lv_sub hl [1] rfl, hS, hD.sub (ws' := [(h0, .inr (13, z25)), (qf100, .inl (cf100, 48000, .inl f100)), (qf128, .inl (cf128, 31, .inl g128_25)), (qf127, .inl (cf127, 30, .inl g127_25)), (qf104, .inl (cf104, 8, .inl f104)), (qf102, .inl (cf102, 2048, .inl f102)), (qf118, .inl (cf118, 2100, .inl g118_25)), (qf119, .inl (cf119, 2100, .inl g119_25)), (qf105, .inl (cf105, 8, .inl f105)), (qf137, .inl (cf137, 6, .inl g137_25))]) [0, 1, 2, 3, 4, 5, 6, 7, 8, 9] (by decide) rfl, hP.sub (ws' := [(h0, .inr (13, z25)), (qf100, .inl (cf100, 48000, .inl f100)), (qf128, .inl (cf128, 31, .inl g128_25)), (qf127, .inl (cf127, 30, .inl g127_25)), (qf104, .inl (cf104, 8, .inl f104)), (qf102, .inl (cf102, 2048, .inl f102)), (qf118, .inl (cf118, 2100, .inl g118_25)), (qf119, .inl (cf119, 2100, .inl g119_25)), (qf105, .inl (cf105, 8, .inl f105)), (qf137, .inl (cf137, 6, .inl g137_25))]) [0, 1, 2, 3, 4, 5, 6, 7, 8, 9] rfl, hfh_25_98, hfh_25_100, hfh_25_102, hfh_25_104, hfh_25_105, hfh_25_117, hfh_25_118, hfh_25_119, hfh_25_120, hfh_25_127, hfh_25_128, hfh_25_129, hfh_25_130, hfh_25_131, hfh_25_132, hfh_25_134, hfh_25_136, hfh_25_137, hlh_25, hrh_25, hsp⟩
    rw [if_neg hs_167] at hsp
    by_cases hs_168 : l2_25 = 91
    · rw [if_pos hs_168] at hsp
      refine lv_tableIn (tgt := 1642) hx hb dX13_wanted_27 (by rw [hs_168]; decide) (by rw [hs_168]; decide) (off := 1615) (by rw [hs_168]; rfl) (by decide) ?_
      exact hj_1642 (H, locs, ls, z25, g118_25, g119_25, g127_25, g128_25, g137_25, x117_25, x120_25, x131_25) ⟨lv_sub hl [1] rfl, hS, hD.sub (ws' := [(h0, .inr (13, z25)), (qf100, .inl (cf100, 48000, .inl f100)), (qf128, .inl (cf128, 31, .inl g128_25)), (qf127, .inl (cf127, 30, .inl g127_25)), (qf104, .inl (cf104, 8, .inl f104)), (qf102, .inl (cf102, 2048, .inl f102)), (qf118, .inl (cf118, 2100, .inl g118_25)), (qf119, .inl (cf119, 2100, .inl g119_25)), (qf105, .inl (cf105, 8, .inl f105)), (qf137, .inl (cf137, 6, .inl g137_25))]) [0, 1, 2, 3, 4, 5, 6, 7, 8, 9] (by decide) rfl, hP.sub (ws' := [(h0, .inr (13, z25)), (qf100, .inl (cf100, 48000, .inl f100)), (qf128, .inl (cf128, 31, .inl g128_25)), (qf127, .inl (cf127, 30, .inl g127_25)), (qf104, .inl (cf104, 8, .inl f104)), (qf102, .inl (cf102, 2048, .inl f102)), (qf118, .inl (cf118, 2100, .inl g118_25)), (qf119, .inl (cf119, 2100, .inl g119_25)), (qf105, .inl (cf105, 8, .inl f105)), (qf137, .inl (cf137, 6, .inl g137_25))]) [0, 1, 2, 3, 4, 5, 6, 7, 8, 9] rfl, hfh_25_98, hfh_25_100, hfh_25_102, hfh_25_104, hfh_25_105, hfh_25_117, hfh_25_118, hfh_25_119, hfh_25_120, hfh_25_127, hfh_25_128, hfh_25_129, hfh_25_130, hfh_25_131, hfh_25_132, hfh_25_134, hfh_25_136, hfh_25_137, hlh_25, hrh_25, hsp⟩
    rw [if_neg hs_168] at hsp
    by_cases hs_169 : l2_25 = 92
    · rw [if_pos hs_169] at hsp
      refine lv_tableIn (tgt := 1642) hx hb dX13_wanted_27 (by rw [hs_169]; decide) (by rw [hs_169]; decide) (off := 1615) (by rw [hs_169]; rfl) (by decide) ?_
      exact hj_1642 (H, locs, ls, z25, g118_25, g119_25, g127_25, g128_25, g137_25, x117_25, x120_25, x131_25) ⟨lv_sub hl [1] rfl, hS, hD.sub (ws' := [(h0, .inr (13, z25)), (qf100, .inl (cf100, 48000, .inl f100)), (qf128, .inl (cf128, 31, .inl g128_25)), (qf127, .inl (cf127, 30, .inl g127_25)), (qf104, .inl (cf104, 8, .inl f104)), (qf102, .inl (cf102, 2048, .inl f102)), (qf118, .inl (cf118, 2100, .inl g118_25)), (qf119, .inl (cf119, 2100, .inl g119_25)), (qf105, .inl (cf105, 8, .inl f105)), (qf137, .inl (cf137, 6, .inl g137_25))]) [0, 1, 2, 3, 4, 5, 6, 7, 8, 9] (by decide) rfl, hP.sub (ws' := [(h0, .inr (13, z25)), (qf100, .inl (cf100, 48000, .inl f100)), (qf128, .inl (cf128, 31, .inl g128_25)), (qf127, .inl (cf127, 30, .inl g127_25)), (qf104, .inl (cf104, 8, .inl f104)), (qf102, .inl (cf102, 2048, .inl f102)), (qf118, .inl (cf118, 2100, .inl g118_25)), (qf119, .inl (cf119, 2100, .inl g119_25)), (qf105, .inl (cf105, 8, .inl f105)), (qf137, .inl (cf137, 6, .inl g137_25))]) [0, 1, 2, 3, 4, 5, 6, 7, 8, 9] rfl, hfh_25_98, hfh_25_100, hfh_25_102, hfh_25_104, hfh_25_105, hfh_25_117, hfh_25_118, hfh_25_119, hfh_25_120, hfh_25_127, hfh_25_128, hfh_25_129, hfh_25_130, hfh_25_131, hfh_25_132, hfh_25_134, hfh_25_136, hfh_25_137, hlh_25, hrh_25, hsp⟩
    rw [if_neg hs_169] at hsp
    by_cases hs_170 : l2_25 = 93
    · rw [if_pos hs_170] at hsp
      refine lv_tableIn (tgt := 1642) hx hb dX13_wanted_27 (by rw [hs_170]; decide) (by rw [hs_170]; decide) (off := 1615) (by rw [hs_170]; rfl) (by decide) ?_
      exact hj_1642 (H, locs, ls, z25, g118_25, g119_25, g127_25, g128_25, g137_25, x117_25, x120_25, x131_25) ⟨lv_sub hl [1] rfl, hS, hD.sub (ws' := [(h0, .inr (13, z25)), (qf100, .inl (cf100, 48000, .inl f100)), (qf128, .inl (cf128, 31, .inl g128_25)), (qf127, .inl (cf127, 30, .inl g127_25)), (qf104, .inl (cf104, 8, .inl f104)), (qf102, .inl (cf102, 2048, .inl f102)), (qf118, .inl (cf118, 2100, .inl g118_25)), (qf119, .inl (cf119, 2100, .inl g119_25)), (qf105, .inl (cf105, 8, .inl f105)), (qf137, .inl (cf137, 6, .inl g137_25))]) [0, 1, 2, 3, 4, 5, 6, 7, 8, 9] (by decide) rfl, hP.sub (ws' := [(h0, .inr (13, z25)), (qf100, .inl (cf100, 48000, .inl f100)), (qf128, .inl (cf128, 31, .inl g128_25)), (qf127, .inl (cf127, 30, .inl g127_25)), (qf104, .inl (cf104, 8, .inl f104)), (qf102, .inl (cf102, 2048, .inl f102)), (qf118, .inl (cf118, 2100, .inl g118_25)), (qf119, .inl (cf119, 2100, .inl g119_25)), (qf105, .inl (cf105, 8, .inl f105)), (qf137, .inl (cf137, 6, .inl g137_25))]) [0, 1, 2, 3, 4, 5, 6, 7, 8, 9] rfl, hfh_25_98, hfh_25_100, hfh_25_102, hfh_25_104, hfh_25_105, hfh_25_117, hfh_25_118, hfh_25_119, hfh_25_120, hfh_25_127, hfh_25_128, hfh_25_129, hfh_25_130, hfh_25_131, hfh_25_132, hfh_25_134, hfh_25_136, hfh_25_137, hlh_25, hrh_25, hsp⟩
    rw [if_neg hs_170] at hsp
    by_cases hs_171 : l2_25 = 94
    · rw [if_pos hs_171] at hsp
      refine lv_tableIn (tgt := 1642) hx hb dX13_wanted_27 (by rw [hs_171]; decide) (by rw [hs_171]; decide) (off := 1615) (by rw [hs_171]; rfl) (by decide) ?_
      exact hj_1642 (H, locs, ls, z25, g118_25, g119_25, g127_25, g128_25, g137_25, x117_25, x120_25, x131_25) ⟨lv_sub hl [1] rfl, hS, hD.sub (ws' := [(h0, .inr (13, z25)), (qf100, .inl (cf100, 48000, .inl f100)), (qf128, .inl (cf128, 31, .inl g128_25)), (qf127, .inl (cf127, 30, .inl g127_25)), (qf104, .inl (cf104, 8, .inl f104)), (qf102, .inl (cf102, 2048, .inl f102)), (qf118, .inl (cf118, 2100, .inl g118_25)), (qf119, .inl (cf119, 2100, .inl g119_25)), (qf105, .inl (cf105, 8, .inl f105)), (qf137, .inl (cf137, 6, .inl g137_25))]) [0, 1, 2, 3, 4, 5, 6, 7, 8, 9] (by decide) rfl, hP.sub (ws' := [(h0, .inr (13, z25)), (qf100, .inl (cf100, 48000, .inl f100)), (qf128, .inl (cf128, 31, .inl g128_25)), (qf127, .inl (cf127, 30, .inl g127_25)), (qf104, .inl (cf104, 8, .inl f104)), (qf102, .inl (cf102, 2048, .inl f102)), (qf118, .inl (cf118, 2100, .inl g118_25)), (qf119, .inl (cf119, 2100, .inl g119_25)), (qf105, .inl (cf105, 8, .inl f105)), (qf137, .inl (cf137, 6, .inl g137_25))]) [0, 1, 2, 3, 4, 5, 6, 7, 8, 9] rfl, hfh_25_98, hfh_25_100, hfh_25_102, hfh_25_104, hfh_25_105, hfh_25_117, hfh_25_118, hfh_25_119, hfh_25_120, hfh_25_127, hfh_25_128, hfh_25_129, hfh_25_130, hfh_25_131, hfh_25_132, hfh_25_134, hfh_25_136, hfh_25_137, hlh_25, hrh_25, hsp⟩
    rw [if_neg hs_171] at hsp
    by_cases hs_172 : l2_25 = 95
    · rw [if_pos hs_172] at hsp
      refine lv_tableIn (tgt := 1642) hx hb dX13_wanted_27 (by rw [hs_172]; decide) (by rw [hs_172]; decide) (off := 1615) (by rw [hs_172]; rfl) (by decide) ?_
      exact hj_1642 (H, locs, ls, z25, g118_25, g119_25, g127_25, g128_25, g137_25, x117_25, x120_25, x131_25) ⟨lv_sub hl [1] rfl, hS, hD.sub (ws' := [(h0, .inr (13, z25)), (qf100, .inl (cf100, 48000, .inl f100)), (qf128, .inl (cf128, 31, .inl g128_25)), (qf127, .inl (cf127, 30, .inl g127_25)), (qf104, .inl (cf104, 8, .inl f104)), (qf102, .inl (cf102, 2048, .inl f102)), (qf118, .inl (cf118, 2100, .inl g118_25)), (qf119, .inl (cf119, 2100, .inl g119_25)), (qf105, .inl (cf105, 8, .inl f105)), (qf137, .inl (cf137, 6, .inl g137_25))]) [0, 1, 2, 3, 4, 5, 6, 7, 8, 9] (by decide) rfl, hP.sub (ws' := [(h0, .inr (13, z25)), (qf100, .inl (cf100, 48000, .inl f100)), (qf128, .inl (cf128, 31, .inl g128_25)), (qf127, .inl (cf127, 30, .inl g127_25)), (qf104, .inl (cf104, 8, .inl f104)), (qf102, .inl (cf102, 2048, .inl f102)), (qf118, .inl (cf118, 2100, .inl g118_25)), (qf119, .inl (cf119, 2100, .inl g119_25)), (qf105, .inl (cf105, 8, .inl f105)), (qf137, .inl (cf137, 6, .inl g137_25))]) [0, 1, 2, 3, 4, 5, 6, 7, 8, 9] rfl, hfh_25_98, hfh_25_100, hfh_25_102, hfh_25_104, hfh_25_105, hfh_25_117, hfh_25_118, hfh_25_119, hfh_25_120, hfh_25_127, hfh_25_128, hfh_25_129, hfh_25_130, hfh_25_131, hfh_25_132, hfh_25_134, hfh_25_136, hfh_25_137, hlh_25, hrh_25, hsp⟩
    rw [if_neg hs_172] at hsp
    by_cases hs_173 : l2_25 = 96
    · rw [if_pos hs_173] at hsp
      refine lv_tableIn (tgt := 1183) hx hb dX13_wanted_27 (by rw [hs_173]; decide) (by rw [hs_173]; decide) (off := 1156) (by rw [hs_173]; rfl) (by decide) ?_
      exact hj_1183 (H, locs, ls, z25, g118_25, g119_25, g127_25, g128_25, g137_25, x117_25, x120_25, x131_25) ⟨lv_sub hl [1] rfl, hS, hD.sub (ws' := [(h0, .inr (13, z25)), (qf100, .inl (cf100, 48000, .inl f100)), (qf128, .inl (cf128, 31, .inl g128_25)), (qf127, .inl (cf127, 30, .inl g127_25)), (qf104, .inl (cf104, 8, .inl f104)), (qf102, .inl (cf102, 2048, .inl f102)), (qf118, .inl (cf118, 2100, .inl g118_25)), (qf119, .inl (cf119, 2100, .inl g119_25)), (qf105, .inl (cf105, 8, .inl f105)), (qf137, .inl (cf137, 6, .inl g137_25))]) [0, 1, 2, 3, 4, 5, 6, 7, 8, 9] (by decide) rfl, hP.sub (ws' := [(h0, .inr (13, z25)), (qf100, .inl (cf100, 48000, .inl f100)), (qf128, .inl (cf128, 31, .inl g128_25)), (qf127, .inl (cf127, 30, .inl g127_25)), (qf104, .inl (cf104, 8, .inl f104)), (qf102, .inl (cf102, 2048, .inl f102)), (qf118, .inl (cf118, 2100, .inl g118_25)), (qf119, .inl (cf119, 2100, .inl g119_25)), (qf105, .inl (cf105, 8, .inl f105)), (qf137, .inl (cf137, 6, .inl g137_25))]) [0, 1, 2, 3, 4, 5, 6, 7, 8, 9] rfl, hfh_25_98, hfh_25_100, hfh_25_102, hfh_25_104, hfh_25_105, hfh_25_117, hfh_25_118, hfh_25_119, hfh_25_120, hfh_25_127, hfh_25_128, hfh_25_129, hfh_25_130, hfh_25_131, hfh_25_132, hfh_25_134, hfh_25_136, hfh_25_137, hlh_25, hrh_25, hsp⟩
    rw [if_neg hs_173] at hsp
    by_cases hs_174 : l2_25 = 97
    · rw [if_pos hs_174] at hsp
      refine lv_tableIn (tgt := 1642) hx hb dX13_wanted_27 (by rw [hs_174]; decide) (by rw [hs_174]; decide) (off := 1615) (by rw [hs_174]; rfl) (by decide) ?_
      exact hj_1642 (H, locs, ls, z25, g118_25, g119_25, g127_25, g128_25, g137_25, x117_25, x120_25, x131_25) ⟨lv_sub hl [1] rfl, hS, hD.sub (ws' := [(h0, .inr (13, z25)), (qf100, .inl (cf100, 48000, .inl f100)), (qf128, .inl (cf128, 31, .inl g128_25)), (qf127, .inl (cf127, 30, .inl g127_25)), (qf104, .inl (cf104, 8, .inl f104)), (qf102, .inl (cf102, 2048, .inl f102)), (qf118, .inl (cf118, 2100, .inl g118_25)), (qf119, .inl (cf119, 2100, .inl g119_25)), (qf105, .inl (cf105, 8, .inl f105)), (qf137, .inl (cf137, 6, .inl g137_25))]) [0, 1, 2, 3, 4, 5, 6, 7, 8, 9] (by decide) rfl, hP.sub (ws' := [(h0, .inr (13, z25)), (qf100, .inl (cf100, 48000, .inl f100)), (qf128, .inl (cf128, 31, .inl g128_25)), (qf127, .inl (cf127, 30, .inl g127_25)), (qf104, .inl (cf104, 8, .inl f104)), (qf102, .inl (cf102, 2048, .inl f102)), (qf118, .inl (cf118, 2100, .inl g118_25)), (qf119, .inl (cf119, 2100, .inl g119_25)), (qf105, .inl (cf105, 8, .inl f105)), (qf137, .inl (cf137, 6, .inl g137_25))]) [0, 1, 2, 3, 4, 5, 6, 7, 8, 9] rfl, hfh_25_98, hfh_25_100, hfh_25_102, hfh_25_104, hfh_25_105, hfh_25_117, hfh_25_118, hfh_25_119, hfh_25_120, hfh_25_127, hfh_25_128, hfh_25_129, hfh_25_130, hfh_25_131, hfh_25_132, hfh_25_134, hfh_25_136, hfh_25_137, hlh_25, hrh_25, hsp⟩
    rw [if_neg hs_174] at hsp
    by_cases hs_175 : l2_25 = 98
    · rw [if_pos hs_175] at hsp
      refine lv_tableIn (tgt := 1642) hx hb dX13_wanted_27 (by rw [hs_175]; decide) (by rw [hs_175]; decide) (off := 1615) (by rw [hs_175]; rfl) (by decide) ?_
      exact hj_1642 (H, locs, ls, z25, g118_25, g119_25, g127_25, g128_25, g137_25, x117_25, x120_25, x131_25) ⟨lv_sub hl [1] rfl, hS, hD.sub (ws' := [(h0, .inr (13, z25)), (qf100, .inl (cf100, 48000, .inl f100)), (qf128, .inl (cf128, 31, .inl g128_25)), (qf127, .inl (cf127, 30, .inl g127_25)), (qf104, .inl (cf104, 8, .inl f104)), (qf102, .inl (cf102, 2048, .inl f102)), (qf118, .inl (cf118, 2100, .inl g118_25)), (qf119, .inl (cf119, 2100, .inl g119_25)), (qf105, .inl (cf105, 8, .inl f105)), (qf137, .inl (cf137, 6, .inl g137_25))]) [0, 1, 2, 3, 4, 5, 6, 7, 8, 9] (by decide) rfl, hP.sub (ws' := [(h0, .inr (13, z25)), (qf100, .inl (cf100, 48000, .inl f100)), (qf128, .inl (cf128, 31, .inl g128_25)), (qf127, .inl (cf127, 30, .inl g127_25)), (qf104, .inl (cf104, 8, .inl f104)), (qf102, .inl (cf102, 2048, .inl f102)), (qf118, .inl (cf118, 2100, .inl g118_25)), (qf119, .inl (cf119, 2100, .inl g119_25)), (qf105, .inl (cf105, 8, .inl f105)), (qf137, .inl (cf137, 6, .inl g137_25))]) [0, 1, 2, 3, 4, 5, 6, 7, 8, 9] rfl, hfh_25_98, hfh_25_100, hfh_25_102, hfh_25_104, hfh_25_105, hfh_25_117, hfh_25_118, hfh_25_119, hfh_25_120, hfh_25_127, hfh_25_128, hfh_25_129, hfh_25_130, hfh_25_131, hfh_25_132, hfh_25_134, hfh_25_136, hfh_25_137, hlh_25, hrh_25, hsp⟩
    rw [if_neg hs_175] at hsp
    by_cases hs_176 : l2_25 = 99
    · rw [if_pos hs_176] at hsp
      refine lv_tableIn (tgt := 1642) hx hb dX13_wanted_27 (by rw [hs_176]; decide) (by rw [hs_176]; decide) (off := 1615) (by rw [hs_176]; rfl) (by decide) ?_
      exact hj_1642 (H, locs, ls, z25, g118_25, g119_25, g127_25, g128_25, g137_25, x117_25, x120_25, x131_25) ⟨lv_sub hl [1] rfl, hS, hD.sub (ws' := [(h0, .inr (13, z25)), (qf100, .inl (cf100, 48000, .inl f100)), (qf128, .inl (cf128, 31, .inl g128_25)), (qf127, .inl (cf127, 30, .inl g127_25)), (qf104, .inl (cf104, 8, .inl f104)), (qf102, .inl (cf102, 2048, .inl f102)), (qf118, .inl (cf118, 2100, .inl g118_25)), (qf119, .inl (cf119, 2100, .inl g119_25)), (qf105, .inl (cf105, 8, .inl f105)), (qf137, .inl (cf137, 6, .inl g137_25))]) [0, 1, 2, 3, 4, 5, 6, 7, 8, 9] (by decide) rfl, hP.sub (ws' := [(h0, .inr (13, z25)), (qf100, .inl (cf100, 48000, .inl f100)), (qf128, .inl (cf128, 31, .inl g128_25)), (qf127, .inl (cf127, 30, .inl g127_25)), (qf104, .inl (cf104, 8, .inl f104)), (qf102, .inl (cf102, 2048, .inl f102)), (qf118, .inl (cf118, 2100, .inl g118_25)), (qf119, .inl (cf119, 2100, .inl g119_25)), (qf105, .inl (cf105, 8, .inl f105)), (qf137, .inl (cf137, 6, .inl g137_25))]) [0, 1, 2, 3, 4, 5, 6, 7, 8, 9] rfl, hfh_25_98, hfh_25_100, hfh_25_102, hfh_25_104, hfh_25_105, hfh_25_117, hfh_25_118, hfh_25_119, hfh_25_120, hfh_25_127, hfh_25_128, hfh_25_129, hfh_25_130, hfh_25_131, hfh_25_132, hfh_25_134, hfh_25_136, hfh_25_137, hlh_25, hrh_25, hsp⟩
    rw [if_neg hs_176] at hsp
    by_cases hs_177 : l2_25 = 100
    · rw [if_pos hs_177] at hsp
      refine lv_tableIn (tgt := 1183) hx hb dX13_wanted_27 (by rw [hs_177]; decide) (by rw [hs_177]; decide) (off := 1156) (by rw [hs_177]; rfl) (by decide) ?_
      exact hj_1183 (H, locs, ls, z25, g118_25, g119_25, g127_25, g128_25, g137_25, x117_25, x120_25, x131_25) ⟨lv_sub hl [1] rfl, hS, hD.sub (ws' := [(h0, .inr (13, z25)), (qf100, .inl (cf100, 48000, .inl f100)), (qf128, .inl (cf128, 31, .inl g128_25)), (qf127, .inl (cf127, 30, .inl g127_25)), (qf104, .inl (cf104, 8, .inl f104)), (qf102, .inl (cf102, 2048, .inl f102)), (qf118, .inl (cf118, 2100, .inl g118_25)), (qf119, .inl (cf119, 2100, .inl g119_25)), (qf105, .inl (cf105, 8, .inl f105)), (qf137, .inl (cf137, 6, .inl g137_25))]) [0, 1, 2, 3, 4, 5, 6, 7, 8, 9] (by decide) rfl, hP.sub (ws' := [(h0, .inr (13, z25)), (qf100, .inl (cf100, 48000, .inl f100)), (qf128, .inl (cf128, 31, .inl g128_25)), (qf127, .inl (cf127, 30, .inl g127_25)), (qf104, .inl (cf104, 8, .inl f104)), (qf102, .inl (cf102, 2048, .inl f102)), (qf118, .inl (cf118, 2100, .inl g118_25)), (qf119, .inl (cf119, 2100, .inl g119_25)), (qf105, .inl (cf105, 8, .inl f105)), (qf137, .inl (cf137, 6, .inl g137_25))]) [0, 1, 2, 3, 4, 5, 6, 7, 8, 9] rfl, hfh_25_98, hfh_25_100, hfh_25_102, hfh_25_104, hfh_25_105, hfh_25_117, hfh_25_118, hfh_25_119, hfh_25_120, hfh_25_127, hfh_25_128, hfh_25_129, hfh_25_130, hfh_25_131, hfh_25_132, hfh_25_134, hfh_25_136, hfh_25_137, hlh_25, hrh_25, hsp⟩
    rw [if_neg hs_177] at hsp
    by_cases hs_178 : l2_25 = 101
    · rw [if_pos hs_178] at hsp
      refine lv_tableIn (tgt := 1642) hx hb dX13_wanted_27 (by rw [hs_178]; decide) (by rw [hs_178]; decide) (off := 1615) (by rw [hs_178]; rfl) (by decide) ?_
      exact hj_1642 (H, locs, ls, z25, g118_25, g119_25, g127_25, g128_25, g137_25, x117_25, x120_25, x131_25) ⟨lv_sub hl [1] rfl, hS, hD.sub (ws' := [(h0, .inr (13, z25)), (qf100, .inl (cf100, 48000, .inl f100)), (qf128, .inl (cf128, 31, .inl g128_25)), (qf127, .inl (cf127, 30, .inl g127_25)), (qf104, .inl (cf104, 8, .inl f104)), (qf102, .inl (cf102, 2048, .inl f102)), (qf118, .inl (cf118, 2100, .inl g118_25)), (qf119, .inl (cf119, 2100, .inl g119_25)), (qf105, .inl (cf105, 8, .inl f105)), (qf137, .inl (cf137, 6, .inl g137_25))]) [0, 1, 2, 3, 4, 5, 6, 7, 8, 9] (by decide) rfl, hP.sub (ws' := [(h0, .inr (13, z25)), (qf100, .inl (cf100, 48000, .inl f100)), (qf128, .inl (cf128, 31, .inl g128_25)), (qf127, .inl (cf127, 30, .inl g127_25)), (qf104, .inl (cf104, 8, .inl f104)), (qf102, .inl (cf102, 2048, .inl f102)), (qf118, .inl (cf118, 2100, .inl g118_25)), (qf119, .inl (cf119, 2100, .inl g119_25)), (qf105, .inl (cf105, 8, .inl f105)), (qf137, .inl (cf137, 6, .inl g137_25))]) [0, 1, 2, 3, 4, 5, 6, 7, 8, 9] rfl, hfh_25_98, hfh_25_100, hfh_25_102, hfh_25_104, hfh_25_105, hfh_25_117, hfh_25_118, hfh_25_119, hfh_25_120, hfh_25_127, hfh_25_128, hfh_25_129, hfh_25_130, hfh_25_131, hfh_25_132, hfh_25_134, hfh_25_136, hfh_25_137, hlh_25, hrh_25, hsp⟩
    rw [if_neg hs_178] at hsp
    by_cases hs_179 : l2_25 = 102
    · rw [if_pos hs_179] at hsp
      refine lv_tableIn (tgt := 1642) hx hb dX13_wanted_27 (by rw [hs_179]; decide) (by rw [hs_179]; decide) (off := 1615) (by rw [hs_179]; rfl) (by decide) ?_
      exact hj_1642 (H, locs, ls, z25, g118_25, g119_25, g127_25, g128_25, g137_25, x117_25, x120_25, x131_25) ⟨lv_sub hl [1] rfl, hS, hD.sub (ws' := [(h0, .inr (13, z25)), (qf100, .inl (cf100, 48000, .inl f100)), (qf128, .inl (cf128, 31, .inl g128_25)), (qf127, .inl (cf127, 30, .inl g127_25)), (qf104, .inl (cf104, 8, .inl f104)), (qf102, .inl (cf102, 2048, .inl f102)), (qf118, .inl (cf118, 2100, .inl g118_25)), (qf119, .inl (cf119, 2100, .inl g119_25)), (qf105, .inl (cf105, 8, .inl f105)), (qf137, .inl (cf137, 6, .inl g137_25))]) [0, 1, 2, 3, 4, 5, 6, 7, 8, 9] (by decide) rfl, hP.sub (ws' := [(h0, .inr (13, z25)), (qf100, .inl (cf100, 48000, .inl f100)), (qf128, .inl (cf128, 31, .inl g128_25)), (qf127, .inl (cf127, 30, .inl g127_25)), (qf104, .inl (cf104, 8, .inl f104)), (qf102, .inl (cf102, 2048, .inl f102)), (qf118, .inl (cf118, 2100, .inl g118_25)), (qf119, .inl (cf119, 2100, .inl g119_25)), (qf105, .inl (cf105, 8, .inl f105)), (qf137, .inl (cf137, 6, .inl g137_25))]) [0, 1, 2, 3, 4, 5, 6, 7, 8, 9] rfl, hfh_25_98, hfh_25_100, hfh_25_102, hfh_25_104, hfh_25_105, hfh_25_117, hfh_25_118, hfh_25_119, hfh_25_120, hfh_25_127, hfh_25_128, hfh_25_129, hfh_25_130, hfh_25_131, hfh_25_132, hfh_25_134, hfh_25_136, hfh_25_137, hlh_25, hrh_25, hsp⟩
    rw [if_neg hs_179] at hsp
    by_cases hs_180 : l2_25 = 103
    · rw [if_pos hs_180] at hsp
      refine lv_tableIn (tgt := 1642) hx hb dX13_wanted_27 (by rw [hs_180]; decide) (by rw [hs_180]; decide) (off := 1615) (by rw [hs_180]; rfl) (by decide) ?_
      exact hj_1642 (H, locs, ls, z25, g118_25, g119_25, g127_25, g128_25, g137_25, x117_25, x120_25, x131_25) ⟨lv_sub hl [1] rfl, hS, hD.sub (ws' := [(h0, .inr (13, z25)), (qf100, .inl (cf100, 48000, .inl f100)), (qf128, .inl (cf128, 31, .inl g128_25)), (qf127, .inl (cf127, 30, .inl g127_25)), (qf104, .inl (cf104, 8, .inl f104)), (qf102, .inl (cf102, 2048, .inl f102)), (qf118, .inl (cf118, 2100, .inl g118_25)), (qf119, .inl (cf119, 2100, .inl g119_25)), (qf105, .inl (cf105, 8, .inl f105)), (qf137, .inl (cf137, 6, .inl g137_25))]) [0, 1, 2, 3, 4, 5, 6, 7, 8, 9] (by decide) rfl, hP.sub (ws' := [(h0, .inr (13, z25)), (qf100, .inl (cf100, 48000, .inl f100)), (qf128, .inl (cf128, 31, .inl g128_25)), (qf127, .inl (cf127, 30, .inl g127_25)), (qf104, .inl (cf104, 8, .inl f104)), (qf102, .inl (cf102, 2048, .inl f102)), (qf118, .inl (cf118, 2100, .inl g118_25)), (qf119, .inl (cf119, 2100, .inl g119_25)), (qf105, .inl (cf105, 8, .inl f105)), (qf137, .inl (cf137, 6, .inl g137_25))]) [0, 1, 2, 3, 4, 5, 6, 7, 8, 9] rfl, hfh_25_98, hfh_25_100, hfh_25_102, hfh_25_104, hfh_25_105, hfh_25_117, hfh_25_118, hfh_25_119, hfh_25_120, hfh_25_127, hfh_25_128, hfh_25_129, hfh_25_130, hfh_25_131, hfh_25_132, hfh_25_134, hfh_25_136, hfh_25_137, hlh_25, hrh_25, hsp⟩
    rw [if_neg hs_180] at hsp
    by_cases hs_181 : l2_25 = 104
    · rw [if_pos hs_181] at hsp
      refine lv_tableIn (tgt := 1183) hx hb dX13_wanted_27 (by rw [hs_181]; decide) (by rw [hs_181]; decide) (off := 1156) (by rw [hs_181]; rfl) (by decide) ?_
      exact hj_1183 (H, locs, ls, z25, g118_25, g119_25, g127_25, g128_25, g137_25, x117_25, x120_25, x131_25) ⟨lv_sub hl [1] rfl, hS, hD.sub (ws' := [(h0, .inr (13, z25)), (qf100, .inl (cf100, 48000, .inl f100)), (qf128, .inl (cf128, 31, .inl g128_25)), (qf127, .inl (cf127, 30, .inl g127_25)), (qf104, .inl (cf104, 8, .inl f104)), (qf102, .inl (cf102, 2048, .inl f102)), (qf118, .inl (cf118, 2100, .inl g118_25)), (qf119, .inl (cf119, 2100, .inl g119_25)), (qf105, .inl (cf105, 8, .inl f105)), (qf137, .inl (cf137, 6, .inl g137_25))]) [0, 1, 2, 3, 4, 5, 6, 7, 8, 9] (by decide) rfl, hP.sub (ws' := [(h0, .inr (13, z25)), (qf100, .inl (cf100, 48000, .inl f100)), (qf128, .inl (cf128, 31, .inl g128_25)), (qf127, .inl (cf127, 30, .inl g127_25)), (qf104, .inl (cf104, 8, .inl f104)), (qf102, .inl (cf102, 2048, .inl f102)), (qf118, .inl (cf118, 2100, .inl g118_25)), (qf119, .inl (cf119, 2100, .inl g119_25)), (qf105, .inl (cf105, 8, .inl f105)), (qf137, .inl (cf137, 6, .inl g137_25))]) [0, 1, 2, 3, 4, 5, 6, 7, 8, 9] rfl, hfh_25_98, hfh_25_100, hfh_25_102, hfh_25_104, hfh_25_105, hfh_25_117, hfh_25_118, hfh_25_119, hfh_25_120, hfh_25_127, hfh_25_128, hfh_25_129, hfh_25_130, hfh_25_131, hfh_25_132, hfh_25_134, hfh_25_136, hfh_25_137, hlh_25, hrh_25, hsp⟩
    rw [if_neg hs_181] at hsp
    by_cases hs_182 : l2_25 = 105
    · rw [if_pos hs_182] at hsp
      refine lv_tableIn (tgt := 1642) hx hb dX13_wanted_27 (by rw [hs_182]; decide) (by rw [hs_182]; decide) (off := 1615) (by rw [hs_182]; rfl) (by decide) ?_
      exact hj_1642 (H, locs, ls, z25, g118_25, g119_25, g127_25, g128_25, g137_25, x117_25, x120_25, x131_25) ⟨lv_sub hl [1] rfl, hS, hD.sub (ws' := [(h0, .inr (13, z25)), (qf100, .inl (cf100, 48000, .inl f100)), (qf128, .inl (cf128, 31, .inl g128_25)), (qf127, .inl (cf127, 30, .inl g127_25)), (qf104, .inl (cf104, 8, .inl f104)), (qf102, .inl (cf102, 2048, .inl f102)), (qf118, .inl (cf118, 2100, .inl g118_25)), (qf119, .inl (cf119, 2100, .inl g119_25)), (qf105, .inl (cf105, 8, .inl f105)), (qf137, .inl (cf137, 6, .inl g137_25))]) [0, 1, 2, 3, 4, 5, 6, 7, 8, 9] (by decide) rfl, hP.sub (ws' := [(h0, .inr (13, z25)), (qf100, .inl (cf100, 48000, .inl f100)), (qf128, .inl (cf128, 31, .inl g128_25)), (qf127, .inl (cf127, 30, .inl g127_25)), (qf104, .inl (cf104, 8, .inl f104)), (qf102, .inl (cf102, 2048, .inl f102)), (qf118, .inl (cf118, 2100, .inl g118_25)), (qf119, .inl (cf119, 2100, .inl g119_25)), (qf105, .inl (cf105, 8, .inl f105)), (qf137, .inl (cf137, 6, .inl g137_25))]) [0, 1, 2, 3, 4, 5, 6, 7, 8, 9] rfl, hfh_25_98, hfh_25_100, hfh_25_102, hfh_25_104, hfh_25_105, hfh_25_117, hfh_25_118, hfh_25_119, hfh_25_120, hfh_25_127, hfh_25_128, hfh_25_129, hfh_25_130, hfh_25_131, hfh_25_132, hfh_25_134, hfh_25_136, hfh_25_137, hlh_25, hrh_25, hsp⟩
    rw [if_neg hs_182] at hsp
    by_cases hs_183 : l2_25 = 106
    · rw [if_pos hs_183] at hsp
      refine lv_tableIn (tgt := 1642) hx hb dX13_wanted_27 (by rw [hs_183]; decide) (by rw [hs_183]; decide) (off := 1615) (by rw [hs_183]; rfl) (by decide) ?_
      exact hj_1642 (H, locs, ls, z25, g118_25, g119_25, g127_25, g128_25, g137_25, x117_25, x120_25, x131_25) ⟨lv_sub hl [1] rfl, hS, hD.sub (ws' := [(h0, .inr (13, z25)), (qf100, .inl (cf100, 48000, .inl f100)), (qf128, .inl (cf128, 31, .inl g128_25)), (qf127, .inl (cf127, 30, .inl g127_25)), (qf104, .inl (cf104, 8, .inl f104)), (qf102, .inl (cf102, 2048, .inl f102)), (qf118, .inl (cf118, 2100, .inl g118_25)), (qf119, .inl (cf119, 2100, .inl g119_25)), (qf105, .inl (cf105, 8, .inl f105)), (qf137, .inl (cf137, 6, .inl g137_25))]) [0, 1, 2, 3, 4, 5, 6, 7, 8, 9] (by decide) rfl, hP.sub (ws' := [(h0, .inr (13, z25)), (qf100, .inl (cf100, 48000, .inl f100)), (qf128, .inl (cf128, 31, .inl g128_25)), (qf127, .inl (cf127, 30, .inl g127_25)), (qf104, .inl (cf104, 8, .inl f104)), (qf102, .inl (cf102, 2048, .inl f102)), (qf118, .inl (cf118, 2100, .inl g118_25)), (qf119, .inl (cf119, 2100, .inl g119_25)), (qf105, .inl (cf105, 8, .inl f105)), (qf137, .inl (cf137, 6, .inl g137_25))]) [0, 1, 2, 3, 4, 5, 6, 7, 8, 9] rfl, hfh_25_98, hfh_25_100, hfh_25_102, hfh_25_104, hfh_25_105, hfh_25_117, hfh_25_118, hfh_25_119, hfh_25_120, hfh_25_127, hfh_25_128, hfh_25_129, hfh_25_130, hfh_25_131, hfh_25_132, hfh_25_134, hfh_25_136, hfh_25_137, hlh_25, hrh_25, hsp⟩
    rw [if_neg hs_183] at hsp
    by_cases hs_184 : l2_25 = 107
    · rw [if_pos hs_184] at hsp
      refine lv_tableIn (tgt := 1642) hx hb dX13_wanted_27 (by rw [hs_184]; decide) (by rw [hs_184]; decide) (off := 1615) (by rw [hs_184]; rfl) (by decide) ?_
      exact hj_1642 (H, locs, ls, z25, g118_25, g119_25, g127_25, g128_25, g137_25, x117_25, x120_25, x131_25) ⟨lv_sub hl [1] rfl, hS, hD.sub (ws' := [(h0, .inr (13, z25)), (qf100, .inl (cf100, 48000, .inl f100)), (qf128, .inl (cf128, 31, .inl g128_25)), (qf127, .inl (cf127, 30, .inl g127_25)), (qf104, .inl (cf104, 8, .inl f104)), (qf102, .inl (cf102, 2048, .inl f102)), (qf118, .inl (cf118, 2100, .inl g118_25)), (qf119, .inl (cf119, 2100, .inl g119_25)), (qf105, .inl (cf105, 8, .inl f105)), (qf137, .inl (cf137, 6, .inl g137_25))]) [0, 1, 2, 3, 4, 5, 6, 7, 8, 9] (by decide) rfl, hP.sub (ws' := [(h0, .inr (13, z25)), (qf100, .inl (cf100, 48000, .inl f100)), (qf128, .inl (cf128, 31, .inl g128_25)), (qf127, .inl (cf127, 30, .inl g127_25)), (qf104, .inl (cf104, 8, .inl f104)), (qf102, .inl (cf102, 2048, .inl f102)), (qf118, .inl (cf118, 2100, .inl g118_25)), (qf119, .inl (cf119, 2100, .inl g119_25)), (qf105, .inl (cf105, 8, .inl f105)), (qf137, .inl (cf137, 6, .inl g137_25))]) [0, 1, 2, 3, 4, 5, 6, 7, 8, 9] rfl, hfh_25_98, hfh_25_100, hfh_25_102, hfh_25_104, hfh_25_105, hfh_25_117, hfh_25_118, hfh_25_119, hfh_25_120, hfh_25_127, hfh_25_128, hfh_25_129, hfh_25_130, hfh_25_131, hfh_25_132, hfh_25_134, hfh_25_136, hfh_25_137, hlh_25, hrh_25, hsp⟩
    rw [if_neg hs_184] at hsp
    by_cases hs_185 : l2_25 = 108
    · rw [if_pos hs_185] at hsp
      refine lv_tableIn (tgt := 1183) hx hb dX13_wanted_27 (by rw [hs_185]; decide) (by rw [hs_185]; decide) (off := 1156) (by rw [hs_185]; rfl) (by decide) ?_
      exact hj_1183 (H, locs, ls, z25, g118_25, g119_25, g127_25, g128_25, g137_25, x117_25, x120_25, x131_25) ⟨lv_sub hl [1] rfl, hS, hD.sub (ws' := [(h0, .inr (13, z25)), (qf100, .inl (cf100, 48000, .inl f100)), (qf128, .inl (cf128, 31, .inl g128_25)), (qf127, .inl (cf127, 30, .inl g127_25)), (qf104, .inl (cf104, 8, .inl f104)), (qf102, .inl (cf102, 2048, .inl f102)), (qf118, .inl (cf118, 2100, .inl g118_25)), (qf119, .inl (cf119, 2100, .inl g119_25)), (qf105, .inl (cf105, 8, .inl f105)), (qf137, .inl (cf137, 6, .inl g137_25))]) [0, 1, 2, 3, 4, 5, 6, 7, 8, 9] (by decide) rfl, hP.sub (ws' := [(h0, .inr (13, z25)), (qf100, .inl (cf100, 48000, .inl f100)), (qf128, .inl (cf128, 31, .inl g128_25)), (qf127, .inl (cf127, 30, .inl g127_25)), (qf104, .inl (cf104, 8, .inl f104)), (qf102, .inl (cf102, 2048, .inl f102)), (qf118, .inl (cf118, 2100, .inl g118_25)), (qf119, .inl (cf119, 2100, .inl g119_25)), (qf105, .inl (cf105, 8, .inl f105)), (qf137, .inl (cf137, 6, .inl g137_25))]) [0, 1, 2, 3, 4, 5, 6, 7, 8, 9] rfl, hfh_25_98, hfh_25_100, hfh_25_102, hfh_25_104, hfh_25_105, hfh_25_117, hfh_25_118, hfh_25_119, hfh_25_120, hfh_25_127, hfh_25_128, hfh_25_129, hfh_25_130, hfh_25_131, hfh_25_132, hfh_25_134, hfh_25_136, hfh_25_137, hlh_25, hrh_25, hsp⟩
    rw [if_neg hs_185] at hsp
    by_cases hs_186 : l2_25 = 109
    · rw [if_pos hs_186] at hsp
      refine lv_tableIn (tgt := 1642) hx hb dX13_wanted_27 (by rw [hs_186]; decide) (by rw [hs_186]; decide) (off := 1615) (by rw [hs_186]; rfl) (by decide) ?_
      exact hj_1642 (H, locs, ls, z25, g118_25, g119_25, g127_25, g128_25, g137_25, x117_25, x120_25, x131_25) ⟨lv_sub hl [1] rfl, hS, hD.sub (ws' := [(h0, .inr (13, z25)), (qf100, .inl (cf100, 48000, .inl f100)), (qf128, .inl (cf128, 31, .inl g128_25)), (qf127, .inl (cf127, 30, .inl g127_25)), (qf104, .inl (cf104, 8, .inl f104)), (qf102, .inl (cf102, 2048, .inl f102)), (qf118, .inl (cf118, 2100, .inl g118_25)), (qf119, .inl (cf119, 2100, .inl g119_25)), (qf105, .inl (cf105, 8, .inl f105)), (qf137, .inl (cf137, 6, .inl g137_25))]) [0, 1, 2, 3, 4, 5, 6, 7, 8, 9] (by decide) rfl, hP.sub (ws' := [(h0, .inr (13, z25)), (qf100, .inl (cf100, 48000, .inl f100)), (qf128, .inl (cf128, 31, .inl g128_25)), (qf127, .inl (cf127, 30, .inl g127_25)), (qf104, .inl (cf104, 8, .inl f104)), (qf102, .inl (cf102, 2048, .inl f102)), (qf118, .inl (cf118, 2100, .inl g118_25)), (qf119, .inl (cf119, 2100, .inl g119_25)), (qf105, .inl (cf105, 8, .inl f105)), (qf137, .inl (cf137, 6, .inl g137_25))]) [0, 1, 2, 3, 4, 5, 6, 7, 8, 9] rfl, hfh_25_98, hfh_25_100, hfh_25_102, hfh_25_104, hfh_25_105, hfh_25_117, hfh_25_118, hfh_25_119, hfh_25_120, hfh_25_127, hfh_25_128, hfh_25_129, hfh_25_130, hfh_25_131, hfh_25_132, hfh_25_134, hfh_25_136, hfh_25_137, hlh_25, hrh_25, hsp⟩
    rw [if_neg hs_186] at hsp
    by_cases hs_187 : l2_25 = 110
    · rw [if_pos hs_187] at hsp
      refine lv_tableIn (tgt := 1642) hx hb dX13_wanted_27 (by rw [hs_187]; decide) (by rw [hs_187]; decide) (off := 1615) (by rw [hs_187]; rfl) (by decide) ?_
      exact hj_1642 (H, locs, ls, z25, g118_25, g119_25, g127_25, g128_25, g137_25, x117_25, x120_25, x131_25) ⟨lv_sub hl [1] rfl, hS, hD.sub (ws' := [(h0, .inr (13, z25)), (qf100, .inl (cf100, 48000, .inl f100)), (qf128, .inl (cf128, 31, .inl g128_25)), (qf127, .inl (cf127, 30, .inl g127_25)), (qf104, .inl (cf104, 8, .inl f104)), (qf102, .inl (cf102, 2048, .inl f102)), (qf118, .inl (cf118, 2100, .inl g118_25)), (qf119, .inl (cf119, 2100, .inl g119_25)), (qf105, .inl (cf105, 8, .inl f105)), (qf137, .inl (cf137, 6, .inl g137_25))]) [0, 1, 2, 3, 4, 5, 6, 7, 8, 9] (by decide) rfl, hP.sub (ws' := [(h0, .inr (13, z25)), (qf100, .inl (cf100, 48000, .inl f100)), (qf128, .inl (cf128, 31, .inl g128_25)), (qf127, .inl (cf127, 30, .inl g127_25)), (qf104, .inl (cf104, 8, .inl f104)), (qf102, .inl (cf102, 2048, .inl f102)), (qf118, .inl (cf118, 2100, .inl g118_25)), (qf119, .inl (cf119, 2100, .inl g119_25)), (qf105, .inl (cf105, 8, .inl f105)), (qf137, .inl (cf137, 6, .inl g137_25))]) [0, 1, 2, 3, 4, 5, 6, 7, 8, 9] rfl, hfh_25_98, hfh_25_100, hfh_25_102, hfh_25_104, hfh_25_105, hfh_25_117, hfh_25_118, hfh_25_119, hfh_25_120, hfh_25_127, hfh_25_128, hfh_25_129, hfh_25_130, hfh_25_131, hfh_25_132, hfh_25_134, hfh_25_136, hfh_25_137, hlh_25, hrh_25, hsp⟩
    rw [if_neg hs_187] at hsp
    by_cases hs_188 : l2_25 = 111
    · rw [if_pos hs_188] at hsp
      refine lv_tableIn (tgt := 1642) hx hb dX13_wanted_27 (by rw [hs_188]; decide) (by rw [hs_188]; decide) (off := 1615) (by rw [hs_188]; rfl) (by decide) ?_
      exact hj_1642 (H, locs, ls, z25, g118_25, g119_25, g127_25, g128_25, g137_25, x117_25, x120_25, x131_25) ⟨lv_sub hl [1] rfl, hS, hD.sub (ws' := [(h0, .inr (13, z25)), (qf100, .inl (cf100, 48000, .inl f100)), (qf128, .inl (cf128, 31, .inl g128_25)), (qf127, .inl (cf127, 30, .inl g127_25)), (qf104, .inl (cf104, 8, .inl f104)), (qf102, .inl (cf102, 2048, .inl f102)), (qf118, .inl (cf118, 2100, .inl g118_25)), (qf119, .inl (cf119, 2100, .inl g119_25)), (qf105, .inl (cf105, 8, .inl f105)), (qf137, .inl (cf137, 6, .inl g137_25))]) [0, 1, 2, 3, 4, 5, 6, 7, 8, 9] (by decide) rfl, hP.sub (ws' := [(h0, .inr (13, z25)), (qf100, .inl (cf100, 48000, .inl f100)), (qf128, .inl (cf128, 31, .inl g128_25)), (qf127, .inl (cf127, 30, .inl g127_25)), (qf104, .inl (cf104, 8, .inl f104)), (qf102, .inl (cf102, 2048, .inl f102)), (qf118, .inl (cf118, 2100, .inl g118_25)), (qf119, .inl (cf119, 2100, .inl g119_25)), (qf105, .inl (cf105, 8, .inl f105)), (qf137, .inl (cf137, 6, .inl g137_25))]) [0, 1, 2, 3, 4, 5, 6, 7, 8, 9] rfl, hfh_25_98, hfh_25_100, hfh_25_102, hfh_25_104, hfh_25_105, hfh_25_117, hfh_25_118, hfh_25_119, hfh_25_120, hfh_25_127, hfh_25_128, hfh_25_129, hfh_25_130, hfh_25_131, hfh_25_132, hfh_25_134, hfh_25_136, hfh_25_137, hlh_25, hrh_25, hsp⟩
    rw [if_neg hs_188] at hsp
    by_cases hs_189 : l2_25 = 112
    · rw [if_pos hs_189] at hsp
      refine lv_tableIn (tgt := 1183) hx hb dX13_wanted_27 (by rw [hs_189]; decide) (by rw [hs_189]; decide) (off := 1156) (by rw [hs_189]; rfl) (by decide) ?_
      exact hj_1183 (H, locs, ls, z25, g118_25, g119_25, g127_25, g128_25, g137_25, x117_25, x120_25, x131_25) ⟨lv_sub hl [1] rfl, hS, hD.sub (ws' := [(h0, .inr (13, z25)), (qf100, .inl (cf100, 48000, .inl f100)), (qf128, .inl (cf128, 31, .inl g128_25)), (qf127, .inl (cf127, 30, .inl g127_25)), (qf104, .inl (cf104, 8, .inl f104)), (qf102, .inl (cf102, 2048, .inl f102)), (qf118, .inl (cf118, 2100, .inl g118_25)), (qf119, .inl (cf119, 2100, .inl g119_25)), (qf105, .inl (cf105, 8, .inl f105)), (qf137, .inl (cf137, 6, .inl g137_25))]) [0, 1, 2, 3, 4, 5, 6, 7, 8, 9] (by decide) rfl, hP.sub (ws' := [(h0, .inr (13, z25)), (qf100, .inl (cf100, 48000, .inl f100)), (qf128, .inl (cf128, 31, .inl g128_25)), (qf127, .inl (cf127, 30, .inl g127_25)), (qf104, .inl (cf104, 8, .inl f104)), (qf102, .inl (cf102, 2048, .inl f102)), (qf118, .inl (cf118, 2100, .inl g118_25)), (qf119, .inl (cf119, 2100, .inl g119_25)), (qf105, .inl (cf105, 8, .inl f105)), (qf137, .inl (cf137, 6, .inl g137_25))]) [0, 1, 2, 3, 4, 5, 6, 7, 8, 9] rfl, hfh_25_98, hfh_25_100, hfh_25_102, hfh_25_104, hfh_25_105, hfh_25_117, hfh_25_118, hfh_25_119, hfh_25_120, hfh_25_127, hfh_25_128, hfh_25_129, hfh_25_130, hfh_25_131, hfh_25_132, hfh_25_134, hfh_25_136, hfh_25_137, hlh_25, hrh_25, hsp⟩
    rw [if_neg hs_189] at hsp
    by_cases hs_190 : l2_25 = 113
    · rw [if_pos hs_190] at hsp
      refine lv_tableIn (tgt := 1642) hx hb dX13_wanted_27 (by rw [hs_190]; decide) (by rw [hs_190]; decide) (off := 1615) (by rw [hs_190]; rfl) (by decide) ?_
      exact hj_1642 (H, locs, ls, z25, g118_25, g119_25, g127_25, g128_25, g137_25, x117_25, x120_25, x131_25) ⟨lv_sub hl [1] rfl, hS, hD.sub (ws' := [(h0, .inr (13, z25)), (qf100, .inl (cf100, 48000, .inl f100)), (qf128, .inl (cf128, 31, .inl g128_25)), (qf127, .inl (cf127, 30, .inl g127_25)), (qf104, .inl (cf104, 8, .inl f104)), (qf102, .inl (cf102, 2048, .inl f102)), (qf118, .inl (cf118, 2100, .inl g118_25)), (qf119, .inl (cf119, 2100, .inl g119_25)), (qf105, .inl (cf105, 8, .inl f105)), (qf137, .inl (cf137, 6, .inl g137_25))]) [0, 1, 2, 3, 4, 5, 6, 7, 8, 9] (by decide) rfl, hP.sub (ws' := [(h0, .inr (13, z25)), (qf100, .inl (cf100, 48000, .inl f100)), (qf128, .inl (cf128, 31, .inl g128_25)), (qf127, .inl (cf127, 30, .inl g127_25)), (qf104, .inl (cf104, 8, .inl f104)), (qf102, .inl (cf102, 2048, .inl f102)), (qf118, .inl (cf118, 2100, .inl g118_25)), (qf119, .inl (cf119, 2100, .inl g119_25)), (qf105, .inl (cf105, 8, .inl f105)), (qf137, .inl (cf137, 6, .inl g137_25))]) [0, 1, 2, 3, 4, 5, 6, 7, 8, 9] rfl, hfh_25_98, hfh_25_100, hfh_25_102, hfh_25_104, hfh_25_105, hfh_25_117, hfh_25_118, hfh_25_119, hfh_25_120, hfh_25_127, hfh_25_128, hfh_25_129, hfh_25_130, hfh_25_131, hfh_25_132, hfh_25_134, hfh_25_136, hfh_25_137, hlh_25, hrh_25, hsp⟩
    rw [if_neg hs_190] at hsp
    by_cases hs_191 : l2_25 = 114
    · rw [if_pos hs_191] at hsp
      refine lv_tableIn (tgt := 1642) hx hb dX13_wanted_27 (by rw [hs_191]; decide) (by rw [hs_191]; decide) (off := 1615) (by rw [hs_191]; rfl) (by decide) ?_
      exact hj_1642 (H, locs, ls, z25, g118_25, g119_25, g127_25, g128_25, g137_25, x117_25, x120_25, x131_25) ⟨lv_sub hl [1] rfl, hS, hD.sub (ws' := [(h0, .inr (13, z25)), (qf100, .inl (cf100, 48000, .inl f100)), (qf128, .inl (cf128, 31, .inl g128_25)), (qf127, .inl (cf127, 30, .inl g127_25)), (qf104, .inl (cf104, 8, .inl f104)), (qf102, .inl (cf102, 2048, .inl f102)), (qf118, .inl (cf118, 2100, .inl g118_25)), (qf119, .inl (cf119, 2100, .inl g119_25)), (qf105, .inl (cf105, 8, .inl f105)), (qf137, .inl (cf137, 6, .inl g137_25))]) [0, 1, 2, 3, 4, 5, 6, 7, 8, 9] (by decide) rfl, hP.sub (ws' := [(h0, .inr (13, z25)), (qf100, .inl (cf100, 48000, .inl f100)), (qf128, .inl (cf128, 31, .inl g128_25)), (qf127, .inl (cf127, 30, .inl g127_25)), (qf104, .inl (cf104, 8, .inl f104)), (qf102, .inl (cf102, 2048, .inl f102)), (qf118, .inl (cf118, 2100, .inl g118_25)), (qf119, .inl (cf119, 2100, .inl g119_25)), (qf105, .inl (cf105, 8, .inl f105)), (qf137, .inl (cf137, 6, .inl g137_25))]) [0, 1, 2, 3, 4, 5, 6, 7, 8, 9] rfl, hfh_25_98, hfh_25_100, hfh_25_102, hfh_25_104, hfh_25_105, hfh_25_117, hfh_25_118, hfh_25_119, hfh_25_120, hfh_25_127, hfh_25_128, hfh_25_129, hfh_25_130, hfh_25_131, hfh_25_132, hfh_25_134, hfh_25_136, hfh_25_137, hlh_25, hrh_25, hsp⟩
    rw [if_neg hs_191] at hsp
    by_cases hs_192 : l2_25 = 115
    · rw [if_pos hs_192] at hsp
      refine lv_tableIn (tgt := 1642) hx hb dX13_wanted_27 (by rw [hs_192]; decide) (by rw [hs_192]; decide) (off := 1615) (by rw [hs_192]; rfl) (by decide) ?_
      exact hj_1642 (H, locs, ls, z25, g118_25, g119_25, g127_25, g128_25, g137_25, x117_25, x120_25, x131_25) ⟨lv_sub hl [1] rfl, hS, hD.sub (ws' := [(h0, .inr (13, z25)), (qf100, .inl (cf100, 48000, .inl f100)), (qf128, .inl (cf128, 31, .inl g128_25)), (qf127, .inl (cf127, 30, .inl g127_25)), (qf104, .inl (cf104, 8, .inl f104)), (qf102, .inl (cf102, 2048, .inl f102)), (qf118, .inl (cf118, 2100, .inl g118_25)), (qf119, .inl (cf119, 2100, .inl g119_25)), (qf105, .inl (cf105, 8, .inl f105)), (qf137, .inl (cf137, 6, .inl g137_25))]) [0, 1, 2, 3, 4, 5, 6, 7, 8, 9] (by decide) rfl, hP.sub (ws' := [(h0, .inr (13, z25)), (qf100, .inl (cf100, 48000, .inl f100)), (qf128, .inl (cf128, 31, .inl g128_25)), (qf127, .inl (cf127, 30, .inl g127_25)), (qf104, .inl (cf104, 8, .inl f104)), (qf102, .inl (cf102, 2048, .inl f102)), (qf118, .inl (cf118, 2100, .inl g118_25)), (qf119, .inl (cf119, 2100, .inl g119_25)), (qf105, .inl (cf105, 8, .inl f105)), (qf137, .inl (cf137, 6, .inl g137_25))]) [0, 1, 2, 3, 4, 5, 6, 7, 8, 9] rfl, hfh_25_98, hfh_25_100, hfh_25_102, hfh_25_104, hfh_25_105, hfh_25_117, hfh_25_118, hfh_25_119, hfh_25_120, hfh_25_127, hfh_25_128, hfh_25_129, hfh_25_130, hfh_25_131, hfh_25_132, hfh_25_134, hfh_25_136, hfh_25_137, hlh_25, hrh_25, hsp⟩
    rw [if_neg hs_192] at hsp
    by_cases hs_193 : l2_25 = 116
    · rw [if_pos hs_193] at hsp
      refine lv_tableIn (tgt := 1205) hx hb dX13_wanted_27 (by rw [hs_193]; decide) (by rw [hs_193]; decide) (off := 1178) (by rw [hs_193]; rfl) (by decide) ?_
      refine lv_aload_n hx hb dX13_wanted_1205 rfl (lv_at hl 1 rfl) ?_
      refine lv_iconst (v := 1) hx hb dX13_wanted_1206 (by decide) ?_
      obtain ⟨⟨u26_0, u26_1⟩, hu_26, hsp⟩ := ox_bind hsp
      try dsimp only at hsp
      have hPc := hP.sub (ws' := [(h0, .inr (13, z25)), (qf128, .inl (cf128, 31, .inl g128_25))]) [0, 2] rfl
      have hDc := hD.sub (ws' := [(h0, .inr (13, z25)), (qf128, .inl (cf128, 31, .inl g128_25))]) [0, 2] (by decide) rfl
      have hKc := hK.sub (tys' := [(cf128, .int)]) [1] rfl
      have hFc := va_free (wc := [(h0, .inr (13, z25)), (qf128, .inl (cf128, 31, .inl g128_25))]) hD hS hA [0, 2] rfl
      refine va_calli (va_runV (As := [.int 1]) (rest := []) ⟨hx, hb, hml, hown, hts⟩ (tn_pullInts l dC dI H.size h0 z25 1 qf128 x131_25 cf128 g128_25 nf u26_0 u26_1 hlh_25 hfh_25_128 hfh_25_131 hu_26) (cwV 1 hts gv_h9_70 rfl rfl rfl (by decide +kernel) ⟨Nat.le_of_ble_eq_true rfl, Nat.le_of_ble_eq_true rfl⟩) ⟨fun a U g mk q => by obtain ⟨q0, q1, qP, qK, qD⟩ := q; exact ⟨q0, q1, qP, va_K.moved (u := U) (U := U.calling g mk a) (Vm.Alike.refl U.vm) qK, qD⟩, va_recv hKc hPc (ci := 13) (q0 := 0) rfl rfl, fun U hU hW => ⟨rfl, by rw [hU], by rw [hU]; exact hPc, va_K.moved hW.alike hKc, hDc.weaken (fun _ _ _ _ => trivial)⟩⟩ rfl rfl hl.1 rfl (lv_room (Nat.le_of_ble_eq_true rfl)) dX13_wanted_1207 ⟨Nat.le_of_ble_eq_true rfl, Nat.le_of_ble_eq_true rfl⟩) hS (fun q _ h => hFc q h) hFc ?_
      clear hS
      intro r_194 u t H1 locs ht hvm hw hB hz1 hk1 hS
      obtain ⟨z_26, rfl⟩ : ∃ z, z = u := ⟨_, rfl⟩
      obtain ⟨hP1, hK1, hD1⟩ := hB
      rw [ht] at hP1
      have hK1 := va_K.moved hvm.symm hK1
      try dsimp only at hw
      have hPD := va_join (wr := [(qf100, .inl (cf100, 48000, .inl f100)), (qf127, .inl (cf127, 30, .inl g127_25)), (qf104, .inl (cf104, 8, .inl f104)), (qf102, .inl (cf102, 2048, .inl f102)), (qf118, .inl (cf118, 2100, .inl g118_25)), (qf119, .inl (cf119, 2100, .inl g119_25)), (qf105, .inl (cf105, 8, .inl f105)), (qf137, .inl (cf137, 6, .inl g137_25))]) (w1 := [(h0, .inr (13, z_26)), (qf128, .inl (cf128, 31, .inl g128_25))]) hP hD [0, 2] [1, 3, 4, 5, 6, 7, 8, 9] rfl rfl (by decide) (by decide) hk1 hFc hP1 hD1
      clear hP hD
      obtain ⟨hP, hD⟩ := hPD
      replace hK := (hK.sub (tys' := [(cf100, .int), (cf127, .int), (cf104, .int), (cf102, .int), (cf118, .int), (cf119, .int), (cf105, .int), (cf137, .int)]) [0, 2, 3, 4, 5, 6, 7, 8] rfl).app hK1
      clear hPc hDc hKc hFc hP1 hK1 hD1 hz1 hk1 ht hvm
      generalize H1 = H at hP hS ⊢
      replace hP : va_P (dC, dI) vwCl [(qf100, .inl (cf100, 48000, .inl f100)), (qf127, .inl (cf127, 30, .inl g127_25)), (qf104, .inl (cf104, 8, .inl f104)), (qf102, .inl (cf102, 2048, .inl f102)), (qf118, .inl (cf118, 2100, .inl g118_25)), (qf119, .inl (cf119, 2100, .inl g119_25)), (qf105, .inl (cf105, 8, .inl f105)), (qf137, .inl (cf137, 6, .inl g137_25)), (h0, .inr (13, z_26)), (qf128, .inl (cf128, 31, .inl g128_25))] H := hP
      replace hD : va_D A [(qf100, .inl (cf100, 48000, .inl f100)), (qf127, .inl (cf127, 30, .inl g127_25)), (qf104, .inl (cf104, 8, .inl f104)), (qf102, .inl (cf102, 2048, .inl f102)), (qf118, .inl (cf118, 2100, .inl g118_25)), (qf119, .inl (cf119, 2100, .inl g119_25)), (qf105, .inl (cf105, 8, .inl f105)), (qf137, .inl (cf137, 6, .inl g137_25)), (h0, .inr (13, z_26)), (qf128, .inl (cf128, 31, .inl g128_25))] := hD
      replace hK : va_K (dC, dI) vwCl [(cf100, .int), (cf127, .int), (cf104, .int), (cf102, .int), (cf118, .int), (cf119, .int), (cf105, .int), (cf137, .int), (cf128, .int)] s := hK
      obtain ⟨hwa_26, hln_26, hre_26, hch_26_131⟩ := hw
      have hfk_26_98 : z_26[98]? = some (.int v98) := (hre_26 98 (by decide)).trans (hfh_25_98)
      have hfk_26_100 : z_26[100]? = some (.ref qf100) := (hre_26 100 (by decide)).trans (hfh_25_100)
      have hfk_26_102 : z_26[102]? = some (.ref qf102) := (hre_26 102 (by decide)).trans (hfh_25_102)
      have hfk_26_104 : z_26[104]? = some (.ref qf104) := (hre_26 104 (by decide)).trans (hfh_25_104)
      have hfk_26_105 : z_26[105]? = some (.ref qf105) := (hre_26 105 (by decide)).trans (hfh_25_105)
      have hfk_26_117 : z_26[117]? = some (.int x117_25) := (hre_26 117 (by decide)).trans (hfh_25_117)
      have hfk_26_118 : z_26[118]? = some (.ref qf118) := (hre_26 118 (by decide)).trans (hfh_25_118)
      have hfk_26_119 : z_26[119]? = some (.ref qf119) := (hre_26 119 (by decide)).trans (hfh_25_119)
      have hfk_26_120 : z_26[120]? = some (.int x120_25) := (hre_26 120 (by decide)).trans (hfh_25_120)
      have hfk_26_127 : z_26[127]? = some (.ref qf127) := (hre_26 127 (by decide)).trans (hfh_25_127)
      have hfk_26_128 : z_26[128]? = some (.ref qf128) := (hre_26 128 (by decide)).trans (hfh_25_128)
      have hfk_26_129 : z_26[129]? = some (.int v129) := (hre_26 129 (by decide)).trans (hfh_25_129)
      have hfk_26_130 : z_26[130]? = some (.int v130) := (hre_26 130 (by decide)).trans (hfh_25_130)
      have hfk_26_132 : z_26[132]? = some (.int v132) := (hre_26 132 (by decide)).trans (hfh_25_132)
      have hfk_26_134 : z_26[134]? = some (.int v134) := (hre_26 134 (by decide)).trans (hfh_25_134)
      have hfk_26_136 : z_26[136]? = some (.int v136) := (hre_26 136 (by decide)).trans (hfh_25_136)
      have hfk_26_137 : z_26[137]? = some (.ref qf137) := (hre_26 137 (by decide)).trans (hfh_25_137)
      have hrq_26 : ∀ j : Nat, j ≠ 117 → j ≠ 120 → j ≠ 131 → z_26[j]? = zs[j]? := fun j g117 g120 g131 => (hre_26 j g131).trans (hrh_25 j g117 g120 g131)
      obtain ⟨rfl, hz_26⟩ := hwa_26
      rcases hz_26 with rfl | rfl
      · rw [if_pos rfl] at hsp
        refine lv_if_eq (tgt := 1225) hx hb dX13_wanted_1210 (by decide) (fun c_195 => ?_) (fun c_195 => (show False by revert c_195; decide).elim)
        refine lv_iconst (v := 0) hx hb dX13_wanted_1225 (by decide) ?_
        have hr0 := Option.some.inj hsp
        clear hsp
        obtain ⟨hq0, hr1⟩ := Prod.mk.inj hr0
        clear hr0
        obtain ⟨hq1, hr2⟩ := Prod.mk.inj hr1
        clear hr1
        obtain ⟨hq2, hr3⟩ := Prod.mk.inj hr2
        clear hr2
        obtain ⟨hq3, hr4⟩ := Prod.mk.inj hr3
        clear hr3
        obtain ⟨hq4, hr5⟩ := Prod.mk.inj hr4
        clear hr4
        obtain ⟨hq5, hr6⟩ := Prod.mk.inj hr5
        clear hr5
        obtain ⟨hq6, hr7⟩ := Prod.mk.inj hr6
        clear hr6
        obtain ⟨hq7, hr8⟩ := Prod.mk.inj hr7
        clear hr7
        subst hq0
        subst hq1
        subst hq2
        subst hq3
        subst hq4
        subst hq5
        subst hq6
        subst hq7
        subst hr8
        have hP9 := hP.sub (ws' := [(h0, .inr (13, z_26)), (qf100, .inl (cf100, 48000, .inl f100)), (qf128, .inl (cf128, 31, .inl g128_25)), (qf127, .inl (cf127, 30, .inl g127_25)), (qf104, .inl (cf104, 8, .inl f104)), (qf102, .inl (cf102, 2048, .inl f102)), (qf118, .inl (cf118, 2100, .inl g118_25)), (qf119, .inl (cf119, 2100, .inl g119_25)), (qf105, .inl (cf105, 8, .inl f105)), (qf137, .inl (cf137, 6, .inl g137_25))]) [8, 0, 9, 1, 2, 3, 4, 5, 6, 7] rfl
        have hD9 := hD.sub (ws' := [(h0, .inr (13, z_26)), (qf100, .inl (cf100, 48000, .inl f100)), (qf128, .inl (cf128, 31, .inl g128_25)), (qf127, .inl (cf127, 30, .inl g127_25)), (qf104, .inl (cf104, 8, .inl f104)), (qf102, .inl (cf102, 2048, .inl f102)), (qf118, .inl (cf118, 2100, .inl g118_25)), (qf119, .inl (cf119, 2100, .inl g119_25)), (qf105, .inl (cf105, 8, .inl f105)), (qf137, .inl (cf137, 6, .inl g137_25))]) [8, 0, 9, 1, 2, 3, 4, 5, 6, 7] (by decide) rfl
        have hK9 := hK.sub (tys' := [(cf100, .int), (cf128, .int), (cf127, .int), (cf104, .int), (cf102, .int), (cf118, .int), (cf119, .int), (cf105, .int), (cf137, .int)]) [0, 8, 1, 2, 3, 4, 5, 6, 7] rfl
        exact W.zret hx hb hr (by decide) (fun t ht hW => ⟨⟨(0), (z_26), rfl, ⟨⟨rfl, Or.inl rfl⟩, hln_26, hrq_26, hfk_26_117, hfk_26_120, hch_26_131⟩, by rw [ht]; exact hP9, va_K.moved hW.alike hK9, hD9⟩, hS.F ht⟩) hS.2.2 dX13_wanted_1226
      · rw [if_neg (by decide)] at hsp
        refine lv_if_eq (tgt := 1225) hx hb dX13_wanted_1210 (by decide) (fun c_196 => (show False by revert c_196; decide).elim) (fun c_196 => ?_)
        refine lv_aload_n hx hb dX13_wanted_1213 rfl (lv_at hl 1 rfl) ?_
        refine lv_iconst (v := 1) hx hb dX13_wanted_1214 (by decide) ?_
        obtain ⟨⟨u27_0, g927_1, u27_2⟩, hu_27, hsp⟩ := ox_bind hsp
        try dsimp only at hsp
        have hPc := hP.sub (ws' := [(h0, .inr (13, z_26)), (qf128, .inl (cf128, 31, .inl g128_25))]) [8, 9] rfl
        have hDc := hD.sub (ws' := [(h0, .inr (13, z_26)), (qf128, .inl (cf128, 31, .inl g128_25))]) [8, 9] (by decide) rfl
        have hKc := hK.sub (tys' := [(cf128, .int)]) [8] rfl
        have hFc := va_free (wc := [(h0, .inr (13, z_26)), (qf128, .inl (cf128, 31, .inl g128_25))]) hD hS hA [8, 9] rfl
        refine va_calli (va_runV (As := [.int 1]) (rest := []) ⟨hx, hb, hml, hown, hts⟩ (tm_comesBack l dC dI H.size h0 z_26 1 qf128 v130 u26_1 cf128 g128_25 nf u27_0 g927_1 u27_2 hln_26 hfk_26_128 hfk_26_130 hch_26_131 hu_27) (cwV 1 hts gv_h9_69 rfl rfl rfl (by decide +kernel) ⟨Nat.le_of_ble_eq_true rfl, Nat.le_of_ble_eq_true rfl⟩) ⟨fun a U g mk q => by obtain ⟨q0, q1, qP, qK, qD⟩ := q; exact ⟨q0, q1, qP, va_K.moved (u := U) (U := U.calling g mk a) (Vm.Alike.refl U.vm) qK, qD⟩, va_recv hKc hPc (ci := 13) (q0 := 0) rfl rfl, fun U hU hW => ⟨rfl, by rw [hU], by rw [hU]; exact hPc, va_K.moved hW.alike hKc, hDc.weaken (fun _ _ _ _ => trivial)⟩⟩ rfl rfl hl.1 rfl (lv_room (Nat.le_of_ble_eq_true rfl)) dX13_wanted_1215 ⟨Nat.le_of_ble_eq_true rfl, Nat.le_of_ble_eq_true rfl⟩) hS (fun q _ h => hFc q h) hFc ?_
        clear hS
        intro r_197 u t H1 locs ht hvm hw hB hz1 hk1 hS
        obtain ⟨z_27, rfl⟩ : ∃ z, z = u := ⟨_, rfl⟩
        obtain ⟨hP1, hK1, hD1⟩ := hB
        rw [ht] at hP1
        have hK1 := va_K.moved hvm.symm hK1
        try dsimp only at hw
        have hPD := va_join (wr := [(qf100, .inl (cf100, 48000, .inl f100)), (qf127, .inl (cf127, 30, .inl g127_25)), (qf104, .inl (cf104, 8, .inl f104)), (qf102, .inl (cf102, 2048, .inl f102)), (qf118, .inl (cf118, 2100, .inl g118_25)), (qf119, .inl (cf119, 2100, .inl g119_25)), (qf105, .inl (cf105, 8, .inl f105)), (qf137, .inl (cf137, 6, .inl g137_25))]) (w1 := [(h0, .inr (13, z_27)), (qf128, .inl (cf128, 31, .inl g927_1))]) hP hD [8, 9] [0, 1, 2, 3, 4, 5, 6, 7] rfl rfl (by decide) (by decide) hk1 hFc hP1 hD1
        clear hP hD
        obtain ⟨hP, hD⟩ := hPD
        replace hK := (hK.sub (tys' := [(cf100, .int), (cf127, .int), (cf104, .int), (cf102, .int), (cf118, .int), (cf119, .int), (cf105, .int), (cf137, .int)]) [0, 1, 2, 3, 4, 5, 6, 7] rfl).app hK1
        clear hPc hDc hKc hFc hP1 hK1 hD1 hz1 hk1 ht hvm
        generalize H1 = H at hP hS ⊢
        replace hP : va_P (dC, dI) vwCl [(qf100, .inl (cf100, 48000, .inl f100)), (qf127, .inl (cf127, 30, .inl g127_25)), (qf104, .inl (cf104, 8, .inl f104)), (qf102, .inl (cf102, 2048, .inl f102)), (qf118, .inl (cf118, 2100, .inl g118_25)), (qf119, .inl (cf119, 2100, .inl g119_25)), (qf105, .inl (cf105, 8, .inl f105)), (qf137, .inl (cf137, 6, .inl g137_25)), (h0, .inr (13, z_27)), (qf128, .inl (cf128, 31, .inl g927_1))] H := hP
        replace hD : va_D A [(qf100, .inl (cf100, 48000, .inl f100)), (qf127, .inl (cf127, 30, .inl g127_25)), (qf104, .inl (cf104, 8, .inl f104)), (qf102, .inl (cf102, 2048, .inl f102)), (qf118, .inl (cf118, 2100, .inl g118_25)), (qf119, .inl (cf119, 2100, .inl g119_25)), (qf105, .inl (cf105, 8, .inl f105)), (qf137, .inl (cf137, 6, .inl g137_25)), (h0, .inr (13, z_27)), (qf128, .inl (cf128, 31, .inl g927_1))] := hD
        replace hK : va_K (dC, dI) vwCl [(cf100, .int), (cf127, .int), (cf104, .int), (cf102, .int), (cf118, .int), (cf119, .int), (cf105, .int), (cf137, .int), (cf128, .int)] s := hK
        obtain ⟨hwa_27, hln_27, hre_27, hch_27_131⟩ := hw
        have hfk_27_98 : z_27[98]? = some (.int v98) := (hre_27 98 (by decide)).trans (hfk_26_98)
        have hfk_27_100 : z_27[100]? = some (.ref qf100) := (hre_27 100 (by decide)).trans (hfk_26_100)
        have hfk_27_102 : z_27[102]? = some (.ref qf102) := (hre_27 102 (by decide)).trans (hfk_26_102)
        have hfk_27_104 : z_27[104]? = some (.ref qf104) := (hre_27 104 (by decide)).trans (hfk_26_104)
        have hfk_27_105 : z_27[105]? = some (.ref qf105) := (hre_27 105 (by decide)).trans (hfk_26_105)
        have hfk_27_117 : z_27[117]? = some (.int x117_25) := (hre_27 117 (by decide)).trans (hfk_26_117)
        have hfk_27_118 : z_27[118]? = some (.ref qf118) := (hre_27 118 (by decide)).trans (hfk_26_118)
        have hfk_27_119 : z_27[119]? = some (.ref qf119) := (hre_27 119 (by decide)).trans (hfk_26_119)
        have hfk_27_120 : z_27[120]? = some (.int x120_25) := (hre_27 120 (by decide)).trans (hfk_26_120)
        have hfk_27_127 : z_27[127]? = some (.ref qf127) := (hre_27 127 (by decide)).trans (hfk_26_127)
        have hfk_27_128 : z_27[128]? = some (.ref qf128) := (hre_27 128 (by decide)).trans (hfk_26_128)
        have hfk_27_129 : z_27[129]? = some (.int v129) := (hre_27 129 (by decide)).trans (hfk_26_129)
        have hfk_27_130 : z_27[130]? = some (.int v130) := (hre_27 130 (by decide)).trans (hfk_26_130)
        have hfk_27_132 : z_27[132]? = some (.int v132) := (hre_27 132 (by decide)).trans (hfk_26_132)
        have hfk_27_134 : z_27[134]? = some (.int v134) := (hre_27 134 (by decide)).trans (hfk_26_134)
        have hfk_27_136 : z_27[136]? = some (.int v136) := (hre_27 136 (by decide)).trans (hfk_26_136)
        have hfk_27_137 : z_27[137]? = some (.ref qf137) := (hre_27 137 (by decide)).trans (hfk_26_137)
        have hrq_27 : ∀ j : Nat, j ≠ 117 → j ≠ 120 → j ≠ 131 → z_27[j]? = zs[j]? := fun j g117 g120 g131 => (hre_27 j g131).trans (hrq_26 j g117 g120 g131)
        obtain ⟨rfl, hz_27⟩ := hwa_27
        rcases hz_27 with rfl | rfl
        · rw [if_pos rfl] at hsp
          refine lv_if_eq (tgt := 1225) hx hb dX13_wanted_1218 (by decide) (fun c_198 => ?_) (fun c_198 => (show False by revert c_198; decide).elim)
          refine lv_iconst (v := 0) hx hb dX13_wanted_1225 (by decide) ?_
          have hr0 := Option.some.inj hsp
          clear hsp
          obtain ⟨hq0, hr1⟩ := Prod.mk.inj hr0
          clear hr0
          obtain ⟨hq1, hr2⟩ := Prod.mk.inj hr1
          clear hr1
          obtain ⟨hq2, hr3⟩ := Prod.mk.inj hr2
          clear hr2
          obtain ⟨hq3, hr4⟩ := Prod.mk.inj hr3
          clear hr3
          obtain ⟨hq4, hr5⟩ := Prod.mk.inj hr4
          clear hr4
          obtain ⟨hq5, hr6⟩ := Prod.mk.inj hr5
          clear hr5
          obtain ⟨hq6, hr7⟩ := Prod.mk.inj hr6
          clear hr6
          obtain ⟨hq7, hr8⟩ := Prod.mk.inj hr7
          clear hr7
          subst hq0
          subst hq1
          subst hq2
          subst hq3
          subst hq4
          subst hq5
          subst hq6
          subst hq7
          subst hr8
          have hP9 := hP.sub (ws' := [(h0, .inr (13, z_27)), (qf100, .inl (cf100, 48000, .inl f100)), (qf128, .inl (cf128, 31, .inl g927_1)), (qf127, .inl (cf127, 30, .inl g127_25)), (qf104, .inl (cf104, 8, .inl f104)), (qf102, .inl (cf102, 2048, .inl f102)), (qf118, .inl (cf118, 2100, .inl g118_25)), (qf119, .inl (cf119, 2100, .inl g119_25)), (qf105, .inl (cf105, 8, .inl f105)), (qf137, .inl (cf137, 6, .inl g137_25))]) [8, 0, 9, 1, 2, 3, 4, 5, 6, 7] rfl
          have hD9 := hD.sub (ws' := [(h0, .inr (13, z_27)), (qf100, .inl (cf100, 48000, .inl f100)), (qf128, .inl (cf128, 31, .inl g927_1)), (qf127, .inl (cf127, 30, .inl g127_25)), (qf104, .inl (cf104, 8, .inl f104)), (qf102, .inl (cf102, 2048, .inl f102)), (qf118, .inl (cf118, 2100, .inl g118_25)), (qf119, .inl (cf119, 2100, .inl g119_25)), (qf105, .inl (cf105, 8, .inl f105)), (qf137, .inl (cf137, 6, .inl g137_25))]) [8, 0, 9, 1, 2, 3, 4, 5, 6, 7] (by decide) rfl
          have hK9 := hK.sub (tys' := [(cf100, .int), (cf128, .int), (cf127, .int), (cf104, .int), (cf102, .int), (cf118, .int), (cf119, .int), (cf105, .int), (cf137, .int)]) [0, 8, 1, 2, 3, 4, 5, 6, 7] rfl
          exact W.zret hx hb hr (by decide) (fun t ht hW => ⟨⟨(0), (z_27), rfl, ⟨⟨rfl, Or.inl rfl⟩, hln_27, hrq_27, hfk_27_117, hfk_27_120, hch_27_131⟩, by rw [ht]; exact hP9, va_K.moved hW.alike hK9, hD9⟩, hS.F ht⟩) hS.2.2 dX13_wanted_1226
        · rw [if_neg (by decide)] at hsp
          refine lv_if_eq (tgt := 1225) hx hb dX13_wanted_1218 (by decide) (fun c_199 => (show False by revert c_199; decide).elim) (fun c_199 => ?_)
          refine lv_iconst (v := 1) hx hb dX13_wanted_1221 (by decide) ?_
          refine lv_goto (tgt := 1226) hx hb dX13_wanted_1222 (by decide) ?_
          have hr0 := Option.some.inj hsp
          clear hsp
          obtain ⟨hq0, hr1⟩ := Prod.mk.inj hr0
          clear hr0
          obtain ⟨hq1, hr2⟩ := Prod.mk.inj hr1
          clear hr1
          obtain ⟨hq2, hr3⟩ := Prod.mk.inj hr2
          clear hr2
          obtain ⟨hq3, hr4⟩ := Prod.mk.inj hr3
          clear hr3
          obtain ⟨hq4, hr5⟩ := Prod.mk.inj hr4
          clear hr4
          obtain ⟨hq5, hr6⟩ := Prod.mk.inj hr5
          clear hr5
          obtain ⟨hq6, hr7⟩ := Prod.mk.inj hr6
          clear hr6
          obtain ⟨hq7, hr8⟩ := Prod.mk.inj hr7
          clear hr7
          subst hq0
          subst hq1
          subst hq2
          subst hq3
          subst hq4
          subst hq5
          subst hq6
          subst hq7
          subst hr8
          have hP9 := hP.sub (ws' := [(h0, .inr (13, z_27)), (qf100, .inl (cf100, 48000, .inl f100)), (qf128, .inl (cf128, 31, .inl g927_1)), (qf127, .inl (cf127, 30, .inl g127_25)), (qf104, .inl (cf104, 8, .inl f104)), (qf102, .inl (cf102, 2048, .inl f102)), (qf118, .inl (cf118, 2100, .inl g118_25)), (qf119, .inl (cf119, 2100, .inl g119_25)), (qf105, .inl (cf105, 8, .inl f105)), (qf137, .inl (cf137, 6, .inl g137_25))]) [8, 0, 9, 1, 2, 3, 4, 5, 6, 7] rfl
          have hD9 := hD.sub (ws' := [(h0, .inr (13, z_27)), (qf100, .inl (cf100, 48000, .inl f100)), (qf128, .inl (cf128, 31, .inl g927_1)), (qf127, .inl (cf127, 30, .inl g127_25)), (qf104, .inl (cf104, 8, .inl f104)), (qf102, .inl (cf102, 2048, .inl f102)), (qf118, .inl (cf118, 2100, .inl g118_25)), (qf119, .inl (cf119, 2100, .inl g119_25)), (qf105, .inl (cf105, 8, .inl f105)), (qf137, .inl (cf137, 6, .inl g137_25))]) [8, 0, 9, 1, 2, 3, 4, 5, 6, 7] (by decide) rfl
          have hK9 := hK.sub (tys' := [(cf100, .int), (cf128, .int), (cf127, .int), (cf104, .int), (cf102, .int), (cf118, .int), (cf119, .int), (cf105, .int), (cf137, .int)]) [0, 8, 1, 2, 3, 4, 5, 6, 7] rfl
          exact W.zret hx hb hr (by decide) (fun t ht hW => ⟨⟨(1), (z_27), rfl, ⟨⟨rfl, Or.inr rfl⟩, hln_27, hrq_27, hfk_27_117, hfk_27_120, hch_27_131⟩, by rw [ht]; exact hP9, va_K.moved hW.alike hK9, hD9⟩, hS.F ht⟩) hS.2.2 dX13_wanted_1226
    rw [if_neg hs_193] at hsp
    by_cases hs_200 : l2_25 = 117
    · rw [if_pos hs_200] at hsp
      refine lv_tableIn (tgt := 1642) hx hb dX13_wanted_27 (by rw [hs_200]; decide) (by rw [hs_200]; decide) (off := 1615) (by rw [hs_200]; rfl) (by decide) ?_
      exact hj_1642 (H, locs, ls, z25, g118_25, g119_25, g127_25, g128_25, g137_25, x117_25, x120_25, x131_25) ⟨lv_sub hl [1] rfl, hS, hD.sub (ws' := [(h0, .inr (13, z25)), (qf100, .inl (cf100, 48000, .inl f100)), (qf128, .inl (cf128, 31, .inl g128_25)), (qf127, .inl (cf127, 30, .inl g127_25)), (qf104, .inl (cf104, 8, .inl f104)), (qf102, .inl (cf102, 2048, .inl f102)), (qf118, .inl (cf118, 2100, .inl g118_25)), (qf119, .inl (cf119, 2100, .inl g119_25)), (qf105, .inl (cf105, 8, .inl f105)), (qf137, .inl (cf137, 6, .inl g137_25))]) [0, 1, 2, 3, 4, 5, 6, 7, 8, 9] (by decide) rfl, hP.sub (ws' := [(h0, .inr (13, z25)), (qf100, .inl (cf100, 48000, .inl f100)), (qf128, .inl (cf128, 31, .inl g128_25)), (qf127, .inl (cf127, 30, .inl g127_25)), (qf104, .inl (cf104, 8, .inl f104)), (qf102, .inl (cf102, 2048, .inl f102)), (qf118, .inl (cf118, 2100, .inl g118_25)), (qf119, .inl (cf119, 2100, .inl g119_25)), (qf105, .inl (cf105, 8, .inl f105)), (qf137, .inl (cf137, 6, .inl g137_25))]) [0, 1, 2, 3, 4, 5, 6, 7, 8, 9] rfl, hfh_25_98, hfh_25_100, hfh_25_102, hfh_25_104, hfh_25_105, hfh_25_117, hfh_25_118, hfh_25_119, hfh_25_120, hfh_25_127, hfh_25_128, hfh_25_129, hfh_25_130, hfh_25_131, hfh_25_132, hfh_25_134, hfh_25_136, hfh_25_137, hlh_25, hrh_25, hsp⟩
    rw [if_neg hs_200] at hsp
    by_cases hs_201 : l2_25 = 118
    · rw [if_pos hs_201] at hsp
      refine lv_tableIn (tgt := 1642) hx hb dX13_wanted_27 (by rw [hs_201]; decide) (by rw [hs_201]; decide) (off := 1615) (by rw [hs_201]; rfl) (by decide) ?_
      exact hj_1642 (H, locs, ls, z25, g118_25, g119_25, g127_25, g128_25, g137_25, x117_25, x120_25, x131_25) ⟨lv_sub hl [1] rfl, hS, hD.sub (ws' := [(h0, .inr (13, z25)), (qf100, .inl (cf100, 48000, .inl f100)), (qf128, .inl (cf128, 31, .inl g128_25)), (qf127, .inl (cf127, 30, .inl g127_25)), (qf104, .inl (cf104, 8, .inl f104)), (qf102, .inl (cf102, 2048, .inl f102)), (qf118, .inl (cf118, 2100, .inl g118_25)), (qf119, .inl (cf119, 2100, .inl g119_25)), (qf105, .inl (cf105, 8, .inl f105)), (qf137, .inl (cf137, 6, .inl g137_25))]) [0, 1, 2, 3, 4, 5, 6, 7, 8, 9] (by decide) rfl, hP.sub (ws' := [(h0, .inr (13, z25)), (qf100, .inl (cf100, 48000, .inl f100)), (qf128, .inl (cf128, 31, .inl g128_25)), (qf127, .inl (cf127, 30, .inl g127_25)), (qf104, .inl (cf104, 8, .inl f104)), (qf102, .inl (cf102, 2048, .inl f102)), (qf118, .inl (cf118, 2100, .inl g118_25)), (qf119, .inl (cf119, 2100, .inl g119_25)), (qf105, .inl (cf105, 8, .inl f105)), (qf137, .inl (cf137, 6, .inl g137_25))]) [0, 1, 2, 3, 4, 5, 6, 7, 8, 9] rfl, hfh_25_98, hfh_25_100, hfh_25_102, hfh_25_104, hfh_25_105, hfh_25_117, hfh_25_118, hfh_25_119, hfh_25_120, hfh_25_127, hfh_25_128, hfh_25_129, hfh_25_130, hfh_25_131, hfh_25_132, hfh_25_134, hfh_25_136, hfh_25_137, hlh_25, hrh_25, hsp⟩
    rw [if_neg hs_201] at hsp
    by_cases hs_202 : l2_25 = 119
    · rw [if_pos hs_202] at hsp
      refine lv_tableIn (tgt := 1642) hx hb dX13_wanted_27 (by rw [hs_202]; decide) (by rw [hs_202]; decide) (off := 1615) (by rw [hs_202]; rfl) (by decide) ?_
      exact hj_1642 (H, locs, ls, z25, g118_25, g119_25, g127_25, g128_25, g137_25, x117_25, x120_25, x131_25) ⟨lv_sub hl [1] rfl, hS, hD.sub (ws' := [(h0, .inr (13, z25)), (qf100, .inl (cf100, 48000, .inl f100)), (qf128, .inl (cf128, 31, .inl g128_25)), (qf127, .inl (cf127, 30, .inl g127_25)), (qf104, .inl (cf104, 8, .inl f104)), (qf102, .inl (cf102, 2048, .inl f102)), (qf118, .inl (cf118, 2100, .inl g118_25)), (qf119, .inl (cf119, 2100, .inl g119_25)), (qf105, .inl (cf105, 8, .inl f105)), (qf137, .inl (cf137, 6, .inl g137_25))]) [0, 1, 2, 3, 4, 5, 6, 7, 8, 9] (by decide) rfl, hP.sub (ws' := [(h0, .inr (13, z25)), (qf100, .inl (cf100, 48000, .inl f100)), (qf128, .inl (cf128, 31, .inl g128_25)), (qf127, .inl (cf127, 30, .inl g127_25)), (qf104, .inl (cf104, 8, .inl f104)), (qf102, .inl (cf102, 2048, .inl f102)), (qf118, .inl (cf118, 2100, .inl g118_25)), (qf119, .inl (cf119, 2100, .inl g119_25)), (qf105, .inl (cf105, 8, .inl f105)), (qf137, .inl (cf137, 6, .inl g137_25))]) [0, 1, 2, 3, 4, 5, 6, 7, 8, 9] rfl, hfh_25_98, hfh_25_100, hfh_25_102, hfh_25_104, hfh_25_105, hfh_25_117, hfh_25_118, hfh_25_119, hfh_25_120, hfh_25_127, hfh_25_128, hfh_25_129, hfh_25_130, hfh_25_131, hfh_25_132, hfh_25_134, hfh_25_136, hfh_25_137, hlh_25, hrh_25, hsp⟩
    rw [if_neg hs_202] at hsp
    by_cases hs_203 : l2_25 = 120
    · rw [if_pos hs_203] at hsp
      refine lv_tableIn (tgt := 1183) hx hb dX13_wanted_27 (by rw [hs_203]; decide) (by rw [hs_203]; decide) (off := 1156) (by rw [hs_203]; rfl) (by decide) ?_
      exact hj_1183 (H, locs, ls, z25, g118_25, g119_25, g127_25, g128_25, g137_25, x117_25, x120_25, x131_25) ⟨lv_sub hl [1] rfl, hS, hD.sub (ws' := [(h0, .inr (13, z25)), (qf100, .inl (cf100, 48000, .inl f100)), (qf128, .inl (cf128, 31, .inl g128_25)), (qf127, .inl (cf127, 30, .inl g127_25)), (qf104, .inl (cf104, 8, .inl f104)), (qf102, .inl (cf102, 2048, .inl f102)), (qf118, .inl (cf118, 2100, .inl g118_25)), (qf119, .inl (cf119, 2100, .inl g119_25)), (qf105, .inl (cf105, 8, .inl f105)), (qf137, .inl (cf137, 6, .inl g137_25))]) [0, 1, 2, 3, 4, 5, 6, 7, 8, 9] (by decide) rfl, hP.sub (ws' := [(h0, .inr (13, z25)), (qf100, .inl (cf100, 48000, .inl f100)), (qf128, .inl (cf128, 31, .inl g128_25)), (qf127, .inl (cf127, 30, .inl g127_25)), (qf104, .inl (cf104, 8, .inl f104)), (qf102, .inl (cf102, 2048, .inl f102)), (qf118, .inl (cf118, 2100, .inl g118_25)), (qf119, .inl (cf119, 2100, .inl g119_25)), (qf105, .inl (cf105, 8, .inl f105)), (qf137, .inl (cf137, 6, .inl g137_25))]) [0, 1, 2, 3, 4, 5, 6, 7, 8, 9] rfl, hfh_25_98, hfh_25_100, hfh_25_102, hfh_25_104, hfh_25_105, hfh_25_117, hfh_25_118, hfh_25_119, hfh_25_120, hfh_25_127, hfh_25_128, hfh_25_129, hfh_25_130, hfh_25_131, hfh_25_132, hfh_25_134, hfh_25_136, hfh_25_137, hlh_25, hrh_25, hsp⟩
    rw [if_neg hs_203] at hsp
    by_cases hs_204 : l2_25 = 121
    · rw [if_pos hs_204] at hsp
      refine lv_tableIn (tgt := 1642) hx hb dX13_wanted_27 (by rw [hs_204]; decide) (by rw [hs_204]; decide) (off := 1615) (by rw [hs_204]; rfl) (by decide) ?_
      exact hj_1642 (H, locs, ls, z25, g118_25, g119_25, g127_25, g128_25, g137_25, x117_25, x120_25, x131_25) ⟨lv_sub hl [1] rfl, hS, hD.sub (ws' := [(h0, .inr (13, z25)), (qf100, .inl (cf100, 48000, .inl f100)), (qf128, .inl (cf128, 31, .inl g128_25)), (qf127, .inl (cf127, 30, .inl g127_25)), (qf104, .inl (cf104, 8, .inl f104)), (qf102, .inl (cf102, 2048, .inl f102)), (qf118, .inl (cf118, 2100, .inl g118_25)), (qf119, .inl (cf119, 2100, .inl g119_25)), (qf105, .inl (cf105, 8, .inl f105)), (qf137, .inl (cf137, 6, .inl g137_25))]) [0, 1, 2, 3, 4, 5, 6, 7, 8, 9] (by decide) rfl, hP.sub (ws' := [(h0, .inr (13, z25)), (qf100, .inl (cf100, 48000, .inl f100)), (qf128, .inl (cf128, 31, .inl g128_25)), (qf127, .inl (cf127, 30, .inl g127_25)), (qf104, .inl (cf104, 8, .inl f104)), (qf102, .inl (cf102, 2048, .inl f102)), (qf118, .inl (cf118, 2100, .inl g118_25)), (qf119, .inl (cf119, 2100, .inl g119_25)), (qf105, .inl (cf105, 8, .inl f105)), (qf137, .inl (cf137, 6, .inl g137_25))]) [0, 1, 2, 3, 4, 5, 6, 7, 8, 9] rfl, hfh_25_98, hfh_25_100, hfh_25_102, hfh_25_104, hfh_25_105, hfh_25_117, hfh_25_118, hfh_25_119, hfh_25_120, hfh_25_127, hfh_25_128, hfh_25_129, hfh_25_130, hfh_25_131, hfh_25_132, hfh_25_134, hfh_25_136, hfh_25_137, hlh_25, hrh_25, hsp⟩
    rw [if_neg hs_204] at hsp
    by_cases hs_205 : l2_25 = 122
    · rw [if_pos hs_205] at hsp
      refine lv_tableIn (tgt := 1183) hx hb dX13_wanted_27 (by rw [hs_205]; decide) (by rw [hs_205]; decide) (off := 1156) (by rw [hs_205]; rfl) (by decide) ?_
      exact hj_1183 (H, locs, ls, z25, g118_25, g119_25, g127_25, g128_25, g137_25, x117_25, x120_25, x131_25) ⟨lv_sub hl [1] rfl, hS, hD.sub (ws' := [(h0, .inr (13, z25)), (qf100, .inl (cf100, 48000, .inl f100)), (qf128, .inl (cf128, 31, .inl g128_25)), (qf127, .inl (cf127, 30, .inl g127_25)), (qf104, .inl (cf104, 8, .inl f104)), (qf102, .inl (cf102, 2048, .inl f102)), (qf118, .inl (cf118, 2100, .inl g118_25)), (qf119, .inl (cf119, 2100, .inl g119_25)), (qf105, .inl (cf105, 8, .inl f105)), (qf137, .inl (cf137, 6, .inl g137_25))]) [0, 1, 2, 3, 4, 5, 6, 7, 8, 9] (by decide) rfl, hP.sub (ws' := [(h0, .inr (13, z25)), (qf100, .inl (cf100, 48000, .inl f100)), (qf128, .inl (cf128, 31, .inl g128_25)), (qf127, .inl (cf127, 30, .inl g127_25)), (qf104, .inl (cf104, 8, .inl f104)), (qf102, .inl (cf102, 2048, .inl f102)), (qf118, .inl (cf118, 2100, .inl g118_25)), (qf119, .inl (cf119, 2100, .inl g119_25)), (qf105, .inl (cf105, 8, .inl f105)), (qf137, .inl (cf137, 6, .inl g137_25))]) [0, 1, 2, 3, 4, 5, 6, 7, 8, 9] rfl, hfh_25_98, hfh_25_100, hfh_25_102, hfh_25_104, hfh_25_105, hfh_25_117, hfh_25_118, hfh_25_119, hfh_25_120, hfh_25_127, hfh_25_128, hfh_25_129, hfh_25_130, hfh_25_131, hfh_25_132, hfh_25_134, hfh_25_136, hfh_25_137, hlh_25, hrh_25, hsp⟩
    rw [if_neg hs_205] at hsp
    by_cases hs_206 : l2_25 = 123
    · rw [if_pos hs_206] at hsp
      refine lv_tableIn (tgt := 1642) hx hb dX13_wanted_27 (by rw [hs_206]; decide) (by rw [hs_206]; decide) (off := 1615) (by rw [hs_206]; rfl) (by decide) ?_
      exact hj_1642 (H, locs, ls, z25, g118_25, g119_25, g127_25, g128_25, g137_25, x117_25, x120_25, x131_25) ⟨lv_sub hl [1] rfl, hS, hD.sub (ws' := [(h0, .inr (13, z25)), (qf100, .inl (cf100, 48000, .inl f100)), (qf128, .inl (cf128, 31, .inl g128_25)), (qf127, .inl (cf127, 30, .inl g127_25)), (qf104, .inl (cf104, 8, .inl f104)), (qf102, .inl (cf102, 2048, .inl f102)), (qf118, .inl (cf118, 2100, .inl g118_25)), (qf119, .inl (cf119, 2100, .inl g119_25)), (qf105, .inl (cf105, 8, .inl f105)), (qf137, .inl (cf137, 6, .inl g137_25))]) [0, 1, 2, 3, 4, 5, 6, 7, 8, 9] (by decide) rfl, hP.sub (ws' := [(h0, .inr (13, z25)), (qf100, .inl (cf100, 48000, .inl f100)), (qf128, .inl (cf128, 31, .inl g128_25)), (qf127, .inl (cf127, 30, .inl g127_25)), (qf104, .inl (cf104, 8, .inl f104)), (qf102, .inl (cf102, 2048, .inl f102)), (qf118, .inl (cf118, 2100, .inl g118_25)), (qf119, .inl (cf119, 2100, .inl g119_25)), (qf105, .inl (cf105, 8, .inl f105)), (qf137, .inl (cf137, 6, .inl g137_25))]) [0, 1, 2, 3, 4, 5, 6, 7, 8, 9] rfl, hfh_25_98, hfh_25_100, hfh_25_102, hfh_25_104, hfh_25_105, hfh_25_117, hfh_25_118, hfh_25_119, hfh_25_120, hfh_25_127, hfh_25_128, hfh_25_129, hfh_25_130, hfh_25_131, hfh_25_132, hfh_25_134, hfh_25_136, hfh_25_137, hlh_25, hrh_25, hsp⟩
    rw [if_neg hs_206] at hsp
    by_cases hs_207 : l2_25 = 124
    · rw [if_pos hs_207] at hsp
      refine lv_tableIn (tgt := 1183) hx hb dX13_wanted_27 (by rw [hs_207]; decide) (by rw [hs_207]; decide) (off := 1156) (by rw [hs_207]; rfl) (by decide) ?_
      exact hj_1183 (H, locs, ls, z25, g118_25, g119_25, g127_25, g128_25, g137_25, x117_25, x120_25, x131_25) ⟨lv_sub hl [1] rfl, hS, hD.sub (ws' := [(h0, .inr (13, z25)), (qf100, .inl (cf100, 48000, .inl f100)), (qf128, .inl (cf128, 31, .inl g128_25)), (qf127, .inl (cf127, 30, .inl g127_25)), (qf104, .inl (cf104, 8, .inl f104)), (qf102, .inl (cf102, 2048, .inl f102)), (qf118, .inl (cf118, 2100, .inl g118_25)), (qf119, .inl (cf119, 2100, .inl g119_25)), (qf105, .inl (cf105, 8, .inl f105)), (qf137, .inl (cf137, 6, .inl g137_25))]) [0, 1, 2, 3, 4, 5, 6, 7, 8, 9] (by decide) rfl, hP.sub (ws' := [(h0, .inr (13, z25)), (qf100, .inl (cf100, 48000, .inl f100)), (qf128, .inl (cf128, 31, .inl g128_25)), (qf127, .inl (cf127, 30, .inl g127_25)), (qf104, .inl (cf104, 8, .inl f104)), (qf102, .inl (cf102, 2048, .inl f102)), (qf118, .inl (cf118, 2100, .inl g118_25)), (qf119, .inl (cf119, 2100, .inl g119_25)), (qf105, .inl (cf105, 8, .inl f105)), (qf137, .inl (cf137, 6, .inl g137_25))]) [0, 1, 2, 3, 4, 5, 6, 7, 8, 9] rfl, hfh_25_98, hfh_25_100, hfh_25_102, hfh_25_104, hfh_25_105, hfh_25_117, hfh_25_118, hfh_25_119, hfh_25_120, hfh_25_127, hfh_25_128, hfh_25_129, hfh_25_130, hfh_25_131, hfh_25_132, hfh_25_134, hfh_25_136, hfh_25_137, hlh_25, hrh_25, hsp⟩
    rw [if_neg hs_207] at hsp
    by_cases hs_208 : l2_25 = 125
    · rw [if_pos hs_208] at hsp
      refine lv_tableIn (tgt := 1642) hx hb dX13_wanted_27 (by rw [hs_208]; decide) (by rw [hs_208]; decide) (off := 1615) (by rw [hs_208]; rfl) (by decide) ?_
      exact hj_1642 (H, locs, ls, z25, g118_25, g119_25, g127_25, g128_25, g137_25, x117_25, x120_25, x131_25) ⟨lv_sub hl [1] rfl, hS, hD.sub (ws' := [(h0, .inr (13, z25)), (qf100, .inl (cf100, 48000, .inl f100)), (qf128, .inl (cf128, 31, .inl g128_25)), (qf127, .inl (cf127, 30, .inl g127_25)), (qf104, .inl (cf104, 8, .inl f104)), (qf102, .inl (cf102, 2048, .inl f102)), (qf118, .inl (cf118, 2100, .inl g118_25)), (qf119, .inl (cf119, 2100, .inl g119_25)), (qf105, .inl (cf105, 8, .inl f105)), (qf137, .inl (cf137, 6, .inl g137_25))]) [0, 1, 2, 3, 4, 5, 6, 7, 8, 9] (by decide) rfl, hP.sub (ws' := [(h0, .inr (13, z25)), (qf100, .inl (cf100, 48000, .inl f100)), (qf128, .inl (cf128, 31, .inl g128_25)), (qf127, .inl (cf127, 30, .inl g127_25)), (qf104, .inl (cf104, 8, .inl f104)), (qf102, .inl (cf102, 2048, .inl f102)), (qf118, .inl (cf118, 2100, .inl g118_25)), (qf119, .inl (cf119, 2100, .inl g119_25)), (qf105, .inl (cf105, 8, .inl f105)), (qf137, .inl (cf137, 6, .inl g137_25))]) [0, 1, 2, 3, 4, 5, 6, 7, 8, 9] rfl, hfh_25_98, hfh_25_100, hfh_25_102, hfh_25_104, hfh_25_105, hfh_25_117, hfh_25_118, hfh_25_119, hfh_25_120, hfh_25_127, hfh_25_128, hfh_25_129, hfh_25_130, hfh_25_131, hfh_25_132, hfh_25_134, hfh_25_136, hfh_25_137, hlh_25, hrh_25, hsp⟩
    rw [if_neg hs_208] at hsp
    by_cases hs_209 : l2_25 = 126
    · rw [if_pos hs_209] at hsp
      refine lv_tableIn (tgt := 1183) hx hb dX13_wanted_27 (by rw [hs_209]; decide) (by rw [hs_209]; decide) (off := 1156) (by rw [hs_209]; rfl) (by decide) ?_
      exact hj_1183 (H, locs, ls, z25, g118_25, g119_25, g127_25, g128_25, g137_25, x117_25, x120_25, x131_25) ⟨lv_sub hl [1] rfl, hS, hD.sub (ws' := [(h0, .inr (13, z25)), (qf100, .inl (cf100, 48000, .inl f100)), (qf128, .inl (cf128, 31, .inl g128_25)), (qf127, .inl (cf127, 30, .inl g127_25)), (qf104, .inl (cf104, 8, .inl f104)), (qf102, .inl (cf102, 2048, .inl f102)), (qf118, .inl (cf118, 2100, .inl g118_25)), (qf119, .inl (cf119, 2100, .inl g119_25)), (qf105, .inl (cf105, 8, .inl f105)), (qf137, .inl (cf137, 6, .inl g137_25))]) [0, 1, 2, 3, 4, 5, 6, 7, 8, 9] (by decide) rfl, hP.sub (ws' := [(h0, .inr (13, z25)), (qf100, .inl (cf100, 48000, .inl f100)), (qf128, .inl (cf128, 31, .inl g128_25)), (qf127, .inl (cf127, 30, .inl g127_25)), (qf104, .inl (cf104, 8, .inl f104)), (qf102, .inl (cf102, 2048, .inl f102)), (qf118, .inl (cf118, 2100, .inl g118_25)), (qf119, .inl (cf119, 2100, .inl g119_25)), (qf105, .inl (cf105, 8, .inl f105)), (qf137, .inl (cf137, 6, .inl g137_25))]) [0, 1, 2, 3, 4, 5, 6, 7, 8, 9] rfl, hfh_25_98, hfh_25_100, hfh_25_102, hfh_25_104, hfh_25_105, hfh_25_117, hfh_25_118, hfh_25_119, hfh_25_120, hfh_25_127, hfh_25_128, hfh_25_129, hfh_25_130, hfh_25_131, hfh_25_132, hfh_25_134, hfh_25_136, hfh_25_137, hlh_25, hrh_25, hsp⟩
    rw [if_neg hs_209] at hsp
    by_cases hs_210 : l2_25 = 127
    · rw [if_pos hs_210] at hsp
      refine lv_tableIn (tgt := 1642) hx hb dX13_wanted_27 (by rw [hs_210]; decide) (by rw [hs_210]; decide) (off := 1615) (by rw [hs_210]; rfl) (by decide) ?_
      exact hj_1642 (H, locs, ls, z25, g118_25, g119_25, g127_25, g128_25, g137_25, x117_25, x120_25, x131_25) ⟨lv_sub hl [1] rfl, hS, hD.sub (ws' := [(h0, .inr (13, z25)), (qf100, .inl (cf100, 48000, .inl f100)), (qf128, .inl (cf128, 31, .inl g128_25)), (qf127, .inl (cf127, 30, .inl g127_25)), (qf104, .inl (cf104, 8, .inl f104)), (qf102, .inl (cf102, 2048, .inl f102)), (qf118, .inl (cf118, 2100, .inl g118_25)), (qf119, .inl (cf119, 2100, .inl g119_25)), (qf105, .inl (cf105, 8, .inl f105)), (qf137, .inl (cf137, 6, .inl g137_25))]) [0, 1, 2, 3, 4, 5, 6, 7, 8, 9] (by decide) rfl, hP.sub (ws' := [(h0, .inr (13, z25)), (qf100, .inl (cf100, 48000, .inl f100)), (qf128, .inl (cf128, 31, .inl g128_25)), (qf127, .inl (cf127, 30, .inl g127_25)), (qf104, .inl (cf104, 8, .inl f104)), (qf102, .inl (cf102, 2048, .inl f102)), (qf118, .inl (cf118, 2100, .inl g118_25)), (qf119, .inl (cf119, 2100, .inl g119_25)), (qf105, .inl (cf105, 8, .inl f105)), (qf137, .inl (cf137, 6, .inl g137_25))]) [0, 1, 2, 3, 4, 5, 6, 7, 8, 9] rfl, hfh_25_98, hfh_25_100, hfh_25_102, hfh_25_104, hfh_25_105, hfh_25_117, hfh_25_118, hfh_25_119, hfh_25_120, hfh_25_127, hfh_25_128, hfh_25_129, hfh_25_130, hfh_25_131, hfh_25_132, hfh_25_134, hfh_25_136, hfh_25_137, hlh_25, hrh_25, hsp⟩
    rw [if_neg hs_210] at hsp
    by_cases hs_211 : l2_25 = 128
    · rw [if_pos hs_211] at hsp
      refine lv_tableIn (tgt := 1183) hx hb dX13_wanted_27 (by rw [hs_211]; decide) (by rw [hs_211]; decide) (off := 1156) (by rw [hs_211]; rfl) (by decide) ?_
      exact hj_1183 (H, locs, ls, z25, g118_25, g119_25, g127_25, g128_25, g137_25, x117_25, x120_25, x131_25) ⟨lv_sub hl [1] rfl, hS, hD.sub (ws' := [(h0, .inr (13, z25)), (qf100, .inl (cf100, 48000, .inl f100)), (qf128, .inl (cf128, 31, .inl g128_25)), (qf127, .inl (cf127, 30, .inl g127_25)), (qf104, .inl (cf104, 8, .inl f104)), (qf102, .inl (cf102, 2048, .inl f102)), (qf118, .inl (cf118, 2100, .inl g118_25)), (qf119, .inl (cf119, 2100, .inl g119_25)), (qf105, .inl (cf105, 8, .inl f105)), (qf137, .inl (cf137, 6, .inl g137_25))]) [0, 1, 2, 3, 4, 5, 6, 7, 8, 9] (by decide) rfl, hP.sub (ws' := [(h0, .inr (13, z25)), (qf100, .inl (cf100, 48000, .inl f100)), (qf128, .inl (cf128, 31, .inl g128_25)), (qf127, .inl (cf127, 30, .inl g127_25)), (qf104, .inl (cf104, 8, .inl f104)), (qf102, .inl (cf102, 2048, .inl f102)), (qf118, .inl (cf118, 2100, .inl g118_25)), (qf119, .inl (cf119, 2100, .inl g119_25)), (qf105, .inl (cf105, 8, .inl f105)), (qf137, .inl (cf137, 6, .inl g137_25))]) [0, 1, 2, 3, 4, 5, 6, 7, 8, 9] rfl, hfh_25_98, hfh_25_100, hfh_25_102, hfh_25_104, hfh_25_105, hfh_25_117, hfh_25_118, hfh_25_119, hfh_25_120, hfh_25_127, hfh_25_128, hfh_25_129, hfh_25_130, hfh_25_131, hfh_25_132, hfh_25_134, hfh_25_136, hfh_25_137, hlh_25, hrh_25, hsp⟩
    rw [if_neg hs_211] at hsp
    by_cases hs_212 : l2_25 = 129
    · rw [if_pos hs_212] at hsp
      refine lv_tableIn (tgt := 1642) hx hb dX13_wanted_27 (by rw [hs_212]; decide) (by rw [hs_212]; decide) (off := 1615) (by rw [hs_212]; rfl) (by decide) ?_
      exact hj_1642 (H, locs, ls, z25, g118_25, g119_25, g127_25, g128_25, g137_25, x117_25, x120_25, x131_25) ⟨lv_sub hl [1] rfl, hS, hD.sub (ws' := [(h0, .inr (13, z25)), (qf100, .inl (cf100, 48000, .inl f100)), (qf128, .inl (cf128, 31, .inl g128_25)), (qf127, .inl (cf127, 30, .inl g127_25)), (qf104, .inl (cf104, 8, .inl f104)), (qf102, .inl (cf102, 2048, .inl f102)), (qf118, .inl (cf118, 2100, .inl g118_25)), (qf119, .inl (cf119, 2100, .inl g119_25)), (qf105, .inl (cf105, 8, .inl f105)), (qf137, .inl (cf137, 6, .inl g137_25))]) [0, 1, 2, 3, 4, 5, 6, 7, 8, 9] (by decide) rfl, hP.sub (ws' := [(h0, .inr (13, z25)), (qf100, .inl (cf100, 48000, .inl f100)), (qf128, .inl (cf128, 31, .inl g128_25)), (qf127, .inl (cf127, 30, .inl g127_25)), (qf104, .inl (cf104, 8, .inl f104)), (qf102, .inl (cf102, 2048, .inl f102)), (qf118, .inl (cf118, 2100, .inl g118_25)), (qf119, .inl (cf119, 2100, .inl g119_25)), (qf105, .inl (cf105, 8, .inl f105)), (qf137, .inl (cf137, 6, .inl g137_25))]) [0, 1, 2, 3, 4, 5, 6, 7, 8, 9] rfl, hfh_25_98, hfh_25_100, hfh_25_102, hfh_25_104, hfh_25_105, hfh_25_117, hfh_25_118, hfh_25_119, hfh_25_120, hfh_25_127, hfh_25_128, hfh_25_129, hfh_25_130, hfh_25_131, hfh_25_132, hfh_25_134, hfh_25_136, hfh_25_137, hlh_25, hrh_25, hsp⟩
    rw [if_neg hs_212] at hsp
    by_cases hs_213 : l2_25 = 130
    · rw [if_pos hs_213] at hsp
      refine lv_tableIn (tgt := 1183) hx hb dX13_wanted_27 (by rw [hs_213]; decide) (by rw [hs_213]; decide) (off := 1156) (by rw [hs_213]; rfl) (by decide) ?_
      exact hj_1183 (H, locs, ls, z25, g118_25, g119_25, g127_25, g128_25, g137_25, x117_25, x120_25, x131_25) ⟨lv_sub hl [1] rfl, hS, hD.sub (ws' := [(h0, .inr (13, z25)), (qf100, .inl (cf100, 48000, .inl f100)), (qf128, .inl (cf128, 31, .inl g128_25)), (qf127, .inl (cf127, 30, .inl g127_25)), (qf104, .inl (cf104, 8, .inl f104)), (qf102, .inl (cf102, 2048, .inl f102)), (qf118, .inl (cf118, 2100, .inl g118_25)), (qf119, .inl (cf119, 2100, .inl g119_25)), (qf105, .inl (cf105, 8, .inl f105)), (qf137, .inl (cf137, 6, .inl g137_25))]) [0, 1, 2, 3, 4, 5, 6, 7, 8, 9] (by decide) rfl, hP.sub (ws' := [(h0, .inr (13, z25)), (qf100, .inl (cf100, 48000, .inl f100)), (qf128, .inl (cf128, 31, .inl g128_25)), (qf127, .inl (cf127, 30, .inl g127_25)), (qf104, .inl (cf104, 8, .inl f104)), (qf102, .inl (cf102, 2048, .inl f102)), (qf118, .inl (cf118, 2100, .inl g118_25)), (qf119, .inl (cf119, 2100, .inl g119_25)), (qf105, .inl (cf105, 8, .inl f105)), (qf137, .inl (cf137, 6, .inl g137_25))]) [0, 1, 2, 3, 4, 5, 6, 7, 8, 9] rfl, hfh_25_98, hfh_25_100, hfh_25_102, hfh_25_104, hfh_25_105, hfh_25_117, hfh_25_118, hfh_25_119, hfh_25_120, hfh_25_127, hfh_25_128, hfh_25_129, hfh_25_130, hfh_25_131, hfh_25_132, hfh_25_134, hfh_25_136, hfh_25_137, hlh_25, hrh_25, hsp⟩
    rw [if_neg hs_213] at hsp
    by_cases hs_214 : l2_25 = 131
    · rw [if_pos hs_214] at hsp
      refine lv_tableIn (tgt := 1642) hx hb dX13_wanted_27 (by rw [hs_214]; decide) (by rw [hs_214]; decide) (off := 1615) (by rw [hs_214]; rfl) (by decide) ?_
      exact hj_1642 (H, locs, ls, z25, g118_25, g119_25, g127_25, g128_25, g137_25, x117_25, x120_25, x131_25) ⟨lv_sub hl [1] rfl, hS, hD.sub (ws' := [(h0, .inr (13, z25)), (qf100, .inl (cf100, 48000, .inl f100)), (qf128, .inl (cf128, 31, .inl g128_25)), (qf127, .inl (cf127, 30, .inl g127_25)), (qf104, .inl (cf104, 8, .inl f104)), (qf102, .inl (cf102, 2048, .inl f102)), (qf118, .inl (cf118, 2100, .inl g118_25)), (qf119, .inl (cf119, 2100, .inl g119_25)), (qf105, .inl (cf105, 8, .inl f105)), (qf137, .inl (cf137, 6, .inl g137_25))]) [0, 1, 2, 3, 4, 5, 6, 7, 8, 9] (by decide) rfl, hP.sub (ws' := [(h0, .inr (13, z25)), (qf100, .inl (cf100, 48000, .inl f100)), (qf128, .inl (cf128, 31, .inl g128_25)), (qf127, .inl (cf127, 30, .inl g127_25)), (qf104, .inl (cf104, 8, .inl f104)), (qf102, .inl (cf102, 2048, .inl f102)), (qf118, .inl (cf118, 2100, .inl g118_25)), (qf119, .inl (cf119, 2100, .inl g119_25)), (qf105, .inl (cf105, 8, .inl f105)), (qf137, .inl (cf137, 6, .inl g137_25))]) [0, 1, 2, 3, 4, 5, 6, 7, 8, 9] rfl, hfh_25_98, hfh_25_100, hfh_25_102, hfh_25_104, hfh_25_105, hfh_25_117, hfh_25_118, hfh_25_119, hfh_25_120, hfh_25_127, hfh_25_128, hfh_25_129, hfh_25_130, hfh_25_131, hfh_25_132, hfh_25_134, hfh_25_136, hfh_25_137, hlh_25, hrh_25, hsp⟩
    rw [if_neg hs_214] at hsp
    by_cases hs_215 : l2_25 = 132
    · rw [if_pos hs_215] at hsp
      refine lv_tableIn (tgt := 1642) hx hb dX13_wanted_27 (by rw [hs_215]; decide) (by rw [hs_215]; decide) (off := 1615) (by rw [hs_215]; rfl) (by decide) ?_
      exact hj_1642 (H, locs, ls, z25, g118_25, g119_25, g127_25, g128_25, g137_25, x117_25, x120_25, x131_25) ⟨lv_sub hl [1] rfl, hS, hD.sub (ws' := [(h0, .inr (13, z25)), (qf100, .inl (cf100, 48000, .inl f100)), (qf128, .inl (cf128, 31, .inl g128_25)), (qf127, .inl (cf127, 30, .inl g127_25)), (qf104, .inl (cf104, 8, .inl f104)), (qf102, .inl (cf102, 2048, .inl f102)), (qf118, .inl (cf118, 2100, .inl g118_25)), (qf119, .inl (cf119, 2100, .inl g119_25)), (qf105, .inl (cf105, 8, .inl f105)), (qf137, .inl (cf137, 6, .inl g137_25))]) [0, 1, 2, 3, 4, 5, 6, 7, 8, 9] (by decide) rfl, hP.sub (ws' := [(h0, .inr (13, z25)), (qf100, .inl (cf100, 48000, .inl f100)), (qf128, .inl (cf128, 31, .inl g128_25)), (qf127, .inl (cf127, 30, .inl g127_25)), (qf104, .inl (cf104, 8, .inl f104)), (qf102, .inl (cf102, 2048, .inl f102)), (qf118, .inl (cf118, 2100, .inl g118_25)), (qf119, .inl (cf119, 2100, .inl g119_25)), (qf105, .inl (cf105, 8, .inl f105)), (qf137, .inl (cf137, 6, .inl g137_25))]) [0, 1, 2, 3, 4, 5, 6, 7, 8, 9] rfl, hfh_25_98, hfh_25_100, hfh_25_102, hfh_25_104, hfh_25_105, hfh_25_117, hfh_25_118, hfh_25_119, hfh_25_120, hfh_25_127, hfh_25_128, hfh_25_129, hfh_25_130, hfh_25_131, hfh_25_132, hfh_25_134, hfh_25_136, hfh_25_137, hlh_25, hrh_25, hsp⟩
    rw [if_neg hs_215] at hsp
    by_cases hs_216 : l2_25 = 133
    · rw [if_pos hs_216] at hsp
      refine lv_tableIn (tgt := 1642) hx hb dX13_wanted_27 (by rw [hs_216]; decide) (by rw [hs_216]; decide) (off := 1615) (by rw [hs_216]; rfl) (by decide) ?_
      exact hj_1642 (H, locs, ls, z25, g118_25, g119_25, g127_25, g128_25, g137_25, x117_25, x120_25, x131_25) ⟨lv_sub hl [1] rfl, hS, hD.sub (ws' := [(h0, .inr (13, z25)), (qf100, .inl (cf100, 48000, .inl f100)), (qf128, .inl (cf128, 31, .inl g128_25)), (qf127, .inl (cf127, 30, .inl g127_25)), (qf104, .inl (cf104, 8, .inl f104)), (qf102, .inl (cf102, 2048, .inl f102)), (qf118, .inl (cf118, 2100, .inl g118_25)), (qf119, .inl (cf119, 2100, .inl g119_25)), (qf105, .inl (cf105, 8, .inl f105)), (qf137, .inl (cf137, 6, .inl g137_25))]) [0, 1, 2, 3, 4, 5, 6, 7, 8, 9] (by decide) rfl, hP.sub (ws' := [(h0, .inr (13, z25)), (qf100, .inl (cf100, 48000, .inl f100)), (qf128, .inl (cf128, 31, .inl g128_25)), (qf127, .inl (cf127, 30, .inl g127_25)), (qf104, .inl (cf104, 8, .inl f104)), (qf102, .inl (cf102, 2048, .inl f102)), (qf118, .inl (cf118, 2100, .inl g118_25)), (qf119, .inl (cf119, 2100, .inl g119_25)), (qf105, .inl (cf105, 8, .inl f105)), (qf137, .inl (cf137, 6, .inl g137_25))]) [0, 1, 2, 3, 4, 5, 6, 7, 8, 9] rfl, hfh_25_98, hfh_25_100, hfh_25_102, hfh_25_104, hfh_25_105, hfh_25_117, hfh_25_118, hfh_25_119, hfh_25_120, hfh_25_127, hfh_25_128, hfh_25_129, hfh_25_130, hfh_25_131, hfh_25_132, hfh_25_134, hfh_25_136, hfh_25_137, hlh_25, hrh_25, hsp⟩
    rw [if_neg hs_216] at hsp
    by_cases hs_217 : l2_25 = 134
    · rw [if_pos hs_217] at hsp
      refine lv_tableIn (tgt := 1642) hx hb dX13_wanted_27 (by rw [hs_217]; decide) (by rw [hs_217]; decide) (off := 1615) (by rw [hs_217]; rfl) (by decide) ?_
      exact hj_1642 (H, locs, ls, z25, g118_25, g119_25, g127_25, g128_25, g137_25, x117_25, x120_25, x131_25) ⟨lv_sub hl [1] rfl, hS, hD.sub (ws' := [(h0, .inr (13, z25)), (qf100, .inl (cf100, 48000, .inl f100)), (qf128, .inl (cf128, 31, .inl g128_25)), (qf127, .inl (cf127, 30, .inl g127_25)), (qf104, .inl (cf104, 8, .inl f104)), (qf102, .inl (cf102, 2048, .inl f102)), (qf118, .inl (cf118, 2100, .inl g118_25)), (qf119, .inl (cf119, 2100, .inl g119_25)), (qf105, .inl (cf105, 8, .inl f105)), (qf137, .inl (cf137, 6, .inl g137_25))]) [0, 1, 2, 3, 4, 5, 6, 7, 8, 9] (by decide) rfl, hP.sub (ws' := [(h0, .inr (13, z25)), (qf100, .inl (cf100, 48000, .inl f100)), (qf128, .inl (cf128, 31, .inl g128_25)), (qf127, .inl (cf127, 30, .inl g127_25)), (qf104, .inl (cf104, 8, .inl f104)), (qf102, .inl (cf102, 2048, .inl f102)), (qf118, .inl (cf118, 2100, .inl g118_25)), (qf119, .inl (cf119, 2100, .inl g119_25)), (qf105, .inl (cf105, 8, .inl f105)), (qf137, .inl (cf137, 6, .inl g137_25))]) [0, 1, 2, 3, 4, 5, 6, 7, 8, 9] rfl, hfh_25_98, hfh_25_100, hfh_25_102, hfh_25_104, hfh_25_105, hfh_25_117, hfh_25_118, hfh_25_119, hfh_25_120, hfh_25_127, hfh_25_128, hfh_25_129, hfh_25_130, hfh_25_131, hfh_25_132, hfh_25_134, hfh_25_136, hfh_25_137, hlh_25, hrh_25, hsp⟩
    rw [if_neg hs_217] at hsp
    by_cases hs_218 : l2_25 = 135
    · rw [if_pos hs_218] at hsp
      refine lv_tableIn (tgt := 1642) hx hb dX13_wanted_27 (by rw [hs_218]; decide) (by rw [hs_218]; decide) (off := 1615) (by rw [hs_218]; rfl) (by decide) ?_
      exact hj_1642 (H, locs, ls, z25, g118_25, g119_25, g127_25, g128_25, g137_25, x117_25, x120_25, x131_25) ⟨lv_sub hl [1] rfl, hS, hD.sub (ws' := [(h0, .inr (13, z25)), (qf100, .inl (cf100, 48000, .inl f100)), (qf128, .inl (cf128, 31, .inl g128_25)), (qf127, .inl (cf127, 30, .inl g127_25)), (qf104, .inl (cf104, 8, .inl f104)), (qf102, .inl (cf102, 2048, .inl f102)), (qf118, .inl (cf118, 2100, .inl g118_25)), (qf119, .inl (cf119, 2100, .inl g119_25)), (qf105, .inl (cf105, 8, .inl f105)), (qf137, .inl (cf137, 6, .inl g137_25))]) [0, 1, 2, 3, 4, 5, 6, 7, 8, 9] (by decide) rfl, hP.sub (ws' := [(h0, .inr (13, z25)), (qf100, .inl (cf100, 48000, .inl f100)), (qf128, .inl (cf128, 31, .inl g128_25)), (qf127, .inl (cf127, 30, .inl g127_25)), (qf104, .inl (cf104, 8, .inl f104)), (qf102, .inl (cf102, 2048, .inl f102)), (qf118, .inl (cf118, 2100, .inl g118_25)), (qf119, .inl (cf119, 2100, .inl g119_25)), (qf105, .inl (cf105, 8, .inl f105)), (qf137, .inl (cf137, 6, .inl g137_25))]) [0, 1, 2, 3, 4, 5, 6, 7, 8, 9] rfl, hfh_25_98, hfh_25_100, hfh_25_102, hfh_25_104, hfh_25_105, hfh_25_117, hfh_25_118, hfh_25_119, hfh_25_120, hfh_25_127, hfh_25_128, hfh_25_129, hfh_25_130, hfh_25_131, hfh_25_132, hfh_25_134, hfh_25_136, hfh_25_137, hlh_25, hrh_25, hsp⟩
    rw [if_neg hs_218] at hsp
    by_cases hs_219 : l2_25 = 136
    · rw [if_pos hs_219] at hsp
      refine lv_tableIn (tgt := 1642) hx hb dX13_wanted_27 (by rw [hs_219]; decide) (by rw [hs_219]; decide) (off := 1615) (by rw [hs_219]; rfl) (by decide) ?_
      exact hj_1642 (H, locs, ls, z25, g118_25, g119_25, g127_25, g128_25, g137_25, x117_25, x120_25, x131_25) ⟨lv_sub hl [1] rfl, hS, hD.sub (ws' := [(h0, .inr (13, z25)), (qf100, .inl (cf100, 48000, .inl f100)), (qf128, .inl (cf128, 31, .inl g128_25)), (qf127, .inl (cf127, 30, .inl g127_25)), (qf104, .inl (cf104, 8, .inl f104)), (qf102, .inl (cf102, 2048, .inl f102)), (qf118, .inl (cf118, 2100, .inl g118_25)), (qf119, .inl (cf119, 2100, .inl g119_25)), (qf105, .inl (cf105, 8, .inl f105)), (qf137, .inl (cf137, 6, .inl g137_25))]) [0, 1, 2, 3, 4, 5, 6, 7, 8, 9] (by decide) rfl, hP.sub (ws' := [(h0, .inr (13, z25)), (qf100, .inl (cf100, 48000, .inl f100)), (qf128, .inl (cf128, 31, .inl g128_25)), (qf127, .inl (cf127, 30, .inl g127_25)), (qf104, .inl (cf104, 8, .inl f104)), (qf102, .inl (cf102, 2048, .inl f102)), (qf118, .inl (cf118, 2100, .inl g118_25)), (qf119, .inl (cf119, 2100, .inl g119_25)), (qf105, .inl (cf105, 8, .inl f105)), (qf137, .inl (cf137, 6, .inl g137_25))]) [0, 1, 2, 3, 4, 5, 6, 7, 8, 9] rfl, hfh_25_98, hfh_25_100, hfh_25_102, hfh_25_104, hfh_25_105, hfh_25_117, hfh_25_118, hfh_25_119, hfh_25_120, hfh_25_127, hfh_25_128, hfh_25_129, hfh_25_130, hfh_25_131, hfh_25_132, hfh_25_134, hfh_25_136, hfh_25_137, hlh_25, hrh_25, hsp⟩
    rw [if_neg hs_219] at hsp
    by_cases hs_220 : l2_25 = 137
    · rw [if_pos hs_220] at hsp
      refine lv_tableIn (tgt := 1642) hx hb dX13_wanted_27 (by rw [hs_220]; decide) (by rw [hs_220]; decide) (off := 1615) (by rw [hs_220]; rfl) (by decide) ?_
      exact hj_1642 (H, locs, ls, z25, g118_25, g119_25, g127_25, g128_25, g137_25, x117_25, x120_25, x131_25) ⟨lv_sub hl [1] rfl, hS, hD.sub (ws' := [(h0, .inr (13, z25)), (qf100, .inl (cf100, 48000, .inl f100)), (qf128, .inl (cf128, 31, .inl g128_25)), (qf127, .inl (cf127, 30, .inl g127_25)), (qf104, .inl (cf104, 8, .inl f104)), (qf102, .inl (cf102, 2048, .inl f102)), (qf118, .inl (cf118, 2100, .inl g118_25)), (qf119, .inl (cf119, 2100, .inl g119_25)), (qf105, .inl (cf105, 8, .inl f105)), (qf137, .inl (cf137, 6, .inl g137_25))]) [0, 1, 2, 3, 4, 5, 6, 7, 8, 9] (by decide) rfl, hP.sub (ws' := [(h0, .inr (13, z25)), (qf100, .inl (cf100, 48000, .inl f100)), (qf128, .inl (cf128, 31, .inl g128_25)), (qf127, .inl (cf127, 30, .inl g127_25)), (qf104, .inl (cf104, 8, .inl f104)), (qf102, .inl (cf102, 2048, .inl f102)), (qf118, .inl (cf118, 2100, .inl g118_25)), (qf119, .inl (cf119, 2100, .inl g119_25)), (qf105, .inl (cf105, 8, .inl f105)), (qf137, .inl (cf137, 6, .inl g137_25))]) [0, 1, 2, 3, 4, 5, 6, 7, 8, 9] rfl, hfh_25_98, hfh_25_100, hfh_25_102, hfh_25_104, hfh_25_105, hfh_25_117, hfh_25_118, hfh_25_119, hfh_25_120, hfh_25_127, hfh_25_128, hfh_25_129, hfh_25_130, hfh_25_131, hfh_25_132, hfh_25_134, hfh_25_136, hfh_25_137, hlh_25, hrh_25, hsp⟩
    rw [if_neg hs_220] at hsp
    by_cases hs_221 : l2_25 = 138
    · rw [if_pos hs_221] at hsp
      refine lv_tableIn (tgt := 1642) hx hb dX13_wanted_27 (by rw [hs_221]; decide) (by rw [hs_221]; decide) (off := 1615) (by rw [hs_221]; rfl) (by decide) ?_
      exact hj_1642 (H, locs, ls, z25, g118_25, g119_25, g127_25, g128_25, g137_25, x117_25, x120_25, x131_25) ⟨lv_sub hl [1] rfl, hS, hD.sub (ws' := [(h0, .inr (13, z25)), (qf100, .inl (cf100, 48000, .inl f100)), (qf128, .inl (cf128, 31, .inl g128_25)), (qf127, .inl (cf127, 30, .inl g127_25)), (qf104, .inl (cf104, 8, .inl f104)), (qf102, .inl (cf102, 2048, .inl f102)), (qf118, .inl (cf118, 2100, .inl g118_25)), (qf119, .inl (cf119, 2100, .inl g119_25)), (qf105, .inl (cf105, 8, .inl f105)), (qf137, .inl (cf137, 6, .inl g137_25))]) [0, 1, 2, 3, 4, 5, 6, 7, 8, 9] (by decide) rfl, hP.sub (ws' := [(h0, .inr (13, z25)), (qf100, .inl (cf100, 48000, .inl f100)), (qf128, .inl (cf128, 31, .inl g128_25)), (qf127, .inl (cf127, 30, .inl g127_25)), (qf104, .inl (cf104, 8, .inl f104)), (qf102, .inl (cf102, 2048, .inl f102)), (qf118, .inl (cf118, 2100, .inl g118_25)), (qf119, .inl (cf119, 2100, .inl g119_25)), (qf105, .inl (cf105, 8, .inl f105)), (qf137, .inl (cf137, 6, .inl g137_25))]) [0, 1, 2, 3, 4, 5, 6, 7, 8, 9] rfl, hfh_25_98, hfh_25_100, hfh_25_102, hfh_25_104, hfh_25_105, hfh_25_117, hfh_25_118, hfh_25_119, hfh_25_120, hfh_25_127, hfh_25_128, hfh_25_129, hfh_25_130, hfh_25_131, hfh_25_132, hfh_25_134, hfh_25_136, hfh_25_137, hlh_25, hrh_25, hsp⟩
    rw [if_neg hs_221] at hsp
    by_cases hs_222 : l2_25 = 139
    · rw [if_pos hs_222] at hsp
      refine lv_tableIn (tgt := 1642) hx hb dX13_wanted_27 (by rw [hs_222]; decide) (by rw [hs_222]; decide) (off := 1615) (by rw [hs_222]; rfl) (by decide) ?_
      exact hj_1642 (H, locs, ls, z25, g118_25, g119_25, g127_25, g128_25, g137_25, x117_25, x120_25, x131_25) ⟨lv_sub hl [1] rfl, hS, hD.sub (ws' := [(h0, .inr (13, z25)), (qf100, .inl (cf100, 48000, .inl f100)), (qf128, .inl (cf128, 31, .inl g128_25)), (qf127, .inl (cf127, 30, .inl g127_25)), (qf104, .inl (cf104, 8, .inl f104)), (qf102, .inl (cf102, 2048, .inl f102)), (qf118, .inl (cf118, 2100, .inl g118_25)), (qf119, .inl (cf119, 2100, .inl g119_25)), (qf105, .inl (cf105, 8, .inl f105)), (qf137, .inl (cf137, 6, .inl g137_25))]) [0, 1, 2, 3, 4, 5, 6, 7, 8, 9] (by decide) rfl, hP.sub (ws' := [(h0, .inr (13, z25)), (qf100, .inl (cf100, 48000, .inl f100)), (qf128, .inl (cf128, 31, .inl g128_25)), (qf127, .inl (cf127, 30, .inl g127_25)), (qf104, .inl (cf104, 8, .inl f104)), (qf102, .inl (cf102, 2048, .inl f102)), (qf118, .inl (cf118, 2100, .inl g118_25)), (qf119, .inl (cf119, 2100, .inl g119_25)), (qf105, .inl (cf105, 8, .inl f105)), (qf137, .inl (cf137, 6, .inl g137_25))]) [0, 1, 2, 3, 4, 5, 6, 7, 8, 9] rfl, hfh_25_98, hfh_25_100, hfh_25_102, hfh_25_104, hfh_25_105, hfh_25_117, hfh_25_118, hfh_25_119, hfh_25_120, hfh_25_127, hfh_25_128, hfh_25_129, hfh_25_130, hfh_25_131, hfh_25_132, hfh_25_134, hfh_25_136, hfh_25_137, hlh_25, hrh_25, hsp⟩
    rw [if_neg hs_222] at hsp
    by_cases hs_223 : l2_25 = 140
    · rw [if_pos hs_223] at hsp
      refine lv_tableIn (tgt := 1642) hx hb dX13_wanted_27 (by rw [hs_223]; decide) (by rw [hs_223]; decide) (off := 1615) (by rw [hs_223]; rfl) (by decide) ?_
      exact hj_1642 (H, locs, ls, z25, g118_25, g119_25, g127_25, g128_25, g137_25, x117_25, x120_25, x131_25) ⟨lv_sub hl [1] rfl, hS, hD.sub (ws' := [(h0, .inr (13, z25)), (qf100, .inl (cf100, 48000, .inl f100)), (qf128, .inl (cf128, 31, .inl g128_25)), (qf127, .inl (cf127, 30, .inl g127_25)), (qf104, .inl (cf104, 8, .inl f104)), (qf102, .inl (cf102, 2048, .inl f102)), (qf118, .inl (cf118, 2100, .inl g118_25)), (qf119, .inl (cf119, 2100, .inl g119_25)), (qf105, .inl (cf105, 8, .inl f105)), (qf137, .inl (cf137, 6, .inl g137_25))]) [0, 1, 2, 3, 4, 5, 6, 7, 8, 9] (by decide) rfl, hP.sub (ws' := [(h0, .inr (13, z25)), (qf100, .inl (cf100, 48000, .inl f100)), (qf128, .inl (cf128, 31, .inl g128_25)), (qf127, .inl (cf127, 30, .inl g127_25)), (qf104, .inl (cf104, 8, .inl f104)), (qf102, .inl (cf102, 2048, .inl f102)), (qf118, .inl (cf118, 2100, .inl g118_25)), (qf119, .inl (cf119, 2100, .inl g119_25)), (qf105, .inl (cf105, 8, .inl f105)), (qf137, .inl (cf137, 6, .inl g137_25))]) [0, 1, 2, 3, 4, 5, 6, 7, 8, 9] rfl, hfh_25_98, hfh_25_100, hfh_25_102, hfh_25_104, hfh_25_105, hfh_25_117, hfh_25_118, hfh_25_119, hfh_25_120, hfh_25_127, hfh_25_128, hfh_25_129, hfh_25_130, hfh_25_131, hfh_25_132, hfh_25_134, hfh_25_136, hfh_25_137, hlh_25, hrh_25, hsp⟩
    rw [if_neg hs_223] at hsp
    by_cases hs_224 : l2_25 = 141
    · rw [if_pos hs_224] at hsp
      refine lv_tableIn (tgt := 1642) hx hb dX13_wanted_27 (by rw [hs_224]; decide) (by rw [hs_224]; decide) (off := 1615) (by rw [hs_224]; rfl) (by decide) ?_
      exact hj_1642 (H, locs, ls, z25, g118_25, g119_25, g127_25, g128_25, g137_25, x117_25, x120_25, x131_25) ⟨lv_sub hl [1] rfl, hS, hD.sub (ws' := [(h0, .inr (13, z25)), (qf100, .inl (cf100, 48000, .inl f100)), (qf128, .inl (cf128, 31, .inl g128_25)), (qf127, .inl (cf127, 30, .inl g127_25)), (qf104, .inl (cf104, 8, .inl f104)), (qf102, .inl (cf102, 2048, .inl f102)), (qf118, .inl (cf118, 2100, .inl g118_25)), (qf119, .inl (cf119, 2100, .inl g119_25)), (qf105, .inl (cf105, 8, .inl f105)), (qf137, .inl (cf137, 6, .inl g137_25))]) [0, 1, 2, 3, 4, 5, 6, 7, 8, 9] (by decide) rfl, hP.sub (ws' := [(h0, .inr (13, z25)), (qf100, .inl (cf100, 48000, .inl f100)), (qf128, .inl (cf128, 31, .inl g128_25)), (qf127, .inl (cf127, 30, .inl g127_25)), (qf104, .inl (cf104, 8, .inl f104)), (qf102, .inl (cf102, 2048, .inl f102)), (qf118, .inl (cf118, 2100, .inl g118_25)), (qf119, .inl (cf119, 2100, .inl g119_25)), (qf105, .inl (cf105, 8, .inl f105)), (qf137, .inl (cf137, 6, .inl g137_25))]) [0, 1, 2, 3, 4, 5, 6, 7, 8, 9] rfl, hfh_25_98, hfh_25_100, hfh_25_102, hfh_25_104, hfh_25_105, hfh_25_117, hfh_25_118, hfh_25_119, hfh_25_120, hfh_25_127, hfh_25_128, hfh_25_129, hfh_25_130, hfh_25_131, hfh_25_132, hfh_25_134, hfh_25_136, hfh_25_137, hlh_25, hrh_25, hsp⟩
    rw [if_neg hs_224] at hsp
    by_cases hs_225 : l2_25 = 142
    · rw [if_pos hs_225] at hsp
      refine lv_tableIn (tgt := 1642) hx hb dX13_wanted_27 (by rw [hs_225]; decide) (by rw [hs_225]; decide) (off := 1615) (by rw [hs_225]; rfl) (by decide) ?_
      exact hj_1642 (H, locs, ls, z25, g118_25, g119_25, g127_25, g128_25, g137_25, x117_25, x120_25, x131_25) ⟨lv_sub hl [1] rfl, hS, hD.sub (ws' := [(h0, .inr (13, z25)), (qf100, .inl (cf100, 48000, .inl f100)), (qf128, .inl (cf128, 31, .inl g128_25)), (qf127, .inl (cf127, 30, .inl g127_25)), (qf104, .inl (cf104, 8, .inl f104)), (qf102, .inl (cf102, 2048, .inl f102)), (qf118, .inl (cf118, 2100, .inl g118_25)), (qf119, .inl (cf119, 2100, .inl g119_25)), (qf105, .inl (cf105, 8, .inl f105)), (qf137, .inl (cf137, 6, .inl g137_25))]) [0, 1, 2, 3, 4, 5, 6, 7, 8, 9] (by decide) rfl, hP.sub (ws' := [(h0, .inr (13, z25)), (qf100, .inl (cf100, 48000, .inl f100)), (qf128, .inl (cf128, 31, .inl g128_25)), (qf127, .inl (cf127, 30, .inl g127_25)), (qf104, .inl (cf104, 8, .inl f104)), (qf102, .inl (cf102, 2048, .inl f102)), (qf118, .inl (cf118, 2100, .inl g118_25)), (qf119, .inl (cf119, 2100, .inl g119_25)), (qf105, .inl (cf105, 8, .inl f105)), (qf137, .inl (cf137, 6, .inl g137_25))]) [0, 1, 2, 3, 4, 5, 6, 7, 8, 9] rfl, hfh_25_98, hfh_25_100, hfh_25_102, hfh_25_104, hfh_25_105, hfh_25_117, hfh_25_118, hfh_25_119, hfh_25_120, hfh_25_127, hfh_25_128, hfh_25_129, hfh_25_130, hfh_25_131, hfh_25_132, hfh_25_134, hfh_25_136, hfh_25_137, hlh_25, hrh_25, hsp⟩
    rw [if_neg hs_225] at hsp
    by_cases hs_226 : l2_25 = 143
    · rw [if_pos hs_226] at hsp
      refine lv_tableIn (tgt := 1642) hx hb dX13_wanted_27 (by rw [hs_226]; decide) (by rw [hs_226]; decide) (off := 1615) (by rw [hs_226]; rfl) (by decide) ?_
      exact hj_1642 (H, locs, ls, z25, g118_25, g119_25, g127_25, g128_25, g137_25, x117_25, x120_25, x131_25) ⟨lv_sub hl [1] rfl, hS, hD.sub (ws' := [(h0, .inr (13, z25)), (qf100, .inl (cf100, 48000, .inl f100)), (qf128, .inl (cf128, 31, .inl g128_25)), (qf127, .inl (cf127, 30, .inl g127_25)), (qf104, .inl (cf104, 8, .inl f104)), (qf102, .inl (cf102, 2048, .inl f102)), (qf118, .inl (cf118, 2100, .inl g118_25)), (qf119, .inl (cf119, 2100, .inl g119_25)), (qf105, .inl (cf105, 8, .inl f105)), (qf137, .inl (cf137, 6, .inl g137_25))]) [0, 1, 2, 3, 4, 5, 6, 7, 8, 9] (by decide) rfl, hP.sub (ws' := [(h0, .inr (13, z25)), (qf100, .inl (cf100, 48000, .inl f100)), (qf128, .inl (cf128, 31, .inl g128_25)), (qf127, .inl (cf127, 30, .inl g127_25)), (qf104, .inl (cf104, 8, .inl f104)), (qf102, .inl (cf102, 2048, .inl f102)), (qf118, .inl (cf118, 2100, .inl g118_25)), (qf119, .inl (cf119, 2100, .inl g119_25)), (qf105, .inl (cf105, 8, .inl f105)), (qf137, .inl (cf137, 6, .inl g137_25))]) [0, 1, 2, 3, 4, 5, 6, 7, 8, 9] rfl, hfh_25_98, hfh_25_100, hfh_25_102, hfh_25_104, hfh_25_105, hfh_25_117, hfh_25_118, hfh_25_119, hfh_25_120, hfh_25_127, hfh_25_128, hfh_25_129, hfh_25_130, hfh_25_131, hfh_25_132, hfh_25_134, hfh_25_136, hfh_25_137, hlh_25, hrh_25, hsp⟩
    rw [if_neg hs_226] at hsp
    by_cases hs_227 : l2_25 = 144
    · rw [if_pos hs_227] at hsp
      refine lv_tableIn (tgt := 1642) hx hb dX13_wanted_27 (by rw [hs_227]; decide) (by rw [hs_227]; decide) (off := 1615) (by rw [hs_227]; rfl) (by decide) ?_
      exact hj_1642 (H, locs, ls, z25, g118_25, g119_25, g127_25, g128_25, g137_25, x117_25, x120_25, x131_25) ⟨lv_sub hl [1] rfl, hS, hD.sub (ws' := [(h0, .inr (13, z25)), (qf100, .inl (cf100, 48000, .inl f100)), (qf128, .inl (cf128, 31, .inl g128_25)), (qf127, .inl (cf127, 30, .inl g127_25)), (qf104, .inl (cf104, 8, .inl f104)), (qf102, .inl (cf102, 2048, .inl f102)), (qf118, .inl (cf118, 2100, .inl g118_25)), (qf119, .inl (cf119, 2100, .inl g119_25)), (qf105, .inl (cf105, 8, .inl f105)), (qf137, .inl (cf137, 6, .inl g137_25))]) [0, 1, 2, 3, 4, 5, 6, 7, 8, 9] (by decide) rfl, hP.sub (ws' := [(h0, .inr (13, z25)), (qf100, .inl (cf100, 48000, .inl f100)), (qf128, .inl (cf128, 31, .inl g128_25)), (qf127, .inl (cf127, 30, .inl g127_25)), (qf104, .inl (cf104, 8, .inl f104)), (qf102, .inl (cf102, 2048, .inl f102)), (qf118, .inl (cf118, 2100, .inl g118_25)), (qf119, .inl (cf119, 2100, .inl g119_25)), (qf105, .inl (cf105, 8, .inl f105)), (qf137, .inl (cf137, 6, .inl g137_25))]) [0, 1, 2, 3, 4, 5, 6, 7, 8, 9] rfl, hfh_25_98, hfh_25_100, hfh_25_102, hfh_25_104, hfh_25_105, hfh_25_117, hfh_25_118, hfh_25_119, hfh_25_120, hfh_25_127, hfh_25_128, hfh_25_129, hfh_25_130, hfh_25_131, hfh_25_132, hfh_25_134, hfh_25_136, hfh_25_137, hlh_25, hrh_25, hsp⟩
    rw [if_neg hs_227] at hsp
    by_cases hs_228 : l2_25 = 145
    · rw [if_pos hs_228] at hsp
      refine lv_tableIn (tgt := 1642) hx hb dX13_wanted_27 (by rw [hs_228]; decide) (by rw [hs_228]; decide) (off := 1615) (by rw [hs_228]; rfl) (by decide) ?_
      exact hj_1642 (H, locs, ls, z25, g118_25, g119_25, g127_25, g128_25, g137_25, x117_25, x120_25, x131_25) ⟨lv_sub hl [1] rfl, hS, hD.sub (ws' := [(h0, .inr (13, z25)), (qf100, .inl (cf100, 48000, .inl f100)), (qf128, .inl (cf128, 31, .inl g128_25)), (qf127, .inl (cf127, 30, .inl g127_25)), (qf104, .inl (cf104, 8, .inl f104)), (qf102, .inl (cf102, 2048, .inl f102)), (qf118, .inl (cf118, 2100, .inl g118_25)), (qf119, .inl (cf119, 2100, .inl g119_25)), (qf105, .inl (cf105, 8, .inl f105)), (qf137, .inl (cf137, 6, .inl g137_25))]) [0, 1, 2, 3, 4, 5, 6, 7, 8, 9] (by decide) rfl, hP.sub (ws' := [(h0, .inr (13, z25)), (qf100, .inl (cf100, 48000, .inl f100)), (qf128, .inl (cf128, 31, .inl g128_25)), (qf127, .inl (cf127, 30, .inl g127_25)), (qf104, .inl (cf104, 8, .inl f104)), (qf102, .inl (cf102, 2048, .inl f102)), (qf118, .inl (cf118, 2100, .inl g118_25)), (qf119, .inl (cf119, 2100, .inl g119_25)), (qf105, .inl (cf105, 8, .inl f105)), (qf137, .inl (cf137, 6, .inl g137_25))]) [0, 1, 2, 3, 4, 5, 6, 7, 8, 9] rfl, hfh_25_98, hfh_25_100, hfh_25_102, hfh_25_104, hfh_25_105, hfh_25_117, hfh_25_118, hfh_25_119, hfh_25_120, hfh_25_127, hfh_25_128, hfh_25_129, hfh_25_130, hfh_25_131, hfh_25_132, hfh_25_134, hfh_25_136, hfh_25_137, hlh_25, hrh_25, hsp⟩
    rw [if_neg hs_228] at hsp
    by_cases hs_229 : l2_25 = 146
    · rw [if_pos hs_229] at hsp
      refine lv_tableIn (tgt := 1642) hx hb dX13_wanted_27 (by rw [hs_229]; decide) (by rw [hs_229]; decide) (off := 1615) (by rw [hs_229]; rfl) (by decide) ?_
      exact hj_1642 (H, locs, ls, z25, g118_25, g119_25, g127_25, g128_25, g137_25, x117_25, x120_25, x131_25) ⟨lv_sub hl [1] rfl, hS, hD.sub (ws' := [(h0, .inr (13, z25)), (qf100, .inl (cf100, 48000, .inl f100)), (qf128, .inl (cf128, 31, .inl g128_25)), (qf127, .inl (cf127, 30, .inl g127_25)), (qf104, .inl (cf104, 8, .inl f104)), (qf102, .inl (cf102, 2048, .inl f102)), (qf118, .inl (cf118, 2100, .inl g118_25)), (qf119, .inl (cf119, 2100, .inl g119_25)), (qf105, .inl (cf105, 8, .inl f105)), (qf137, .inl (cf137, 6, .inl g137_25))]) [0, 1, 2, 3, 4, 5, 6, 7, 8, 9] (by decide) rfl, hP.sub (ws' := [(h0, .inr (13, z25)), (qf100, .inl (cf100, 48000, .inl f100)), (qf128, .inl (cf128, 31, .inl g128_25)), (qf127, .inl (cf127, 30, .inl g127_25)), (qf104, .inl (cf104, 8, .inl f104)), (qf102, .inl (cf102, 2048, .inl f102)), (qf118, .inl (cf118, 2100, .inl g118_25)), (qf119, .inl (cf119, 2100, .inl g119_25)), (qf105, .inl (cf105, 8, .inl f105)), (qf137, .inl (cf137, 6, .inl g137_25))]) [0, 1, 2, 3, 4, 5, 6, 7, 8, 9] rfl, hfh_25_98, hfh_25_100, hfh_25_102, hfh_25_104, hfh_25_105, hfh_25_117, hfh_25_118, hfh_25_119, hfh_25_120, hfh_25_127, hfh_25_128, hfh_25_129, hfh_25_130, hfh_25_131, hfh_25_132, hfh_25_134, hfh_25_136, hfh_25_137, hlh_25, hrh_25, hsp⟩
    rw [if_neg hs_229] at hsp
    by_cases hs_230 : l2_25 = 147
    · rw [if_pos hs_230] at hsp
      refine lv_tableIn (tgt := 1642) hx hb dX13_wanted_27 (by rw [hs_230]; decide) (by rw [hs_230]; decide) (off := 1615) (by rw [hs_230]; rfl) (by decide) ?_
      exact hj_1642 (H, locs, ls, z25, g118_25, g119_25, g127_25, g128_25, g137_25, x117_25, x120_25, x131_25) ⟨lv_sub hl [1] rfl, hS, hD.sub (ws' := [(h0, .inr (13, z25)), (qf100, .inl (cf100, 48000, .inl f100)), (qf128, .inl (cf128, 31, .inl g128_25)), (qf127, .inl (cf127, 30, .inl g127_25)), (qf104, .inl (cf104, 8, .inl f104)), (qf102, .inl (cf102, 2048, .inl f102)), (qf118, .inl (cf118, 2100, .inl g118_25)), (qf119, .inl (cf119, 2100, .inl g119_25)), (qf105, .inl (cf105, 8, .inl f105)), (qf137, .inl (cf137, 6, .inl g137_25))]) [0, 1, 2, 3, 4, 5, 6, 7, 8, 9] (by decide) rfl, hP.sub (ws' := [(h0, .inr (13, z25)), (qf100, .inl (cf100, 48000, .inl f100)), (qf128, .inl (cf128, 31, .inl g128_25)), (qf127, .inl (cf127, 30, .inl g127_25)), (qf104, .inl (cf104, 8, .inl f104)), (qf102, .inl (cf102, 2048, .inl f102)), (qf118, .inl (cf118, 2100, .inl g118_25)), (qf119, .inl (cf119, 2100, .inl g119_25)), (qf105, .inl (cf105, 8, .inl f105)), (qf137, .inl (cf137, 6, .inl g137_25))]) [0, 1, 2, 3, 4, 5, 6, 7, 8, 9] rfl, hfh_25_98, hfh_25_100, hfh_25_102, hfh_25_104, hfh_25_105, hfh_25_117, hfh_25_118, hfh_25_119, hfh_25_120, hfh_25_127, hfh_25_128, hfh_25_129, hfh_25_130, hfh_25_131, hfh_25_132, hfh_25_134, hfh_25_136, hfh_25_137, hlh_25, hrh_25, hsp⟩
    rw [if_neg hs_230] at hsp
    by_cases hs_231 : l2_25 = 148
    · rw [if_pos hs_231] at hsp
      refine lv_tableIn (tgt := 1642) hx hb dX13_wanted_27 (by rw [hs_231]; decide) (by rw [hs_231]; decide) (off := 1615) (by rw [hs_231]; rfl) (by decide) ?_
      exact hj_1642 (H, locs, ls, z25, g118_25, g119_25, g127_25, g128_25, g137_25, x117_25, x120_25, x131_25) ⟨lv_sub hl [1] rfl, hS, hD.sub (ws' := [(h0, .inr (13, z25)), (qf100, .inl (cf100, 48000, .inl f100)), (qf128, .inl (cf128, 31, .inl g128_25)), (qf127, .inl (cf127, 30, .inl g127_25)), (qf104, .inl (cf104, 8, .inl f104)), (qf102, .inl (cf102, 2048, .inl f102)), (qf118, .inl (cf118, 2100, .inl g118_25)), (qf119, .inl (cf119, 2100, .inl g119_25)), (qf105, .inl (cf105, 8, .inl f105)), (qf137, .inl (cf137, 6, .inl g137_25))]) [0, 1, 2, 3, 4, 5, 6, 7, 8, 9] (by decide) rfl, hP.sub (ws' := [(h0, .inr (13, z25)), (qf100, .inl (cf100, 48000, .inl f100)), (qf128, .inl (cf128, 31, .inl g128_25)), (qf127, .inl (cf127, 30, .inl g127_25)), (qf104, .inl (cf104, 8, .inl f104)), (qf102, .inl (cf102, 2048, .inl f102)), (qf118, .inl (cf118, 2100, .inl g118_25)), (qf119, .inl (cf119, 2100, .inl g119_25)), (qf105, .inl (cf105, 8, .inl f105)), (qf137, .inl (cf137, 6, .inl g137_25))]) [0, 1, 2, 3, 4, 5, 6, 7, 8, 9] rfl, hfh_25_98, hfh_25_100, hfh_25_102, hfh_25_104, hfh_25_105, hfh_25_117, hfh_25_118, hfh_25_119, hfh_25_120, hfh_25_127, hfh_25_128, hfh_25_129, hfh_25_130, hfh_25_131, hfh_25_132, hfh_25_134, hfh_25_136, hfh_25_137, hlh_25, hrh_25, hsp⟩
    rw [if_neg hs_231] at hsp
    by_cases hs_232 : l2_25 = 149
    · rw [if_pos hs_232] at hsp
      refine lv_tableIn (tgt := 1642) hx hb dX13_wanted_27 (by rw [hs_232]; decide) (by rw [hs_232]; decide) (off := 1615) (by rw [hs_232]; rfl) (by decide) ?_
      exact hj_1642 (H, locs, ls, z25, g118_25, g119_25, g127_25, g128_25, g137_25, x117_25, x120_25, x131_25) ⟨lv_sub hl [1] rfl, hS, hD.sub (ws' := [(h0, .inr (13, z25)), (qf100, .inl (cf100, 48000, .inl f100)), (qf128, .inl (cf128, 31, .inl g128_25)), (qf127, .inl (cf127, 30, .inl g127_25)), (qf104, .inl (cf104, 8, .inl f104)), (qf102, .inl (cf102, 2048, .inl f102)), (qf118, .inl (cf118, 2100, .inl g118_25)), (qf119, .inl (cf119, 2100, .inl g119_25)), (qf105, .inl (cf105, 8, .inl f105)), (qf137, .inl (cf137, 6, .inl g137_25))]) [0, 1, 2, 3, 4, 5, 6, 7, 8, 9] (by decide) rfl, hP.sub (ws' := [(h0, .inr (13, z25)), (qf100, .inl (cf100, 48000, .inl f100)), (qf128, .inl (cf128, 31, .inl g128_25)), (qf127, .inl (cf127, 30, .inl g127_25)), (qf104, .inl (cf104, 8, .inl f104)), (qf102, .inl (cf102, 2048, .inl f102)), (qf118, .inl (cf118, 2100, .inl g118_25)), (qf119, .inl (cf119, 2100, .inl g119_25)), (qf105, .inl (cf105, 8, .inl f105)), (qf137, .inl (cf137, 6, .inl g137_25))]) [0, 1, 2, 3, 4, 5, 6, 7, 8, 9] rfl, hfh_25_98, hfh_25_100, hfh_25_102, hfh_25_104, hfh_25_105, hfh_25_117, hfh_25_118, hfh_25_119, hfh_25_120, hfh_25_127, hfh_25_128, hfh_25_129, hfh_25_130, hfh_25_131, hfh_25_132, hfh_25_134, hfh_25_136, hfh_25_137, hlh_25, hrh_25, hsp⟩
    rw [if_neg hs_232] at hsp
    by_cases hs_233 : l2_25 = 150
    · rw [if_pos hs_233] at hsp
      refine lv_tableIn (tgt := 1642) hx hb dX13_wanted_27 (by rw [hs_233]; decide) (by rw [hs_233]; decide) (off := 1615) (by rw [hs_233]; rfl) (by decide) ?_
      exact hj_1642 (H, locs, ls, z25, g118_25, g119_25, g127_25, g128_25, g137_25, x117_25, x120_25, x131_25) ⟨lv_sub hl [1] rfl, hS, hD.sub (ws' := [(h0, .inr (13, z25)), (qf100, .inl (cf100, 48000, .inl f100)), (qf128, .inl (cf128, 31, .inl g128_25)), (qf127, .inl (cf127, 30, .inl g127_25)), (qf104, .inl (cf104, 8, .inl f104)), (qf102, .inl (cf102, 2048, .inl f102)), (qf118, .inl (cf118, 2100, .inl g118_25)), (qf119, .inl (cf119, 2100, .inl g119_25)), (qf105, .inl (cf105, 8, .inl f105)), (qf137, .inl (cf137, 6, .inl g137_25))]) [0, 1, 2, 3, 4, 5, 6, 7, 8, 9] (by decide) rfl, hP.sub (ws' := [(h0, .inr (13, z25)), (qf100, .inl (cf100, 48000, .inl f100)), (qf128, .inl (cf128, 31, .inl g128_25)), (qf127, .inl (cf127, 30, .inl g127_25)), (qf104, .inl (cf104, 8, .inl f104)), (qf102, .inl (cf102, 2048, .inl f102)), (qf118, .inl (cf118, 2100, .inl g118_25)), (qf119, .inl (cf119, 2100, .inl g119_25)), (qf105, .inl (cf105, 8, .inl f105)), (qf137, .inl (cf137, 6, .inl g137_25))]) [0, 1, 2, 3, 4, 5, 6, 7, 8, 9] rfl, hfh_25_98, hfh_25_100, hfh_25_102, hfh_25_104, hfh_25_105, hfh_25_117, hfh_25_118, hfh_25_119, hfh_25_120, hfh_25_127, hfh_25_128, hfh_25_129, hfh_25_130, hfh_25_131, hfh_25_132, hfh_25_134, hfh_25_136, hfh_25_137, hlh_25, hrh_25, hsp⟩
    rw [if_neg hs_233] at hsp
    by_cases hs_234 : l2_25 = 151
    · rw [if_pos hs_234] at hsp
      refine lv_tableIn (tgt := 1642) hx hb dX13_wanted_27 (by rw [hs_234]; decide) (by rw [hs_234]; decide) (off := 1615) (by rw [hs_234]; rfl) (by decide) ?_
      exact hj_1642 (H, locs, ls, z25, g118_25, g119_25, g127_25, g128_25, g137_25, x117_25, x120_25, x131_25) ⟨lv_sub hl [1] rfl, hS, hD.sub (ws' := [(h0, .inr (13, z25)), (qf100, .inl (cf100, 48000, .inl f100)), (qf128, .inl (cf128, 31, .inl g128_25)), (qf127, .inl (cf127, 30, .inl g127_25)), (qf104, .inl (cf104, 8, .inl f104)), (qf102, .inl (cf102, 2048, .inl f102)), (qf118, .inl (cf118, 2100, .inl g118_25)), (qf119, .inl (cf119, 2100, .inl g119_25)), (qf105, .inl (cf105, 8, .inl f105)), (qf137, .inl (cf137, 6, .inl g137_25))]) [0, 1, 2, 3, 4, 5, 6, 7, 8, 9] (by decide) rfl, hP.sub (ws' := [(h0, .inr (13, z25)), (qf100, .inl (cf100, 48000, .inl f100)), (qf128, .inl (cf128, 31, .inl g128_25)), (qf127, .inl (cf127, 30, .inl g127_25)), (qf104, .inl (cf104, 8, .inl f104)), (qf102, .inl (cf102, 2048, .inl f102)), (qf118, .inl (cf118, 2100, .inl g118_25)), (qf119, .inl (cf119, 2100, .inl g119_25)), (qf105, .inl (cf105, 8, .inl f105)), (qf137, .inl (cf137, 6, .inl g137_25))]) [0, 1, 2, 3, 4, 5, 6, 7, 8, 9] rfl, hfh_25_98, hfh_25_100, hfh_25_102, hfh_25_104, hfh_25_105, hfh_25_117, hfh_25_118, hfh_25_119, hfh_25_120, hfh_25_127, hfh_25_128, hfh_25_129, hfh_25_130, hfh_25_131, hfh_25_132, hfh_25_134, hfh_25_136, hfh_25_137, hlh_25, hrh_25, hsp⟩
    rw [if_neg hs_234] at hsp
    by_cases hs_235 : l2_25 = 152
    · rw [if_pos hs_235] at hsp
      refine lv_tableIn (tgt := 1642) hx hb dX13_wanted_27 (by rw [hs_235]; decide) (by rw [hs_235]; decide) (off := 1615) (by rw [hs_235]; rfl) (by decide) ?_
      exact hj_1642 (H, locs, ls, z25, g118_25, g119_25, g127_25, g128_25, g137_25, x117_25, x120_25, x131_25) ⟨lv_sub hl [1] rfl, hS, hD.sub (ws' := [(h0, .inr (13, z25)), (qf100, .inl (cf100, 48000, .inl f100)), (qf128, .inl (cf128, 31, .inl g128_25)), (qf127, .inl (cf127, 30, .inl g127_25)), (qf104, .inl (cf104, 8, .inl f104)), (qf102, .inl (cf102, 2048, .inl f102)), (qf118, .inl (cf118, 2100, .inl g118_25)), (qf119, .inl (cf119, 2100, .inl g119_25)), (qf105, .inl (cf105, 8, .inl f105)), (qf137, .inl (cf137, 6, .inl g137_25))]) [0, 1, 2, 3, 4, 5, 6, 7, 8, 9] (by decide) rfl, hP.sub (ws' := [(h0, .inr (13, z25)), (qf100, .inl (cf100, 48000, .inl f100)), (qf128, .inl (cf128, 31, .inl g128_25)), (qf127, .inl (cf127, 30, .inl g127_25)), (qf104, .inl (cf104, 8, .inl f104)), (qf102, .inl (cf102, 2048, .inl f102)), (qf118, .inl (cf118, 2100, .inl g118_25)), (qf119, .inl (cf119, 2100, .inl g119_25)), (qf105, .inl (cf105, 8, .inl f105)), (qf137, .inl (cf137, 6, .inl g137_25))]) [0, 1, 2, 3, 4, 5, 6, 7, 8, 9] rfl, hfh_25_98, hfh_25_100, hfh_25_102, hfh_25_104, hfh_25_105, hfh_25_117, hfh_25_118, hfh_25_119, hfh_25_120, hfh_25_127, hfh_25_128, hfh_25_129, hfh_25_130, hfh_25_131, hfh_25_132, hfh_25_134, hfh_25_136, hfh_25_137, hlh_25, hrh_25, hsp⟩
    rw [if_neg hs_235] at hsp
    by_cases hs_236 : l2_25 = 153
    · rw [if_pos hs_236] at hsp
      refine lv_tableIn (tgt := 1227) hx hb dX13_wanted_27 (by rw [hs_236]; decide) (by rw [hs_236]; decide) (off := 1200) (by rw [hs_236]; rfl) (by decide) ?_
      exact hj_1227 (H, locs, ls, z25, g118_25, g119_25, g127_25, g128_25, g137_25, x117_25, x120_25, x131_25) ⟨lv_sub hl [1] rfl, hS, hD.sub (ws' := [(h0, .inr (13, z25)), (qf100, .inl (cf100, 48000, .inl f100)), (qf128, .inl (cf128, 31, .inl g128_25)), (qf127, .inl (cf127, 30, .inl g127_25)), (qf104, .inl (cf104, 8, .inl f104)), (qf102, .inl (cf102, 2048, .inl f102)), (qf118, .inl (cf118, 2100, .inl g118_25)), (qf119, .inl (cf119, 2100, .inl g119_25)), (qf105, .inl (cf105, 8, .inl f105)), (qf137, .inl (cf137, 6, .inl g137_25))]) [0, 1, 2, 3, 4, 5, 6, 7, 8, 9] (by decide) rfl, hP.sub (ws' := [(h0, .inr (13, z25)), (qf100, .inl (cf100, 48000, .inl f100)), (qf128, .inl (cf128, 31, .inl g128_25)), (qf127, .inl (cf127, 30, .inl g127_25)), (qf104, .inl (cf104, 8, .inl f104)), (qf102, .inl (cf102, 2048, .inl f102)), (qf118, .inl (cf118, 2100, .inl g118_25)), (qf119, .inl (cf119, 2100, .inl g119_25)), (qf105, .inl (cf105, 8, .inl f105)), (qf137, .inl (cf137, 6, .inl g137_25))]) [0, 1, 2, 3, 4, 5, 6, 7, 8, 9] rfl, hfh_25_98, hfh_25_100, hfh_25_102, hfh_25_104, hfh_25_105, hfh_25_117, hfh_25_118, hfh_25_119, hfh_25_120, hfh_25_127, hfh_25_128, hfh_25_129, hfh_25_130, hfh_25_131, hfh_25_132, hfh_25_134, hfh_25_136, hfh_25_137, hlh_25, hrh_25, hsp⟩
    rw [if_neg hs_236] at hsp
    by_cases hs_237 : l2_25 = 154
    · rw [if_pos hs_237] at hsp
      refine lv_tableIn (tgt := 1227) hx hb dX13_wanted_27 (by rw [hs_237]; decide) (by rw [hs_237]; decide) (off := 1200) (by rw [hs_237]; rfl) (by decide) ?_
      exact hj_1227 (H, locs, ls, z25, g118_25, g119_25, g127_25, g128_25, g137_25, x117_25, x120_25, x131_25) ⟨lv_sub hl [1] rfl, hS, hD.sub (ws' := [(h0, .inr (13, z25)), (qf100, .inl (cf100, 48000, .inl f100)), (qf128, .inl (cf128, 31, .inl g128_25)), (qf127, .inl (cf127, 30, .inl g127_25)), (qf104, .inl (cf104, 8, .inl f104)), (qf102, .inl (cf102, 2048, .inl f102)), (qf118, .inl (cf118, 2100, .inl g118_25)), (qf119, .inl (cf119, 2100, .inl g119_25)), (qf105, .inl (cf105, 8, .inl f105)), (qf137, .inl (cf137, 6, .inl g137_25))]) [0, 1, 2, 3, 4, 5, 6, 7, 8, 9] (by decide) rfl, hP.sub (ws' := [(h0, .inr (13, z25)), (qf100, .inl (cf100, 48000, .inl f100)), (qf128, .inl (cf128, 31, .inl g128_25)), (qf127, .inl (cf127, 30, .inl g127_25)), (qf104, .inl (cf104, 8, .inl f104)), (qf102, .inl (cf102, 2048, .inl f102)), (qf118, .inl (cf118, 2100, .inl g118_25)), (qf119, .inl (cf119, 2100, .inl g119_25)), (qf105, .inl (cf105, 8, .inl f105)), (qf137, .inl (cf137, 6, .inl g137_25))]) [0, 1, 2, 3, 4, 5, 6, 7, 8, 9] rfl, hfh_25_98, hfh_25_100, hfh_25_102, hfh_25_104, hfh_25_105, hfh_25_117, hfh_25_118, hfh_25_119, hfh_25_120, hfh_25_127, hfh_25_128, hfh_25_129, hfh_25_130, hfh_25_131, hfh_25_132, hfh_25_134, hfh_25_136, hfh_25_137, hlh_25, hrh_25, hsp⟩
    rw [if_neg hs_237] at hsp
    by_cases hs_238 : l2_25 = 155
    · rw [if_pos hs_238] at hsp
      refine lv_tableIn (tgt := 1642) hx hb dX13_wanted_27 (by rw [hs_238]; decide) (by rw [hs_238]; decide) (off := 1615) (by rw [hs_238]; rfl) (by decide) ?_
      exact hj_1642 (H, locs, ls, z25, g118_25, g119_25, g127_25, g128_25, g137_25, x117_25, x120_25, x131_25) ⟨lv_sub hl [1] rfl, hS, hD.sub (ws' := [(h0, .inr (13, z25)), (qf100, .inl (cf100, 48000, .inl f100)), (qf128, .inl (cf128, 31, .inl g128_25)), (qf127, .inl (cf127, 30, .inl g127_25)), (qf104, .inl (cf104, 8, .inl f104)), (qf102, .inl (cf102, 2048, .inl f102)), (qf118, .inl (cf118, 2100, .inl g118_25)), (qf119, .inl (cf119, 2100, .inl g119_25)), (qf105, .inl (cf105, 8, .inl f105)), (qf137, .inl (cf137, 6, .inl g137_25))]) [0, 1, 2, 3, 4, 5, 6, 7, 8, 9] (by decide) rfl, hP.sub (ws' := [(h0, .inr (13, z25)), (qf100, .inl (cf100, 48000, .inl f100)), (qf128, .inl (cf128, 31, .inl g128_25)), (qf127, .inl (cf127, 30, .inl g127_25)), (qf104, .inl (cf104, 8, .inl f104)), (qf102, .inl (cf102, 2048, .inl f102)), (qf118, .inl (cf118, 2100, .inl g118_25)), (qf119, .inl (cf119, 2100, .inl g119_25)), (qf105, .inl (cf105, 8, .inl f105)), (qf137, .inl (cf137, 6, .inl g137_25))]) [0, 1, 2, 3, 4, 5, 6, 7, 8, 9] rfl, hfh_25_98, hfh_25_100, hfh_25_102, hfh_25_104, hfh_25_105, hfh_25_117, hfh_25_118, hfh_25_119, hfh_25_120, hfh_25_127, hfh_25_128, hfh_25_129, hfh_25_130, hfh_25_131, hfh_25_132, hfh_25_134, hfh_25_136, hfh_25_137, hlh_25, hrh_25, hsp⟩
    rw [if_neg hs_238] at hsp
    by_cases hs_239 : l2_25 = 156
    · rw [if_pos hs_239] at hsp
      refine lv_tableIn (tgt := 1642) hx hb dX13_wanted_27 (by rw [hs_239]; decide) (by rw [hs_239]; decide) (off := 1615) (by rw [hs_239]; rfl) (by decide) ?_
      exact hj_1642 (H, locs, ls, z25, g118_25, g119_25, g127_25, g128_25, g137_25, x117_25, x120_25, x131_25) ⟨lv_sub hl [1] rfl, hS, hD.sub (ws' := [(h0, .inr (13, z25)), (qf100, .inl (cf100, 48000, .inl f100)), (qf128, .inl (cf128, 31, .inl g128_25)), (qf127, .inl (cf127, 30, .inl g127_25)), (qf104, .inl (cf104, 8, .inl f104)), (qf102, .inl (cf102, 2048, .inl f102)), (qf118, .inl (cf118, 2100, .inl g118_25)), (qf119, .inl (cf119, 2100, .inl g119_25)), (qf105, .inl (cf105, 8, .inl f105)), (qf137, .inl (cf137, 6, .inl g137_25))]) [0, 1, 2, 3, 4, 5, 6, 7, 8, 9] (by decide) rfl, hP.sub (ws' := [(h0, .inr (13, z25)), (qf100, .inl (cf100, 48000, .inl f100)), (qf128, .inl (cf128, 31, .inl g128_25)), (qf127, .inl (cf127, 30, .inl g127_25)), (qf104, .inl (cf104, 8, .inl f104)), (qf102, .inl (cf102, 2048, .inl f102)), (qf118, .inl (cf118, 2100, .inl g118_25)), (qf119, .inl (cf119, 2100, .inl g119_25)), (qf105, .inl (cf105, 8, .inl f105)), (qf137, .inl (cf137, 6, .inl g137_25))]) [0, 1, 2, 3, 4, 5, 6, 7, 8, 9] rfl, hfh_25_98, hfh_25_100, hfh_25_102, hfh_25_104, hfh_25_105, hfh_25_117, hfh_25_118, hfh_25_119, hfh_25_120, hfh_25_127, hfh_25_128, hfh_25_129, hfh_25_130, hfh_25_131, hfh_25_132, hfh_25_134, hfh_25_136, hfh_25_137, hlh_25, hrh_25, hsp⟩
    rw [if_neg hs_239] at hsp
    by_cases hs_240 : l2_25 = 157
    · rw [if_pos hs_240] at hsp
      refine lv_tableIn (tgt := 1642) hx hb dX13_wanted_27 (by rw [hs_240]; decide) (by rw [hs_240]; decide) (off := 1615) (by rw [hs_240]; rfl) (by decide) ?_
      exact hj_1642 (H, locs, ls, z25, g118_25, g119_25, g127_25, g128_25, g137_25, x117_25, x120_25, x131_25) ⟨lv_sub hl [1] rfl, hS, hD.sub (ws' := [(h0, .inr (13, z25)), (qf100, .inl (cf100, 48000, .inl f100)), (qf128, .inl (cf128, 31, .inl g128_25)), (qf127, .inl (cf127, 30, .inl g127_25)), (qf104, .inl (cf104, 8, .inl f104)), (qf102, .inl (cf102, 2048, .inl f102)), (qf118, .inl (cf118, 2100, .inl g118_25)), (qf119, .inl (cf119, 2100, .inl g119_25)), (qf105, .inl (cf105, 8, .inl f105)), (qf137, .inl (cf137, 6, .inl g137_25))]) [0, 1, 2, 3, 4, 5, 6, 7, 8, 9] (by decide) rfl, hP.sub (ws' := [(h0, .inr (13, z25)), (qf100, .inl (cf100, 48000, .inl f100)), (qf128, .inl (cf128, 31, .inl g128_25)), (qf127, .inl (cf127, 30, .inl g127_25)), (qf104, .inl (cf104, 8, .inl f104)), (qf102, .inl (cf102, 2048, .inl f102)), (qf118, .inl (cf118, 2100, .inl g118_25)), (qf119, .inl (cf119, 2100, .inl g119_25)), (qf105, .inl (cf105, 8, .inl f105)), (qf137, .inl (cf137, 6, .inl g137_25))]) [0, 1, 2, 3, 4, 5, 6, 7, 8, 9] rfl, hfh_25_98, hfh_25_100, hfh_25_102, hfh_25_104, hfh_25_105, hfh_25_117, hfh_25_118, hfh_25_119, hfh_25_120, hfh_25_127, hfh_25_128, hfh_25_129, hfh_25_130, hfh_25_131, hfh_25_132, hfh_25_134, hfh_25_136, hfh_25_137, hlh_25, hrh_25, hsp⟩
    rw [if_neg hs_240] at hsp
    by_cases hs_241 : l2_25 = 158
    · rw [if_pos hs_241] at hsp
      refine lv_tableIn (tgt := 1642) hx hb dX13_wanted_27 (by rw [hs_241]; decide) (by rw [hs_241]; decide) (off := 1615) (by rw [hs_241]; rfl) (by decide) ?_
      exact hj_1642 (H, locs, ls, z25, g118_25, g119_25, g127_25, g128_25, g137_25, x117_25, x120_25, x131_25) ⟨lv_sub hl [1] rfl, hS, hD.sub (ws' := [(h0, .inr (13, z25)), (qf100, .inl (cf100, 48000, .inl f100)), (qf128, .inl (cf128, 31, .inl g128_25)), (qf127, .inl (cf127, 30, .inl g127_25)), (qf104, .inl (cf104, 8, .inl f104)), (qf102, .inl (cf102, 2048, .inl f102)), (qf118, .inl (cf118, 2100, .inl g118_25)), (qf119, .inl (cf119, 2100, .inl g119_25)), (qf105, .inl (cf105, 8, .inl f105)), (qf137, .inl (cf137, 6, .inl g137_25))]) [0, 1, 2, 3, 4, 5, 6, 7, 8, 9] (by decide) rfl, hP.sub (ws' := [(h0, .inr (13, z25)), (qf100, .inl (cf100, 48000, .inl f100)), (qf128, .inl (cf128, 31, .inl g128_25)), (qf127, .inl (cf127, 30, .inl g127_25)), (qf104, .inl (cf104, 8, .inl f104)), (qf102, .inl (cf102, 2048, .inl f102)), (qf118, .inl (cf118, 2100, .inl g118_25)), (qf119, .inl (cf119, 2100, .inl g119_25)), (qf105, .inl (cf105, 8, .inl f105)), (qf137, .inl (cf137, 6, .inl g137_25))]) [0, 1, 2, 3, 4, 5, 6, 7, 8, 9] rfl, hfh_25_98, hfh_25_100, hfh_25_102, hfh_25_104, hfh_25_105, hfh_25_117, hfh_25_118, hfh_25_119, hfh_25_120, hfh_25_127, hfh_25_128, hfh_25_129, hfh_25_130, hfh_25_131, hfh_25_132, hfh_25_134, hfh_25_136, hfh_25_137, hlh_25, hrh_25, hsp⟩
    rw [if_neg hs_241] at hsp
    by_cases hs_242 : l2_25 = 159
    · rw [if_pos hs_242] at hsp
      refine lv_tableIn (tgt := 1233) hx hb dX13_wanted_27 (by rw [hs_242]; decide) (by rw [hs_242]; decide) (off := 1206) (by rw [hs_242]; rfl) (by decide) ?_
      exact hj_1233 (H, locs, ls, z25, g118_25, g119_25, g127_25, g128_25, g137_25, x117_25, x120_25, x131_25) ⟨lv_sub hl [1] rfl, hS, hD.sub (ws' := [(h0, .inr (13, z25)), (qf100, .inl (cf100, 48000, .inl f100)), (qf128, .inl (cf128, 31, .inl g128_25)), (qf127, .inl (cf127, 30, .inl g127_25)), (qf104, .inl (cf104, 8, .inl f104)), (qf102, .inl (cf102, 2048, .inl f102)), (qf118, .inl (cf118, 2100, .inl g118_25)), (qf119, .inl (cf119, 2100, .inl g119_25)), (qf105, .inl (cf105, 8, .inl f105)), (qf137, .inl (cf137, 6, .inl g137_25))]) [0, 1, 2, 3, 4, 5, 6, 7, 8, 9] (by decide) rfl, hP.sub (ws' := [(h0, .inr (13, z25)), (qf100, .inl (cf100, 48000, .inl f100)), (qf128, .inl (cf128, 31, .inl g128_25)), (qf127, .inl (cf127, 30, .inl g127_25)), (qf104, .inl (cf104, 8, .inl f104)), (qf102, .inl (cf102, 2048, .inl f102)), (qf118, .inl (cf118, 2100, .inl g118_25)), (qf119, .inl (cf119, 2100, .inl g119_25)), (qf105, .inl (cf105, 8, .inl f105)), (qf137, .inl (cf137, 6, .inl g137_25))]) [0, 1, 2, 3, 4, 5, 6, 7, 8, 9] rfl, hfh_25_98, hfh_25_100, hfh_25_102, hfh_25_104, hfh_25_105, hfh_25_117, hfh_25_118, hfh_25_119, hfh_25_120, hfh_25_127, hfh_25_128, hfh_25_129, hfh_25_130, hfh_25_131, hfh_25_132, hfh_25_134, hfh_25_136, hfh_25_137, hlh_25, hrh_25, hsp⟩
    rw [if_neg hs_242] at hsp
    by_cases hs_243 : l2_25 = 160
    · rw [if_pos hs_243] at hsp
      refine lv_tableIn (tgt := 1233) hx hb dX13_wanted_27 (by rw [hs_243]; decide) (by rw [hs_243]; decide) (off := 1206) (by rw [hs_243]; rfl) (by decide) ?_
      exact hj_1233 (H, locs, ls, z25, g118_25, g119_25, g127_25, g128_25, g137_25, x117_25, x120_25, x131_25) ⟨lv_sub hl [1] rfl, hS, hD.sub (ws' := [(h0, .inr (13, z25)), (qf100, .inl (cf100, 48000, .inl f100)), (qf128, .inl (cf128, 31, .inl g128_25)), (qf127, .inl (cf127, 30, .inl g127_25)), (qf104, .inl (cf104, 8, .inl f104)), (qf102, .inl (cf102, 2048, .inl f102)), (qf118, .inl (cf118, 2100, .inl g118_25)), (qf119, .inl (cf119, 2100, .inl g119_25)), (qf105, .inl (cf105, 8, .inl f105)), (qf137, .inl (cf137, 6, .inl g137_25))]) [0, 1, 2, 3, 4, 5, 6, 7, 8, 9] (by decide) rfl, hP.sub (ws' := [(h0, .inr (13, z25)), (qf100, .inl (cf100, 48000, .inl f100)), (qf128, .inl (cf128, 31, .inl g128_25)), (qf127, .inl (cf127, 30, .inl g127_25)), (qf104, .inl (cf104, 8, .inl f104)), (qf102, .inl (cf102, 2048, .inl f102)), (qf118, .inl (cf118, 2100, .inl g118_25)), (qf119, .inl (cf119, 2100, .inl g119_25)), (qf105, .inl (cf105, 8, .inl f105)), (qf137, .inl (cf137, 6, .inl g137_25))]) [0, 1, 2, 3, 4, 5, 6, 7, 8, 9] rfl, hfh_25_98, hfh_25_100, hfh_25_102, hfh_25_104, hfh_25_105, hfh_25_117, hfh_25_118, hfh_25_119, hfh_25_120, hfh_25_127, hfh_25_128, hfh_25_129, hfh_25_130, hfh_25_131, hfh_25_132, hfh_25_134, hfh_25_136, hfh_25_137, hlh_25, hrh_25, hsp⟩
    rw [if_neg hs_243] at hsp
    by_cases hs_244 : l2_25 = 161
    · rw [if_pos hs_244] at hsp
      refine lv_tableIn (tgt := 1233) hx hb dX13_wanted_27 (by rw [hs_244]; decide) (by rw [hs_244]; decide) (off := 1206) (by rw [hs_244]; rfl) (by decide) ?_
      exact hj_1233 (H, locs, ls, z25, g118_25, g119_25, g127_25, g128_25, g137_25, x117_25, x120_25, x131_25) ⟨lv_sub hl [1] rfl, hS, hD.sub (ws' := [(h0, .inr (13, z25)), (qf100, .inl (cf100, 48000, .inl f100)), (qf128, .inl (cf128, 31, .inl g128_25)), (qf127, .inl (cf127, 30, .inl g127_25)), (qf104, .inl (cf104, 8, .inl f104)), (qf102, .inl (cf102, 2048, .inl f102)), (qf118, .inl (cf118, 2100, .inl g118_25)), (qf119, .inl (cf119, 2100, .inl g119_25)), (qf105, .inl (cf105, 8, .inl f105)), (qf137, .inl (cf137, 6, .inl g137_25))]) [0, 1, 2, 3, 4, 5, 6, 7, 8, 9] (by decide) rfl, hP.sub (ws' := [(h0, .inr (13, z25)), (qf100, .inl (cf100, 48000, .inl f100)), (qf128, .inl (cf128, 31, .inl g128_25)), (qf127, .inl (cf127, 30, .inl g127_25)), (qf104, .inl (cf104, 8, .inl f104)), (qf102, .inl (cf102, 2048, .inl f102)), (qf118, .inl (cf118, 2100, .inl g118_25)), (qf119, .inl (cf119, 2100, .inl g119_25)), (qf105, .inl (cf105, 8, .inl f105)), (qf137, .inl (cf137, 6, .inl g137_25))]) [0, 1, 2, 3, 4, 5, 6, 7, 8, 9] rfl, hfh_25_98, hfh_25_100, hfh_25_102, hfh_25_104, hfh_25_105, hfh_25_117, hfh_25_118, hfh_25_119, hfh_25_120, hfh_25_127, hfh_25_128, hfh_25_129, hfh_25_130, hfh_25_131, hfh_25_132, hfh_25_134, hfh_25_136, hfh_25_137, hlh_25, hrh_25, hsp⟩
    rw [if_neg hs_244] at hsp
    by_cases hs_245 : l2_25 = 162
    · rw [if_pos hs_245] at hsp
      refine lv_tableIn (tgt := 1233) hx hb dX13_wanted_27 (by rw [hs_245]; decide) (by rw [hs_245]; decide) (off := 1206) (by rw [hs_245]; rfl) (by decide) ?_
      exact hj_1233 (H, locs, ls, z25, g118_25, g119_25, g127_25, g128_25, g137_25, x117_25, x120_25, x131_25) ⟨lv_sub hl [1] rfl, hS, hD.sub (ws' := [(h0, .inr (13, z25)), (qf100, .inl (cf100, 48000, .inl f100)), (qf128, .inl (cf128, 31, .inl g128_25)), (qf127, .inl (cf127, 30, .inl g127_25)), (qf104, .inl (cf104, 8, .inl f104)), (qf102, .inl (cf102, 2048, .inl f102)), (qf118, .inl (cf118, 2100, .inl g118_25)), (qf119, .inl (cf119, 2100, .inl g119_25)), (qf105, .inl (cf105, 8, .inl f105)), (qf137, .inl (cf137, 6, .inl g137_25))]) [0, 1, 2, 3, 4, 5, 6, 7, 8, 9] (by decide) rfl, hP.sub (ws' := [(h0, .inr (13, z25)), (qf100, .inl (cf100, 48000, .inl f100)), (qf128, .inl (cf128, 31, .inl g128_25)), (qf127, .inl (cf127, 30, .inl g127_25)), (qf104, .inl (cf104, 8, .inl f104)), (qf102, .inl (cf102, 2048, .inl f102)), (qf118, .inl (cf118, 2100, .inl g118_25)), (qf119, .inl (cf119, 2100, .inl g119_25)), (qf105, .inl (cf105, 8, .inl f105)), (qf137, .inl (cf137, 6, .inl g137_25))]) [0, 1, 2, 3, 4, 5, 6, 7, 8, 9] rfl, hfh_25_98, hfh_25_100, hfh_25_102, hfh_25_104, hfh_25_105, hfh_25_117, hfh_25_118, hfh_25_119, hfh_25_120, hfh_25_127, hfh_25_128, hfh_25_129, hfh_25_130, hfh_25_131, hfh_25_132, hfh_25_134, hfh_25_136, hfh_25_137, hlh_25, hrh_25, hsp⟩
    rw [if_neg hs_245] at hsp
    by_cases hs_246 : l2_25 = 163
    · rw [if_pos hs_246] at hsp
      refine lv_tableIn (tgt := 1233) hx hb dX13_wanted_27 (by rw [hs_246]; decide) (by rw [hs_246]; decide) (off := 1206) (by rw [hs_246]; rfl) (by decide) ?_
      exact hj_1233 (H, locs, ls, z25, g118_25, g119_25, g127_25, g128_25, g137_25, x117_25, x120_25, x131_25) ⟨lv_sub hl [1] rfl, hS, hD.sub (ws' := [(h0, .inr (13, z25)), (qf100, .inl (cf100, 48000, .inl f100)), (qf128, .inl (cf128, 31, .inl g128_25)), (qf127, .inl (cf127, 30, .inl g127_25)), (qf104, .inl (cf104, 8, .inl f104)), (qf102, .inl (cf102, 2048, .inl f102)), (qf118, .inl (cf118, 2100, .inl g118_25)), (qf119, .inl (cf119, 2100, .inl g119_25)), (qf105, .inl (cf105, 8, .inl f105)), (qf137, .inl (cf137, 6, .inl g137_25))]) [0, 1, 2, 3, 4, 5, 6, 7, 8, 9] (by decide) rfl, hP.sub (ws' := [(h0, .inr (13, z25)), (qf100, .inl (cf100, 48000, .inl f100)), (qf128, .inl (cf128, 31, .inl g128_25)), (qf127, .inl (cf127, 30, .inl g127_25)), (qf104, .inl (cf104, 8, .inl f104)), (qf102, .inl (cf102, 2048, .inl f102)), (qf118, .inl (cf118, 2100, .inl g118_25)), (qf119, .inl (cf119, 2100, .inl g119_25)), (qf105, .inl (cf105, 8, .inl f105)), (qf137, .inl (cf137, 6, .inl g137_25))]) [0, 1, 2, 3, 4, 5, 6, 7, 8, 9] rfl, hfh_25_98, hfh_25_100, hfh_25_102, hfh_25_104, hfh_25_105, hfh_25_117, hfh_25_118, hfh_25_119, hfh_25_120, hfh_25_127, hfh_25_128, hfh_25_129, hfh_25_130, hfh_25_131, hfh_25_132, hfh_25_134, hfh_25_136, hfh_25_137, hlh_25, hrh_25, hsp⟩
    rw [if_neg hs_246] at hsp
    by_cases hs_247 : l2_25 = 164
    · rw [if_pos hs_247] at hsp
      refine lv_tableIn (tgt := 1233) hx hb dX13_wanted_27 (by rw [hs_247]; decide) (by rw [hs_247]; decide) (off := 1206) (by rw [hs_247]; rfl) (by decide) ?_
      exact hj_1233 (H, locs, ls, z25, g118_25, g119_25, g127_25, g128_25, g137_25, x117_25, x120_25, x131_25) ⟨lv_sub hl [1] rfl, hS, hD.sub (ws' := [(h0, .inr (13, z25)), (qf100, .inl (cf100, 48000, .inl f100)), (qf128, .inl (cf128, 31, .inl g128_25)), (qf127, .inl (cf127, 30, .inl g127_25)), (qf104, .inl (cf104, 8, .inl f104)), (qf102, .inl (cf102, 2048, .inl f102)), (qf118, .inl (cf118, 2100, .inl g118_25)), (qf119, .inl (cf119, 2100, .inl g119_25)), (qf105, .inl (cf105, 8, .inl f105)), (qf137, .inl (cf137, 6, .inl g137_25))]) [0, 1, 2, 3, 4, 5, 6, 7, 8, 9] (by decide) rfl, hP.sub (ws' := [(h0, .inr (13, z25)), (qf100, .inl (cf100, 48000, .inl f100)), (qf128, .inl (cf128, 31, .inl g128_25)), (qf127, .inl (cf127, 30, .inl g127_25)), (qf104, .inl (cf104, 8, .inl f104)), (qf102, .inl (cf102, 2048, .inl f102)), (qf118, .inl (cf118, 2100, .inl g118_25)), (qf119, .inl (cf119, 2100, .inl g119_25)), (qf105, .inl (cf105, 8, .inl f105)), (qf137, .inl (cf137, 6, .inl g137_25))]) [0, 1, 2, 3, 4, 5, 6, 7, 8, 9] rfl, hfh_25_98, hfh_25_100, hfh_25_102, hfh_25_104, hfh_25_105, hfh_25_117, hfh_25_118, hfh_25_119, hfh_25_120, hfh_25_127, hfh_25_128, hfh_25_129, hfh_25_130, hfh_25_131, hfh_25_132, hfh_25_134, hfh_25_136, hfh_25_137, hlh_25, hrh_25, hsp⟩
    rw [if_neg hs_247] at hsp
    by_cases hs_248 : l2_25 = 165
    · rw [if_pos hs_248] at hsp
      refine lv_tableIn (tgt := 1239) hx hb dX13_wanted_27 (by rw [hs_248]; decide) (by rw [hs_248]; decide) (off := 1212) (by rw [hs_248]; rfl) (by decide) ?_
      exact hj_1239 (H, locs, ls, z25, g118_25, g119_25, g127_25, g128_25, g137_25, x117_25, x120_25, x131_25) ⟨lv_sub hl [1] rfl, hS, hD.sub (ws' := [(h0, .inr (13, z25)), (qf100, .inl (cf100, 48000, .inl f100)), (qf128, .inl (cf128, 31, .inl g128_25)), (qf127, .inl (cf127, 30, .inl g127_25)), (qf104, .inl (cf104, 8, .inl f104)), (qf102, .inl (cf102, 2048, .inl f102)), (qf118, .inl (cf118, 2100, .inl g118_25)), (qf119, .inl (cf119, 2100, .inl g119_25)), (qf105, .inl (cf105, 8, .inl f105)), (qf137, .inl (cf137, 6, .inl g137_25))]) [0, 1, 2, 3, 4, 5, 6, 7, 8, 9] (by decide) rfl, hP.sub (ws' := [(h0, .inr (13, z25)), (qf100, .inl (cf100, 48000, .inl f100)), (qf128, .inl (cf128, 31, .inl g128_25)), (qf127, .inl (cf127, 30, .inl g127_25)), (qf104, .inl (cf104, 8, .inl f104)), (qf102, .inl (cf102, 2048, .inl f102)), (qf118, .inl (cf118, 2100, .inl g118_25)), (qf119, .inl (cf119, 2100, .inl g119_25)), (qf105, .inl (cf105, 8, .inl f105)), (qf137, .inl (cf137, 6, .inl g137_25))]) [0, 1, 2, 3, 4, 5, 6, 7, 8, 9] rfl, hfh_25_98, hfh_25_100, hfh_25_102, hfh_25_104, hfh_25_105, hfh_25_117, hfh_25_118, hfh_25_119, hfh_25_120, hfh_25_127, hfh_25_128, hfh_25_129, hfh_25_130, hfh_25_131, hfh_25_132, hfh_25_134, hfh_25_136, hfh_25_137, hlh_25, hrh_25, hsp⟩
    rw [if_neg hs_248] at hsp
    by_cases hs_249 : l2_25 = 166
    · rw [if_pos hs_249] at hsp
      refine lv_tableIn (tgt := 1239) hx hb dX13_wanted_27 (by rw [hs_249]; decide) (by rw [hs_249]; decide) (off := 1212) (by rw [hs_249]; rfl) (by decide) ?_
      exact hj_1239 (H, locs, ls, z25, g118_25, g119_25, g127_25, g128_25, g137_25, x117_25, x120_25, x131_25) ⟨lv_sub hl [1] rfl, hS, hD.sub (ws' := [(h0, .inr (13, z25)), (qf100, .inl (cf100, 48000, .inl f100)), (qf128, .inl (cf128, 31, .inl g128_25)), (qf127, .inl (cf127, 30, .inl g127_25)), (qf104, .inl (cf104, 8, .inl f104)), (qf102, .inl (cf102, 2048, .inl f102)), (qf118, .inl (cf118, 2100, .inl g118_25)), (qf119, .inl (cf119, 2100, .inl g119_25)), (qf105, .inl (cf105, 8, .inl f105)), (qf137, .inl (cf137, 6, .inl g137_25))]) [0, 1, 2, 3, 4, 5, 6, 7, 8, 9] (by decide) rfl, hP.sub (ws' := [(h0, .inr (13, z25)), (qf100, .inl (cf100, 48000, .inl f100)), (qf128, .inl (cf128, 31, .inl g128_25)), (qf127, .inl (cf127, 30, .inl g127_25)), (qf104, .inl (cf104, 8, .inl f104)), (qf102, .inl (cf102, 2048, .inl f102)), (qf118, .inl (cf118, 2100, .inl g118_25)), (qf119, .inl (cf119, 2100, .inl g119_25)), (qf105, .inl (cf105, 8, .inl f105)), (qf137, .inl (cf137, 6, .inl g137_25))]) [0, 1, 2, 3, 4, 5, 6, 7, 8, 9] rfl, hfh_25_98, hfh_25_100, hfh_25_102, hfh_25_104, hfh_25_105, hfh_25_117, hfh_25_118, hfh_25_119, hfh_25_120, hfh_25_127, hfh_25_128, hfh_25_129, hfh_25_130, hfh_25_131, hfh_25_132, hfh_25_134, hfh_25_136, hfh_25_137, hlh_25, hrh_25, hsp⟩
    rw [if_neg hs_249] at hsp
    by_cases hs_250 : l2_25 = 167
    · rw [if_pos hs_250] at hsp
      refine lv_tableIn (tgt := 812) hx hb dX13_wanted_27 (by rw [hs_250]; decide) (by rw [hs_250]; decide) (off := 785) (by rw [hs_250]; rfl) (by decide) ?_
      exact hj_812 (H, locs, ls, z25, g118_25, g119_25, g127_25, g128_25, g137_25, x117_25, x120_25, x131_25) ⟨lv_sub hl [] rfl, hS, hD.sub (ws' := [(h0, .inr (13, z25)), (qf100, .inl (cf100, 48000, .inl f100)), (qf128, .inl (cf128, 31, .inl g128_25)), (qf127, .inl (cf127, 30, .inl g127_25)), (qf104, .inl (cf104, 8, .inl f104)), (qf102, .inl (cf102, 2048, .inl f102)), (qf118, .inl (cf118, 2100, .inl g118_25)), (qf119, .inl (cf119, 2100, .inl g119_25)), (qf105, .inl (cf105, 8, .inl f105)), (qf137, .inl (cf137, 6, .inl g137_25))]) [0, 1, 2, 3, 4, 5, 6, 7, 8, 9] (by decide) rfl, hP.sub (ws' := [(h0, .inr (13, z25)), (qf100, .inl (cf100, 48000, .inl f100)), (qf128, .inl (cf128, 31, .inl g128_25)), (qf127, .inl (cf127, 30, .inl g127_25)), (qf104, .inl (cf104, 8, .inl f104)), (qf102, .inl (cf102, 2048, .inl f102)), (qf118, .inl (cf118, 2100, .inl g118_25)), (qf119, .inl (cf119, 2100, .inl g119_25)), (qf105, .inl (cf105, 8, .inl f105)), (qf137, .inl (cf137, 6, .inl g137_25))]) [0, 1, 2, 3, 4, 5, 6, 7, 8, 9] rfl, hfh_25_98, hfh_25_100, hfh_25_102, hfh_25_104, hfh_25_105, hfh_25_117, hfh_25_118, hfh_25_119, hfh_25_120, hfh_25_127, hfh_25_128, hfh_25_129, hfh_25_130, hfh_25_131, hfh_25_132, hfh_25_134, hfh_25_136, hfh_25_137, hlh_25, hrh_25, hsp⟩
    rw [if_neg hs_250] at hsp
    by_cases hs_251 : l2_25 = 168
    · rw [if_pos hs_251] at hsp
      refine lv_tableIn (tgt := 1642) hx hb dX13_wanted_27 (by rw [hs_251]; decide) (by rw [hs_251]; decide) (off := 1615) (by rw [hs_251]; rfl) (by decide) ?_
      exact hj_1642 (H, locs, ls, z25, g118_25, g119_25, g127_25, g128_25, g137_25, x117_25, x120_25, x131_25) ⟨lv_sub hl [1] rfl, hS, hD.sub (ws' := [(h0, .inr (13, z25)), (qf100, .inl (cf100, 48000, .inl f100)), (qf128, .inl (cf128, 31, .inl g128_25)), (qf127, .inl (cf127, 30, .inl g127_25)), (qf104, .inl (cf104, 8, .inl f104)), (qf102, .inl (cf102, 2048, .inl f102)), (qf118, .inl (cf118, 2100, .inl g118_25)), (qf119, .inl (cf119, 2100, .inl g119_25)), (qf105, .inl (cf105, 8, .inl f105)), (qf137, .inl (cf137, 6, .inl g137_25))]) [0, 1, 2, 3, 4, 5, 6, 7, 8, 9] (by decide) rfl, hP.sub (ws' := [(h0, .inr (13, z25)), (qf100, .inl (cf100, 48000, .inl f100)), (qf128, .inl (cf128, 31, .inl g128_25)), (qf127, .inl (cf127, 30, .inl g127_25)), (qf104, .inl (cf104, 8, .inl f104)), (qf102, .inl (cf102, 2048, .inl f102)), (qf118, .inl (cf118, 2100, .inl g118_25)), (qf119, .inl (cf119, 2100, .inl g119_25)), (qf105, .inl (cf105, 8, .inl f105)), (qf137, .inl (cf137, 6, .inl g137_25))]) [0, 1, 2, 3, 4, 5, 6, 7, 8, 9] rfl, hfh_25_98, hfh_25_100, hfh_25_102, hfh_25_104, hfh_25_105, hfh_25_117, hfh_25_118, hfh_25_119, hfh_25_120, hfh_25_127, hfh_25_128, hfh_25_129, hfh_25_130, hfh_25_131, hfh_25_132, hfh_25_134, hfh_25_136, hfh_25_137, hlh_25, hrh_25, hsp⟩
    rw [if_neg hs_251] at hsp
    by_cases hs_252 : l2_25 = 169
    · rw [if_pos hs_252] at hsp
      refine lv_tableIn (tgt := 1642) hx hb dX13_wanted_27 (by rw [hs_252]; decide) (by rw [hs_252]; decide) (off := 1615) (by rw [hs_252]; rfl) (by decide) ?_
      exact hj_1642 (H, locs, ls, z25, g118_25, g119_25, g127_25, g128_25, g137_25, x117_25, x120_25, x131_25) ⟨lv_sub hl [1] rfl, hS, hD.sub (ws' := [(h0, .inr (13, z25)), (qf100, .inl (cf100, 48000, .inl f100)), (qf128, .inl (cf128, 31, .inl g128_25)), (qf127, .inl (cf127, 30, .inl g127_25)), (qf104, .inl (cf104, 8, .inl f104)), (qf102, .inl (cf102, 2048, .inl f102)), (qf118, .inl (cf118, 2100, .inl g118_25)), (qf119, .inl (cf119, 2100, .inl g119_25)), (qf105, .inl (cf105, 8, .inl f105)), (qf137, .inl (cf137, 6, .inl g137_25))]) [0, 1, 2, 3, 4, 5, 6, 7, 8, 9] (by decide) rfl, hP.sub (ws' := [(h0, .inr (13, z25)), (qf100, .inl (cf100, 48000, .inl f100)), (qf128, .inl (cf128, 31, .inl g128_25)), (qf127, .inl (cf127, 30, .inl g127_25)), (qf104, .inl (cf104, 8, .inl f104)), (qf102, .inl (cf102, 2048, .inl f102)), (qf118, .inl (cf118, 2100, .inl g118_25)), (qf119, .inl (cf119, 2100, .inl g119_25)), (qf105, .inl (cf105, 8, .inl f105)), (qf137, .inl (cf137, 6, .inl g137_25))]) [0, 1, 2, 3, 4, 5, 6, 7, 8, 9] rfl, hfh_25_98, hfh_25_100, hfh_25_102, hfh_25_104, hfh_25_105, hfh_25_117, hfh_25_118, hfh_25_119, hfh_25_120, hfh_25_127, hfh_25_128, hfh_25_129, hfh_25_130, hfh_25_131, hfh_25_132, hfh_25_134, hfh_25_136, hfh_25_137, hlh_25, hrh_25, hsp⟩
    rw [if_neg hs_252] at hsp
    by_cases hs_253 : l2_25 = 170
    · rw [if_pos hs_253] at hsp
      refine lv_tableIn (tgt := 1642) hx hb dX13_wanted_27 (by rw [hs_253]; decide) (by rw [hs_253]; decide) (off := 1615) (by rw [hs_253]; rfl) (by decide) ?_
      exact hj_1642 (H, locs, ls, z25, g118_25, g119_25, g127_25, g128_25, g137_25, x117_25, x120_25, x131_25) ⟨lv_sub hl [1] rfl, hS, hD.sub (ws' := [(h0, .inr (13, z25)), (qf100, .inl (cf100, 48000, .inl f100)), (qf128, .inl (cf128, 31, .inl g128_25)), (qf127, .inl (cf127, 30, .inl g127_25)), (qf104, .inl (cf104, 8, .inl f104)), (qf102, .inl (cf102, 2048, .inl f102)), (qf118, .inl (cf118, 2100, .inl g118_25)), (qf119, .inl (cf119, 2100, .inl g119_25)), (qf105, .inl (cf105, 8, .inl f105)), (qf137, .inl (cf137, 6, .inl g137_25))]) [0, 1, 2, 3, 4, 5, 6, 7, 8, 9] (by decide) rfl, hP.sub (ws' := [(h0, .inr (13, z25)), (qf100, .inl (cf100, 48000, .inl f100)), (qf128, .inl (cf128, 31, .inl g128_25)), (qf127, .inl (cf127, 30, .inl g127_25)), (qf104, .inl (cf104, 8, .inl f104)), (qf102, .inl (cf102, 2048, .inl f102)), (qf118, .inl (cf118, 2100, .inl g118_25)), (qf119, .inl (cf119, 2100, .inl g119_25)), (qf105, .inl (cf105, 8, .inl f105)), (qf137, .inl (cf137, 6, .inl g137_25))]) [0, 1, 2, 3, 4, 5, 6, 7, 8, 9] rfl, hfh_25_98, hfh_25_100, hfh_25_102, hfh_25_104, hfh_25_105, hfh_25_117, hfh_25_118, hfh_25_119, hfh_25_120, hfh_25_127, hfh_25_128, hfh_25_129, hfh_25_130, hfh_25_131, hfh_25_132, hfh_25_134, hfh_25_136, hfh_25_137, hlh_25, hrh_25, hsp⟩
    rw [if_neg hs_253] at hsp
    by_cases hs_254 : l2_25 = 171
    · rw [if_pos hs_254] at hsp
      refine lv_tableIn (tgt := 1642) hx hb dX13_wanted_27 (by rw [hs_254]; decide) (by rw [hs_254]; decide) (off := 1615) (by rw [hs_254]; rfl) (by decide) ?_
      exact hj_1642 (H, locs, ls, z25, g118_25, g119_25, g127_25, g128_25, g137_25, x117_25, x120_25, x131_25) ⟨lv_sub hl [1] rfl, hS, hD.sub (ws' := [(h0, .inr (13, z25)), (qf100, .inl (cf100, 48000, .inl f100)), (qf128, .inl (cf128, 31, .inl g128_25)), (qf127, .inl (cf127, 30, .inl g127_25)), (qf104, .inl (cf104, 8, .inl f104)), (qf102, .inl (cf102, 2048, .inl f102)), (qf118, .inl (cf118, 2100, .inl g118_25)), (qf119, .inl (cf119, 2100, .inl g119_25)), (qf105, .inl (cf105, 8, .inl f105)), (qf137, .inl (cf137, 6, .inl g137_25))]) [0, 1, 2, 3, 4, 5, 6, 7, 8, 9] (by decide) rfl, hP.sub (ws' := [(h0, .inr (13, z25)), (qf100, .inl (cf100, 48000, .inl f100)), (qf128, .inl (cf128, 31, .inl g128_25)), (qf127, .inl (cf127, 30, .inl g127_25)), (qf104, .inl (cf104, 8, .inl f104)), (qf102, .inl (cf102, 2048, .inl f102)), (qf118, .inl (cf118, 2100, .inl g118_25)), (qf119, .inl (cf119, 2100, .inl g119_25)), (qf105, .inl (cf105, 8, .inl f105)), (qf137, .inl (cf137, 6, .inl g137_25))]) [0, 1, 2, 3, 4, 5, 6, 7, 8, 9] rfl, hfh_25_98, hfh_25_100, hfh_25_102, hfh_25_104, hfh_25_105, hfh_25_117, hfh_25_118, hfh_25_119, hfh_25_120, hfh_25_127, hfh_25_128, hfh_25_129, hfh_25_130, hfh_25_131, hfh_25_132, hfh_25_134, hfh_25_136, hfh_25_137, hlh_25, hrh_25, hsp⟩
    rw [if_neg hs_254] at hsp
    by_cases hs_255 : l2_25 = 172
    · rw [if_pos hs_255] at hsp
      refine lv_tableIn (tgt := 1259) hx hb dX13_wanted_27 (by rw [hs_255]; decide) (by rw [hs_255]; decide) (off := 1232) (by rw [hs_255]; rfl) (by decide) ?_
      refine lv_aload_n hx hb dX13_wanted_1259 rfl (lv_at hl 1 rfl) ?_
      refine va_get (D := (dC, dI)) (ci := 13) (v := .ref qf100) (C := RX13) (T := TX13) (N := 155) hx hb hts uV_h9_X13 hown hK hP 0 rfl rfl 100 (by decide) (hts (.fieldLink RX13 209 "ClassMillModel" "bytes" "[I") mw_h9_266) (fun _ h9 => h9) hfh_25_100 dX13_wanted_1260 ?_
      refine lv_aload_n hx hb dX13_wanted_1263 rfl (lv_at hl 1 rfl) ?_
      refine va_get (D := (dC, dI)) (ci := 13) (v := .int v136) (C := RX13) (T := TX13) (N := 155) hx hb hts uV_h9_X13 hown hK hP 0 rfl rfl 136 (by decide) (hts (.fieldLink RX13 998 "ClassMillModel" "resultAt" "I") mw_h9_615) (fun _ h9 => h9) hfh_25_136 dX13_wanted_1264 ?_
      obtain ⟨hi_256, hsp⟩ := ox_in hsp
      refine va_iald hx hb hK hP 1 0 rfl rfl (i := v136) hi_256 dX13_wanted_1267 ?_
      refine lv_bipush (v := 73) hx hb dX13_wanted_1268 (by decide) ?_
      refine lv_icmp_eq (tgt := 1287) hx hb dX13_wanted_1270 (by decide) (fun c_257 => ?_) (fun c_257 => ?_)
      · rw [if_pos c_257] at hsp
        refine lv_aload_n hx hb dX13_wanted_1287 rfl (lv_at hl 1 rfl) ?_
        refine lv_iconst (v := 1) hx hb dX13_wanted_1288 (by decide) ?_
        obtain ⟨⟨u28_0, u28_1⟩, hu_28, hsp⟩ := ox_bind hsp
        try dsimp only at hsp
        have hPc := hP.sub (ws' := [(h0, .inr (13, z25)), (qf128, .inl (cf128, 31, .inl g128_25))]) [0, 2] rfl
        have hDc := hD.sub (ws' := [(h0, .inr (13, z25)), (qf128, .inl (cf128, 31, .inl g128_25))]) [0, 2] (by decide) rfl
        have hKc := hK.sub (tys' := [(cf128, .int)]) [1] rfl
        have hFc := va_free (wc := [(h0, .inr (13, z25)), (qf128, .inl (cf128, 31, .inl g128_25))]) hD hS hA [0, 2] rfl
        refine va_calli (va_runV (As := [.int 1]) (rest := []) ⟨hx, hb, hml, hown, hts⟩ (tn_pullInts l dC dI H.size h0 z25 1 qf128 x131_25 cf128 g128_25 nf u28_0 u28_1 hlh_25 hfh_25_128 hfh_25_131 hu_28) (cwV 1 hts gv_h9_70 rfl rfl rfl (by decide +kernel) ⟨Nat.le_of_ble_eq_true rfl, Nat.le_of_ble_eq_true rfl⟩) ⟨fun a U g mk q => by obtain ⟨q0, q1, qP, qK, qD⟩ := q; exact ⟨q0, q1, qP, va_K.moved (u := U) (U := U.calling g mk a) (Vm.Alike.refl U.vm) qK, qD⟩, va_recv hKc hPc (ci := 13) (q0 := 0) rfl rfl, fun U hU hW => ⟨rfl, by rw [hU], by rw [hU]; exact hPc, va_K.moved hW.alike hKc, hDc.weaken (fun _ _ _ _ => trivial)⟩⟩ rfl rfl hl.1 rfl (lv_room (Nat.le_of_ble_eq_true rfl)) dX13_wanted_1289 ⟨Nat.le_of_ble_eq_true rfl, Nat.le_of_ble_eq_true rfl⟩) hS (fun q _ h => hFc q h) hFc ?_
        clear hS
        intro r_258 u t H1 locs ht hvm hw hB hz1 hk1 hS
        obtain ⟨z_28, rfl⟩ : ∃ z, z = u := ⟨_, rfl⟩
        obtain ⟨hP1, hK1, hD1⟩ := hB
        rw [ht] at hP1
        have hK1 := va_K.moved hvm.symm hK1
        try dsimp only at hw
        have hPD := va_join (wr := [(qf100, .inl (cf100, 48000, .inl f100)), (qf127, .inl (cf127, 30, .inl g127_25)), (qf104, .inl (cf104, 8, .inl f104)), (qf102, .inl (cf102, 2048, .inl f102)), (qf118, .inl (cf118, 2100, .inl g118_25)), (qf119, .inl (cf119, 2100, .inl g119_25)), (qf105, .inl (cf105, 8, .inl f105)), (qf137, .inl (cf137, 6, .inl g137_25))]) (w1 := [(h0, .inr (13, z_28)), (qf128, .inl (cf128, 31, .inl g128_25))]) hP hD [0, 2] [1, 3, 4, 5, 6, 7, 8, 9] rfl rfl (by decide) (by decide) hk1 hFc hP1 hD1
        clear hP hD
        obtain ⟨hP, hD⟩ := hPD
        replace hK := (hK.sub (tys' := [(cf100, .int), (cf127, .int), (cf104, .int), (cf102, .int), (cf118, .int), (cf119, .int), (cf105, .int), (cf137, .int)]) [0, 2, 3, 4, 5, 6, 7, 8] rfl).app hK1
        clear hPc hDc hKc hFc hP1 hK1 hD1 hz1 hk1 ht hvm
        generalize H1 = H at hP hS ⊢
        replace hP : va_P (dC, dI) vwCl [(qf100, .inl (cf100, 48000, .inl f100)), (qf127, .inl (cf127, 30, .inl g127_25)), (qf104, .inl (cf104, 8, .inl f104)), (qf102, .inl (cf102, 2048, .inl f102)), (qf118, .inl (cf118, 2100, .inl g118_25)), (qf119, .inl (cf119, 2100, .inl g119_25)), (qf105, .inl (cf105, 8, .inl f105)), (qf137, .inl (cf137, 6, .inl g137_25)), (h0, .inr (13, z_28)), (qf128, .inl (cf128, 31, .inl g128_25))] H := hP
        replace hD : va_D A [(qf100, .inl (cf100, 48000, .inl f100)), (qf127, .inl (cf127, 30, .inl g127_25)), (qf104, .inl (cf104, 8, .inl f104)), (qf102, .inl (cf102, 2048, .inl f102)), (qf118, .inl (cf118, 2100, .inl g118_25)), (qf119, .inl (cf119, 2100, .inl g119_25)), (qf105, .inl (cf105, 8, .inl f105)), (qf137, .inl (cf137, 6, .inl g137_25)), (h0, .inr (13, z_28)), (qf128, .inl (cf128, 31, .inl g128_25))] := hD
        replace hK : va_K (dC, dI) vwCl [(cf100, .int), (cf127, .int), (cf104, .int), (cf102, .int), (cf118, .int), (cf119, .int), (cf105, .int), (cf137, .int), (cf128, .int)] s := hK
        obtain ⟨hwa_28, hln_28, hre_28, hch_28_131⟩ := hw
        have hfk_28_98 : z_28[98]? = some (.int v98) := (hre_28 98 (by decide)).trans (hfh_25_98)
        have hfk_28_100 : z_28[100]? = some (.ref qf100) := (hre_28 100 (by decide)).trans (hfh_25_100)
        have hfk_28_102 : z_28[102]? = some (.ref qf102) := (hre_28 102 (by decide)).trans (hfh_25_102)
        have hfk_28_104 : z_28[104]? = some (.ref qf104) := (hre_28 104 (by decide)).trans (hfh_25_104)
        have hfk_28_105 : z_28[105]? = some (.ref qf105) := (hre_28 105 (by decide)).trans (hfh_25_105)
        have hfk_28_117 : z_28[117]? = some (.int x117_25) := (hre_28 117 (by decide)).trans (hfh_25_117)
        have hfk_28_118 : z_28[118]? = some (.ref qf118) := (hre_28 118 (by decide)).trans (hfh_25_118)
        have hfk_28_119 : z_28[119]? = some (.ref qf119) := (hre_28 119 (by decide)).trans (hfh_25_119)
        have hfk_28_120 : z_28[120]? = some (.int x120_25) := (hre_28 120 (by decide)).trans (hfh_25_120)
        have hfk_28_127 : z_28[127]? = some (.ref qf127) := (hre_28 127 (by decide)).trans (hfh_25_127)
        have hfk_28_128 : z_28[128]? = some (.ref qf128) := (hre_28 128 (by decide)).trans (hfh_25_128)
        have hfk_28_129 : z_28[129]? = some (.int v129) := (hre_28 129 (by decide)).trans (hfh_25_129)
        have hfk_28_130 : z_28[130]? = some (.int v130) := (hre_28 130 (by decide)).trans (hfh_25_130)
        have hfk_28_132 : z_28[132]? = some (.int v132) := (hre_28 132 (by decide)).trans (hfh_25_132)
        have hfk_28_134 : z_28[134]? = some (.int v134) := (hre_28 134 (by decide)).trans (hfh_25_134)
        have hfk_28_136 : z_28[136]? = some (.int v136) := (hre_28 136 (by decide)).trans (hfh_25_136)
        have hfk_28_137 : z_28[137]? = some (.ref qf137) := (hre_28 137 (by decide)).trans (hfh_25_137)
        have hrq_28 : ∀ j : Nat, j ≠ 117 → j ≠ 120 → j ≠ 131 → z_28[j]? = zs[j]? := fun j g117 g120 g131 => (hre_28 j g131).trans (hrh_25 j g117 g120 g131)
        obtain ⟨rfl, hz_28⟩ := hwa_28
        rcases hz_28 with rfl | rfl
        · rw [if_pos rfl] at hsp
          refine lv_if_eq (tgt := 1299) hx hb dX13_wanted_1292 (by decide) (fun c_259 => ?_) (fun c_259 => (show False by revert c_259; decide).elim)
          refine lv_iconst (v := 0) hx hb dX13_wanted_1299 (by decide) ?_
          have hr0 := Option.some.inj hsp
          clear hsp
          obtain ⟨hq0, hr1⟩ := Prod.mk.inj hr0
          clear hr0
          obtain ⟨hq1, hr2⟩ := Prod.mk.inj hr1
          clear hr1
          obtain ⟨hq2, hr3⟩ := Prod.mk.inj hr2
          clear hr2
          obtain ⟨hq3, hr4⟩ := Prod.mk.inj hr3
          clear hr3
          obtain ⟨hq4, hr5⟩ := Prod.mk.inj hr4
          clear hr4
          obtain ⟨hq5, hr6⟩ := Prod.mk.inj hr5
          clear hr5
          obtain ⟨hq6, hr7⟩ := Prod.mk.inj hr6
          clear hr6
          obtain ⟨hq7, hr8⟩ := Prod.mk.inj hr7
          clear hr7
          subst hq0
          subst hq1
          subst hq2
          subst hq3
          subst hq4
          subst hq5
          subst hq6
          subst hq7
          subst hr8
          have hP9 := hP.sub (ws' := [(h0, .inr (13, z_28)), (qf100, .inl (cf100, 48000, .inl f100)), (qf128, .inl (cf128, 31, .inl g128_25)), (qf127, .inl (cf127, 30, .inl g127_25)), (qf104, .inl (cf104, 8, .inl f104)), (qf102, .inl (cf102, 2048, .inl f102)), (qf118, .inl (cf118, 2100, .inl g118_25)), (qf119, .inl (cf119, 2100, .inl g119_25)), (qf105, .inl (cf105, 8, .inl f105)), (qf137, .inl (cf137, 6, .inl g137_25))]) [8, 0, 9, 1, 2, 3, 4, 5, 6, 7] rfl
          have hD9 := hD.sub (ws' := [(h0, .inr (13, z_28)), (qf100, .inl (cf100, 48000, .inl f100)), (qf128, .inl (cf128, 31, .inl g128_25)), (qf127, .inl (cf127, 30, .inl g127_25)), (qf104, .inl (cf104, 8, .inl f104)), (qf102, .inl (cf102, 2048, .inl f102)), (qf118, .inl (cf118, 2100, .inl g118_25)), (qf119, .inl (cf119, 2100, .inl g119_25)), (qf105, .inl (cf105, 8, .inl f105)), (qf137, .inl (cf137, 6, .inl g137_25))]) [8, 0, 9, 1, 2, 3, 4, 5, 6, 7] (by decide) rfl
          have hK9 := hK.sub (tys' := [(cf100, .int), (cf128, .int), (cf127, .int), (cf104, .int), (cf102, .int), (cf118, .int), (cf119, .int), (cf105, .int), (cf137, .int)]) [0, 8, 1, 2, 3, 4, 5, 6, 7] rfl
          exact W.zret hx hb hr (by decide) (fun t ht hW => ⟨⟨(0), (z_28), rfl, ⟨⟨rfl, Or.inl rfl⟩, hln_28, hrq_28, hfk_28_117, hfk_28_120, hch_28_131⟩, by rw [ht]; exact hP9, va_K.moved hW.alike hK9, hD9⟩, hS.F ht⟩) hS.2.2 dX13_wanted_1300
        · rw [if_neg (by decide)] at hsp
          refine lv_if_eq (tgt := 1299) hx hb dX13_wanted_1292 (by decide) (fun c_260 => (show False by revert c_260; decide).elim) (fun c_260 => ?_)
          refine lv_iconst (v := 1) hx hb dX13_wanted_1295 (by decide) ?_
          refine lv_goto (tgt := 1300) hx hb dX13_wanted_1296 (by decide) ?_
          have hr0 := Option.some.inj hsp
          clear hsp
          obtain ⟨hq0, hr1⟩ := Prod.mk.inj hr0
          clear hr0
          obtain ⟨hq1, hr2⟩ := Prod.mk.inj hr1
          clear hr1
          obtain ⟨hq2, hr3⟩ := Prod.mk.inj hr2
          clear hr2
          obtain ⟨hq3, hr4⟩ := Prod.mk.inj hr3
          clear hr3
          obtain ⟨hq4, hr5⟩ := Prod.mk.inj hr4
          clear hr4
          obtain ⟨hq5, hr6⟩ := Prod.mk.inj hr5
          clear hr5
          obtain ⟨hq6, hr7⟩ := Prod.mk.inj hr6
          clear hr6
          obtain ⟨hq7, hr8⟩ := Prod.mk.inj hr7
          clear hr7
          subst hq0
          subst hq1
          subst hq2
          subst hq3
          subst hq4
          subst hq5
          subst hq6
          subst hq7
          subst hr8
          have hP9 := hP.sub (ws' := [(h0, .inr (13, z_28)), (qf100, .inl (cf100, 48000, .inl f100)), (qf128, .inl (cf128, 31, .inl g128_25)), (qf127, .inl (cf127, 30, .inl g127_25)), (qf104, .inl (cf104, 8, .inl f104)), (qf102, .inl (cf102, 2048, .inl f102)), (qf118, .inl (cf118, 2100, .inl g118_25)), (qf119, .inl (cf119, 2100, .inl g119_25)), (qf105, .inl (cf105, 8, .inl f105)), (qf137, .inl (cf137, 6, .inl g137_25))]) [8, 0, 9, 1, 2, 3, 4, 5, 6, 7] rfl
          have hD9 := hD.sub (ws' := [(h0, .inr (13, z_28)), (qf100, .inl (cf100, 48000, .inl f100)), (qf128, .inl (cf128, 31, .inl g128_25)), (qf127, .inl (cf127, 30, .inl g127_25)), (qf104, .inl (cf104, 8, .inl f104)), (qf102, .inl (cf102, 2048, .inl f102)), (qf118, .inl (cf118, 2100, .inl g118_25)), (qf119, .inl (cf119, 2100, .inl g119_25)), (qf105, .inl (cf105, 8, .inl f105)), (qf137, .inl (cf137, 6, .inl g137_25))]) [8, 0, 9, 1, 2, 3, 4, 5, 6, 7] (by decide) rfl
          have hK9 := hK.sub (tys' := [(cf100, .int), (cf128, .int), (cf127, .int), (cf104, .int), (cf102, .int), (cf118, .int), (cf119, .int), (cf105, .int), (cf137, .int)]) [0, 8, 1, 2, 3, 4, 5, 6, 7] rfl
          exact W.zret hx hb hr (by decide) (fun t ht hW => ⟨⟨(1), (z_28), rfl, ⟨⟨rfl, Or.inr rfl⟩, hln_28, hrq_28, hfk_28_117, hfk_28_120, hch_28_131⟩, by rw [ht]; exact hP9, va_K.moved hW.alike hK9, hD9⟩, hS.F ht⟩) hS.2.2 dX13_wanted_1300
      · rw [if_neg c_257] at hsp
        refine lv_aload_n hx hb dX13_wanted_1273 rfl (lv_at hl 1 rfl) ?_
        refine va_get (D := (dC, dI)) (ci := 13) (v := .ref qf100) (C := RX13) (T := TX13) (N := 155) hx hb hts uV_h9_X13 hown hK hP 0 rfl rfl 100 (by decide) (hts (.fieldLink RX13 209 "ClassMillModel" "bytes" "[I") mw_h9_266) (fun _ h9 => h9) hfh_25_100 dX13_wanted_1274 ?_
        refine lv_aload_n hx hb dX13_wanted_1277 rfl (lv_at hl 1 rfl) ?_
        refine va_get (D := (dC, dI)) (ci := 13) (v := .int v136) (C := RX13) (T := TX13) (N := 155) hx hb hts uV_h9_X13 hown hK hP 0 rfl rfl 136 (by decide) (hts (.fieldLink RX13 998 "ClassMillModel" "resultAt" "I") mw_h9_615) (fun _ h9 => h9) hfh_25_136 dX13_wanted_1278 ?_
        obtain ⟨hi_261, hsp⟩ := ox_in hsp
        refine va_iald hx hb hK hP 1 0 rfl rfl (i := v136) hi_261 dX13_wanted_1281 ?_
        refine lv_bipush (v := 90) hx hb dX13_wanted_1282 (by decide) ?_
        refine lv_icmp_ne (tgt := 1299) hx hb dX13_wanted_1284 (by decide) (fun c_262 => ?_) (fun c_262 => ?_)
        · rw [if_neg c_262] at hsp
          refine lv_iconst (v := 0) hx hb dX13_wanted_1299 (by decide) ?_
          have hr0 := Option.some.inj hsp
          clear hsp
          obtain ⟨hq0, hr1⟩ := Prod.mk.inj hr0
          clear hr0
          obtain ⟨hq1, hr2⟩ := Prod.mk.inj hr1
          clear hr1
          obtain ⟨hq2, hr3⟩ := Prod.mk.inj hr2
          clear hr2
          obtain ⟨hq3, hr4⟩ := Prod.mk.inj hr3
          clear hr3
          obtain ⟨hq4, hr5⟩ := Prod.mk.inj hr4
          clear hr4
          obtain ⟨hq5, hr6⟩ := Prod.mk.inj hr5
          clear hr5
          obtain ⟨hq6, hr7⟩ := Prod.mk.inj hr6
          clear hr6
          obtain ⟨hq7, hr8⟩ := Prod.mk.inj hr7
          clear hr7
          subst hq0
          subst hq1
          subst hq2
          subst hq3
          subst hq4
          subst hq5
          subst hq6
          subst hq7
          subst hr8
          have hP9 := hP.sub (ws' := [(h0, .inr (13, z25)), (qf100, .inl (cf100, 48000, .inl f100)), (qf128, .inl (cf128, 31, .inl g128_25)), (qf127, .inl (cf127, 30, .inl g127_25)), (qf104, .inl (cf104, 8, .inl f104)), (qf102, .inl (cf102, 2048, .inl f102)), (qf118, .inl (cf118, 2100, .inl g118_25)), (qf119, .inl (cf119, 2100, .inl g119_25)), (qf105, .inl (cf105, 8, .inl f105)), (qf137, .inl (cf137, 6, .inl g137_25))]) [0, 1, 2, 3, 4, 5, 6, 7, 8, 9] rfl
          have hD9 := hD.sub (ws' := [(h0, .inr (13, z25)), (qf100, .inl (cf100, 48000, .inl f100)), (qf128, .inl (cf128, 31, .inl g128_25)), (qf127, .inl (cf127, 30, .inl g127_25)), (qf104, .inl (cf104, 8, .inl f104)), (qf102, .inl (cf102, 2048, .inl f102)), (qf118, .inl (cf118, 2100, .inl g118_25)), (qf119, .inl (cf119, 2100, .inl g119_25)), (qf105, .inl (cf105, 8, .inl f105)), (qf137, .inl (cf137, 6, .inl g137_25))]) [0, 1, 2, 3, 4, 5, 6, 7, 8, 9] (by decide) rfl
          have hK9 := hK.sub (tys' := [(cf100, .int), (cf128, .int), (cf127, .int), (cf104, .int), (cf102, .int), (cf118, .int), (cf119, .int), (cf105, .int), (cf137, .int)]) [0, 1, 2, 3, 4, 5, 6, 7, 8] rfl
          exact W.zret hx hb hr (by decide) (fun t ht hW => ⟨⟨(0), (z25), rfl, ⟨⟨rfl, Or.inl rfl⟩, hlh_25, hrh_25, hfh_25_117, hfh_25_120, hfh_25_131⟩, by rw [ht]; exact hP9, va_K.moved hW.alike hK9, hD9⟩, hS.F ht⟩) hS.2.2 dX13_wanted_1300
        · rw [if_pos c_262] at hsp
          refine lv_aload_n hx hb dX13_wanted_1287 rfl (lv_at hl 1 rfl) ?_
          refine lv_iconst (v := 1) hx hb dX13_wanted_1288 (by decide) ?_
          obtain ⟨⟨u29_0, u29_1⟩, hu_29, hsp⟩ := ox_bind hsp
          try dsimp only at hsp
          have hPc := hP.sub (ws' := [(h0, .inr (13, z25)), (qf128, .inl (cf128, 31, .inl g128_25))]) [0, 2] rfl
          have hDc := hD.sub (ws' := [(h0, .inr (13, z25)), (qf128, .inl (cf128, 31, .inl g128_25))]) [0, 2] (by decide) rfl
          have hKc := hK.sub (tys' := [(cf128, .int)]) [1] rfl
          have hFc := va_free (wc := [(h0, .inr (13, z25)), (qf128, .inl (cf128, 31, .inl g128_25))]) hD hS hA [0, 2] rfl
          refine va_calli (va_runV (As := [.int 1]) (rest := []) ⟨hx, hb, hml, hown, hts⟩ (tn_pullInts l dC dI H.size h0 z25 1 qf128 x131_25 cf128 g128_25 nf u29_0 u29_1 hlh_25 hfh_25_128 hfh_25_131 hu_29) (cwV 1 hts gv_h9_70 rfl rfl rfl (by decide +kernel) ⟨Nat.le_of_ble_eq_true rfl, Nat.le_of_ble_eq_true rfl⟩) ⟨fun a U g mk q => by obtain ⟨q0, q1, qP, qK, qD⟩ := q; exact ⟨q0, q1, qP, va_K.moved (u := U) (U := U.calling g mk a) (Vm.Alike.refl U.vm) qK, qD⟩, va_recv hKc hPc (ci := 13) (q0 := 0) rfl rfl, fun U hU hW => ⟨rfl, by rw [hU], by rw [hU]; exact hPc, va_K.moved hW.alike hKc, hDc.weaken (fun _ _ _ _ => trivial)⟩⟩ rfl rfl hl.1 rfl (lv_room (Nat.le_of_ble_eq_true rfl)) dX13_wanted_1289 ⟨Nat.le_of_ble_eq_true rfl, Nat.le_of_ble_eq_true rfl⟩) hS (fun q _ h => hFc q h) hFc ?_
          clear hS
          intro r_263 u t H1 locs ht hvm hw hB hz1 hk1 hS
          obtain ⟨z_29, rfl⟩ : ∃ z, z = u := ⟨_, rfl⟩
          obtain ⟨hP1, hK1, hD1⟩ := hB
          rw [ht] at hP1
          have hK1 := va_K.moved hvm.symm hK1
          try dsimp only at hw
          have hPD := va_join (wr := [(qf100, .inl (cf100, 48000, .inl f100)), (qf127, .inl (cf127, 30, .inl g127_25)), (qf104, .inl (cf104, 8, .inl f104)), (qf102, .inl (cf102, 2048, .inl f102)), (qf118, .inl (cf118, 2100, .inl g118_25)), (qf119, .inl (cf119, 2100, .inl g119_25)), (qf105, .inl (cf105, 8, .inl f105)), (qf137, .inl (cf137, 6, .inl g137_25))]) (w1 := [(h0, .inr (13, z_29)), (qf128, .inl (cf128, 31, .inl g128_25))]) hP hD [0, 2] [1, 3, 4, 5, 6, 7, 8, 9] rfl rfl (by decide) (by decide) hk1 hFc hP1 hD1
          clear hP hD
          obtain ⟨hP, hD⟩ := hPD
          replace hK := (hK.sub (tys' := [(cf100, .int), (cf127, .int), (cf104, .int), (cf102, .int), (cf118, .int), (cf119, .int), (cf105, .int), (cf137, .int)]) [0, 2, 3, 4, 5, 6, 7, 8] rfl).app hK1
          clear hPc hDc hKc hFc hP1 hK1 hD1 hz1 hk1 ht hvm
          generalize H1 = H at hP hS ⊢
          replace hP : va_P (dC, dI) vwCl [(qf100, .inl (cf100, 48000, .inl f100)), (qf127, .inl (cf127, 30, .inl g127_25)), (qf104, .inl (cf104, 8, .inl f104)), (qf102, .inl (cf102, 2048, .inl f102)), (qf118, .inl (cf118, 2100, .inl g118_25)), (qf119, .inl (cf119, 2100, .inl g119_25)), (qf105, .inl (cf105, 8, .inl f105)), (qf137, .inl (cf137, 6, .inl g137_25)), (h0, .inr (13, z_29)), (qf128, .inl (cf128, 31, .inl g128_25))] H := hP
          replace hD : va_D A [(qf100, .inl (cf100, 48000, .inl f100)), (qf127, .inl (cf127, 30, .inl g127_25)), (qf104, .inl (cf104, 8, .inl f104)), (qf102, .inl (cf102, 2048, .inl f102)), (qf118, .inl (cf118, 2100, .inl g118_25)), (qf119, .inl (cf119, 2100, .inl g119_25)), (qf105, .inl (cf105, 8, .inl f105)), (qf137, .inl (cf137, 6, .inl g137_25)), (h0, .inr (13, z_29)), (qf128, .inl (cf128, 31, .inl g128_25))] := hD
          replace hK : va_K (dC, dI) vwCl [(cf100, .int), (cf127, .int), (cf104, .int), (cf102, .int), (cf118, .int), (cf119, .int), (cf105, .int), (cf137, .int), (cf128, .int)] s := hK
          obtain ⟨hwa_29, hln_29, hre_29, hch_29_131⟩ := hw
          have hfk_29_98 : z_29[98]? = some (.int v98) := (hre_29 98 (by decide)).trans (hfh_25_98)
          have hfk_29_100 : z_29[100]? = some (.ref qf100) := (hre_29 100 (by decide)).trans (hfh_25_100)
          have hfk_29_102 : z_29[102]? = some (.ref qf102) := (hre_29 102 (by decide)).trans (hfh_25_102)
          have hfk_29_104 : z_29[104]? = some (.ref qf104) := (hre_29 104 (by decide)).trans (hfh_25_104)
          have hfk_29_105 : z_29[105]? = some (.ref qf105) := (hre_29 105 (by decide)).trans (hfh_25_105)
          have hfk_29_117 : z_29[117]? = some (.int x117_25) := (hre_29 117 (by decide)).trans (hfh_25_117)
          have hfk_29_118 : z_29[118]? = some (.ref qf118) := (hre_29 118 (by decide)).trans (hfh_25_118)
          have hfk_29_119 : z_29[119]? = some (.ref qf119) := (hre_29 119 (by decide)).trans (hfh_25_119)
          have hfk_29_120 : z_29[120]? = some (.int x120_25) := (hre_29 120 (by decide)).trans (hfh_25_120)
          have hfk_29_127 : z_29[127]? = some (.ref qf127) := (hre_29 127 (by decide)).trans (hfh_25_127)
          have hfk_29_128 : z_29[128]? = some (.ref qf128) := (hre_29 128 (by decide)).trans (hfh_25_128)
          have hfk_29_129 : z_29[129]? = some (.int v129) := (hre_29 129 (by decide)).trans (hfh_25_129)
          have hfk_29_130 : z_29[130]? = some (.int v130) := (hre_29 130 (by decide)).trans (hfh_25_130)
          have hfk_29_132 : z_29[132]? = some (.int v132) := (hre_29 132 (by decide)).trans (hfh_25_132)
          have hfk_29_134 : z_29[134]? = some (.int v134) := (hre_29 134 (by decide)).trans (hfh_25_134)
          have hfk_29_136 : z_29[136]? = some (.int v136) := (hre_29 136 (by decide)).trans (hfh_25_136)
          have hfk_29_137 : z_29[137]? = some (.ref qf137) := (hre_29 137 (by decide)).trans (hfh_25_137)
          have hrq_29 : ∀ j : Nat, j ≠ 117 → j ≠ 120 → j ≠ 131 → z_29[j]? = zs[j]? := fun j g117 g120 g131 => (hre_29 j g131).trans (hrh_25 j g117 g120 g131)
          obtain ⟨rfl, hz_29⟩ := hwa_29
          rcases hz_29 with rfl | rfl
          · rw [if_pos rfl] at hsp
            refine lv_if_eq (tgt := 1299) hx hb dX13_wanted_1292 (by decide) (fun c_264 => ?_) (fun c_264 => (show False by revert c_264; decide).elim)
            refine lv_iconst (v := 0) hx hb dX13_wanted_1299 (by decide) ?_
            have hr0 := Option.some.inj hsp
            clear hsp
            obtain ⟨hq0, hr1⟩ := Prod.mk.inj hr0
            clear hr0
            obtain ⟨hq1, hr2⟩ := Prod.mk.inj hr1
            clear hr1
            obtain ⟨hq2, hr3⟩ := Prod.mk.inj hr2
            clear hr2
            obtain ⟨hq3, hr4⟩ := Prod.mk.inj hr3
            clear hr3
            obtain ⟨hq4, hr5⟩ := Prod.mk.inj hr4
            clear hr4
            obtain ⟨hq5, hr6⟩ := Prod.mk.inj hr5
            clear hr5
            obtain ⟨hq6, hr7⟩ := Prod.mk.inj hr6
            clear hr6
            obtain ⟨hq7, hr8⟩ := Prod.mk.inj hr7
            clear hr7
            subst hq0
            subst hq1
            subst hq2
            subst hq3
            subst hq4
            subst hq5
            subst hq6
            subst hq7
            subst hr8
            have hP9 := hP.sub (ws' := [(h0, .inr (13, z_29)), (qf100, .inl (cf100, 48000, .inl f100)), (qf128, .inl (cf128, 31, .inl g128_25)), (qf127, .inl (cf127, 30, .inl g127_25)), (qf104, .inl (cf104, 8, .inl f104)), (qf102, .inl (cf102, 2048, .inl f102)), (qf118, .inl (cf118, 2100, .inl g118_25)), (qf119, .inl (cf119, 2100, .inl g119_25)), (qf105, .inl (cf105, 8, .inl f105)), (qf137, .inl (cf137, 6, .inl g137_25))]) [8, 0, 9, 1, 2, 3, 4, 5, 6, 7] rfl
            have hD9 := hD.sub (ws' := [(h0, .inr (13, z_29)), (qf100, .inl (cf100, 48000, .inl f100)), (qf128, .inl (cf128, 31, .inl g128_25)), (qf127, .inl (cf127, 30, .inl g127_25)), (qf104, .inl (cf104, 8, .inl f104)), (qf102, .inl (cf102, 2048, .inl f102)), (qf118, .inl (cf118, 2100, .inl g118_25)), (qf119, .inl (cf119, 2100, .inl g119_25)), (qf105, .inl (cf105, 8, .inl f105)), (qf137, .inl (cf137, 6, .inl g137_25))]) [8, 0, 9, 1, 2, 3, 4, 5, 6, 7] (by decide) rfl
            have hK9 := hK.sub (tys' := [(cf100, .int), (cf128, .int), (cf127, .int), (cf104, .int), (cf102, .int), (cf118, .int), (cf119, .int), (cf105, .int), (cf137, .int)]) [0, 8, 1, 2, 3, 4, 5, 6, 7] rfl
            exact W.zret hx hb hr (by decide) (fun t ht hW => ⟨⟨(0), (z_29), rfl, ⟨⟨rfl, Or.inl rfl⟩, hln_29, hrq_29, hfk_29_117, hfk_29_120, hch_29_131⟩, by rw [ht]; exact hP9, va_K.moved hW.alike hK9, hD9⟩, hS.F ht⟩) hS.2.2 dX13_wanted_1300
          · rw [if_neg (by decide)] at hsp
            refine lv_if_eq (tgt := 1299) hx hb dX13_wanted_1292 (by decide) (fun c_265 => (show False by revert c_265; decide).elim) (fun c_265 => ?_)
            refine lv_iconst (v := 1) hx hb dX13_wanted_1295 (by decide) ?_
            refine lv_goto (tgt := 1300) hx hb dX13_wanted_1296 (by decide) ?_
            have hr0 := Option.some.inj hsp
            clear hsp
            obtain ⟨hq0, hr1⟩ := Prod.mk.inj hr0
            clear hr0
            obtain ⟨hq1, hr2⟩ := Prod.mk.inj hr1
            clear hr1
            obtain ⟨hq2, hr3⟩ := Prod.mk.inj hr2
            clear hr2
            obtain ⟨hq3, hr4⟩ := Prod.mk.inj hr3
            clear hr3
            obtain ⟨hq4, hr5⟩ := Prod.mk.inj hr4
            clear hr4
            obtain ⟨hq5, hr6⟩ := Prod.mk.inj hr5
            clear hr5
            obtain ⟨hq6, hr7⟩ := Prod.mk.inj hr6
            clear hr6
            obtain ⟨hq7, hr8⟩ := Prod.mk.inj hr7
            clear hr7
            subst hq0
            subst hq1
            subst hq2
            subst hq3
            subst hq4
            subst hq5
            subst hq6
            subst hq7
            subst hr8
            have hP9 := hP.sub (ws' := [(h0, .inr (13, z_29)), (qf100, .inl (cf100, 48000, .inl f100)), (qf128, .inl (cf128, 31, .inl g128_25)), (qf127, .inl (cf127, 30, .inl g127_25)), (qf104, .inl (cf104, 8, .inl f104)), (qf102, .inl (cf102, 2048, .inl f102)), (qf118, .inl (cf118, 2100, .inl g118_25)), (qf119, .inl (cf119, 2100, .inl g119_25)), (qf105, .inl (cf105, 8, .inl f105)), (qf137, .inl (cf137, 6, .inl g137_25))]) [8, 0, 9, 1, 2, 3, 4, 5, 6, 7] rfl
            have hD9 := hD.sub (ws' := [(h0, .inr (13, z_29)), (qf100, .inl (cf100, 48000, .inl f100)), (qf128, .inl (cf128, 31, .inl g128_25)), (qf127, .inl (cf127, 30, .inl g127_25)), (qf104, .inl (cf104, 8, .inl f104)), (qf102, .inl (cf102, 2048, .inl f102)), (qf118, .inl (cf118, 2100, .inl g118_25)), (qf119, .inl (cf119, 2100, .inl g119_25)), (qf105, .inl (cf105, 8, .inl f105)), (qf137, .inl (cf137, 6, .inl g137_25))]) [8, 0, 9, 1, 2, 3, 4, 5, 6, 7] (by decide) rfl
            have hK9 := hK.sub (tys' := [(cf100, .int), (cf128, .int), (cf127, .int), (cf104, .int), (cf102, .int), (cf118, .int), (cf119, .int), (cf105, .int), (cf137, .int)]) [0, 8, 1, 2, 3, 4, 5, 6, 7] rfl
            exact W.zret hx hb hr (by decide) (fun t ht hW => ⟨⟨(1), (z_29), rfl, ⟨⟨rfl, Or.inr rfl⟩, hln_29, hrq_29, hfk_29_117, hfk_29_120, hch_29_131⟩, by rw [ht]; exact hP9, va_K.moved hW.alike hK9, hD9⟩, hS.F ht⟩) hS.2.2 dX13_wanted_1300
    rw [if_neg hs_255] at hsp
    by_cases hs_266 : l2_25 = 173
    · rw [if_pos hs_266] at hsp
      refine lv_tableIn (tgt := 1642) hx hb dX13_wanted_27 (by rw [hs_266]; decide) (by rw [hs_266]; decide) (off := 1615) (by rw [hs_266]; rfl) (by decide) ?_
      exact hj_1642 (H, locs, ls, z25, g118_25, g119_25, g127_25, g128_25, g137_25, x117_25, x120_25, x131_25) ⟨lv_sub hl [1] rfl, hS, hD.sub (ws' := [(h0, .inr (13, z25)), (qf100, .inl (cf100, 48000, .inl f100)), (qf128, .inl (cf128, 31, .inl g128_25)), (qf127, .inl (cf127, 30, .inl g127_25)), (qf104, .inl (cf104, 8, .inl f104)), (qf102, .inl (cf102, 2048, .inl f102)), (qf118, .inl (cf118, 2100, .inl g118_25)), (qf119, .inl (cf119, 2100, .inl g119_25)), (qf105, .inl (cf105, 8, .inl f105)), (qf137, .inl (cf137, 6, .inl g137_25))]) [0, 1, 2, 3, 4, 5, 6, 7, 8, 9] (by decide) rfl, hP.sub (ws' := [(h0, .inr (13, z25)), (qf100, .inl (cf100, 48000, .inl f100)), (qf128, .inl (cf128, 31, .inl g128_25)), (qf127, .inl (cf127, 30, .inl g127_25)), (qf104, .inl (cf104, 8, .inl f104)), (qf102, .inl (cf102, 2048, .inl f102)), (qf118, .inl (cf118, 2100, .inl g118_25)), (qf119, .inl (cf119, 2100, .inl g119_25)), (qf105, .inl (cf105, 8, .inl f105)), (qf137, .inl (cf137, 6, .inl g137_25))]) [0, 1, 2, 3, 4, 5, 6, 7, 8, 9] rfl, hfh_25_98, hfh_25_100, hfh_25_102, hfh_25_104, hfh_25_105, hfh_25_117, hfh_25_118, hfh_25_119, hfh_25_120, hfh_25_127, hfh_25_128, hfh_25_129, hfh_25_130, hfh_25_131, hfh_25_132, hfh_25_134, hfh_25_136, hfh_25_137, hlh_25, hrh_25, hsp⟩
    rw [if_neg hs_266] at hsp
    by_cases hs_267 : l2_25 = 174
    · rw [if_pos hs_267] at hsp
      refine lv_tableIn (tgt := 1642) hx hb dX13_wanted_27 (by rw [hs_267]; decide) (by rw [hs_267]; decide) (off := 1615) (by rw [hs_267]; rfl) (by decide) ?_
      exact hj_1642 (H, locs, ls, z25, g118_25, g119_25, g127_25, g128_25, g137_25, x117_25, x120_25, x131_25) ⟨lv_sub hl [1] rfl, hS, hD.sub (ws' := [(h0, .inr (13, z25)), (qf100, .inl (cf100, 48000, .inl f100)), (qf128, .inl (cf128, 31, .inl g128_25)), (qf127, .inl (cf127, 30, .inl g127_25)), (qf104, .inl (cf104, 8, .inl f104)), (qf102, .inl (cf102, 2048, .inl f102)), (qf118, .inl (cf118, 2100, .inl g118_25)), (qf119, .inl (cf119, 2100, .inl g119_25)), (qf105, .inl (cf105, 8, .inl f105)), (qf137, .inl (cf137, 6, .inl g137_25))]) [0, 1, 2, 3, 4, 5, 6, 7, 8, 9] (by decide) rfl, hP.sub (ws' := [(h0, .inr (13, z25)), (qf100, .inl (cf100, 48000, .inl f100)), (qf128, .inl (cf128, 31, .inl g128_25)), (qf127, .inl (cf127, 30, .inl g127_25)), (qf104, .inl (cf104, 8, .inl f104)), (qf102, .inl (cf102, 2048, .inl f102)), (qf118, .inl (cf118, 2100, .inl g118_25)), (qf119, .inl (cf119, 2100, .inl g119_25)), (qf105, .inl (cf105, 8, .inl f105)), (qf137, .inl (cf137, 6, .inl g137_25))]) [0, 1, 2, 3, 4, 5, 6, 7, 8, 9] rfl, hfh_25_98, hfh_25_100, hfh_25_102, hfh_25_104, hfh_25_105, hfh_25_117, hfh_25_118, hfh_25_119, hfh_25_120, hfh_25_127, hfh_25_128, hfh_25_129, hfh_25_130, hfh_25_131, hfh_25_132, hfh_25_134, hfh_25_136, hfh_25_137, hlh_25, hrh_25, hsp⟩
    rw [if_neg hs_267] at hsp
    by_cases hs_268 : l2_25 = 175
    · rw [if_pos hs_268] at hsp
      refine lv_tableIn (tgt := 1642) hx hb dX13_wanted_27 (by rw [hs_268]; decide) (by rw [hs_268]; decide) (off := 1615) (by rw [hs_268]; rfl) (by decide) ?_
      exact hj_1642 (H, locs, ls, z25, g118_25, g119_25, g127_25, g128_25, g137_25, x117_25, x120_25, x131_25) ⟨lv_sub hl [1] rfl, hS, hD.sub (ws' := [(h0, .inr (13, z25)), (qf100, .inl (cf100, 48000, .inl f100)), (qf128, .inl (cf128, 31, .inl g128_25)), (qf127, .inl (cf127, 30, .inl g127_25)), (qf104, .inl (cf104, 8, .inl f104)), (qf102, .inl (cf102, 2048, .inl f102)), (qf118, .inl (cf118, 2100, .inl g118_25)), (qf119, .inl (cf119, 2100, .inl g119_25)), (qf105, .inl (cf105, 8, .inl f105)), (qf137, .inl (cf137, 6, .inl g137_25))]) [0, 1, 2, 3, 4, 5, 6, 7, 8, 9] (by decide) rfl, hP.sub (ws' := [(h0, .inr (13, z25)), (qf100, .inl (cf100, 48000, .inl f100)), (qf128, .inl (cf128, 31, .inl g128_25)), (qf127, .inl (cf127, 30, .inl g127_25)), (qf104, .inl (cf104, 8, .inl f104)), (qf102, .inl (cf102, 2048, .inl f102)), (qf118, .inl (cf118, 2100, .inl g118_25)), (qf119, .inl (cf119, 2100, .inl g119_25)), (qf105, .inl (cf105, 8, .inl f105)), (qf137, .inl (cf137, 6, .inl g137_25))]) [0, 1, 2, 3, 4, 5, 6, 7, 8, 9] rfl, hfh_25_98, hfh_25_100, hfh_25_102, hfh_25_104, hfh_25_105, hfh_25_117, hfh_25_118, hfh_25_119, hfh_25_120, hfh_25_127, hfh_25_128, hfh_25_129, hfh_25_130, hfh_25_131, hfh_25_132, hfh_25_134, hfh_25_136, hfh_25_137, hlh_25, hrh_25, hsp⟩
    rw [if_neg hs_268] at hsp
    by_cases hs_269 : l2_25 = 176
    · rw [if_pos hs_269] at hsp
      refine lv_tableIn (tgt := 1301) hx hb dX13_wanted_27 (by rw [hs_269]; decide) (by rw [hs_269]; decide) (off := 1274) (by rw [hs_269]; rfl) (by decide) ?_
      refine lv_aload_n hx hb dX13_wanted_1301 rfl (lv_at hl 1 rfl) ?_
      refine va_get (D := (dC, dI)) (ci := 13) (v := .ref qf100) (C := RX13) (T := TX13) (N := 155) hx hb hts uV_h9_X13 hown hK hP 0 rfl rfl 100 (by decide) (hts (.fieldLink RX13 209 "ClassMillModel" "bytes" "[I") mw_h9_266) (fun _ h9 => h9) hfh_25_100 dX13_wanted_1302 ?_
      refine lv_aload_n hx hb dX13_wanted_1305 rfl (lv_at hl 1 rfl) ?_
      refine va_get (D := (dC, dI)) (ci := 13) (v := .int v136) (C := RX13) (T := TX13) (N := 155) hx hb hts uV_h9_X13 hown hK hP 0 rfl rfl 136 (by decide) (hts (.fieldLink RX13 998 "ClassMillModel" "resultAt" "I") mw_h9_615) (fun _ h9 => h9) hfh_25_136 dX13_wanted_1306 ?_
      obtain ⟨hi_270, hsp⟩ := ox_in hsp
      refine va_iald hx hb hK hP 1 0 rfl rfl (i := v136) hi_270 dX13_wanted_1309 ?_
      refine lv_bipush (v := 73) hx hb dX13_wanted_1310 (by decide) ?_
      refine lv_icmp_eq (tgt := 1362) hx hb dX13_wanted_1312 (by decide) (fun c_271 => ?_) (fun c_271 => ?_)
      · rw [if_pos c_271] at hsp
        refine lv_iconst (v := 0) hx hb dX13_wanted_1362 (by decide) ?_
        have hr0 := Option.some.inj hsp
        clear hsp
        obtain ⟨hq0, hr1⟩ := Prod.mk.inj hr0
        clear hr0
        obtain ⟨hq1, hr2⟩ := Prod.mk.inj hr1
        clear hr1
        obtain ⟨hq2, hr3⟩ := Prod.mk.inj hr2
        clear hr2
        obtain ⟨hq3, hr4⟩ := Prod.mk.inj hr3
        clear hr3
        obtain ⟨hq4, hr5⟩ := Prod.mk.inj hr4
        clear hr4
        obtain ⟨hq5, hr6⟩ := Prod.mk.inj hr5
        clear hr5
        obtain ⟨hq6, hr7⟩ := Prod.mk.inj hr6
        clear hr6
        obtain ⟨hq7, hr8⟩ := Prod.mk.inj hr7
        clear hr7
        subst hq0
        subst hq1
        subst hq2
        subst hq3
        subst hq4
        subst hq5
        subst hq6
        subst hq7
        subst hr8
        have hP9 := hP.sub (ws' := [(h0, .inr (13, z25)), (qf100, .inl (cf100, 48000, .inl f100)), (qf128, .inl (cf128, 31, .inl g128_25)), (qf127, .inl (cf127, 30, .inl g127_25)), (qf104, .inl (cf104, 8, .inl f104)), (qf102, .inl (cf102, 2048, .inl f102)), (qf118, .inl (cf118, 2100, .inl g118_25)), (qf119, .inl (cf119, 2100, .inl g119_25)), (qf105, .inl (cf105, 8, .inl f105)), (qf137, .inl (cf137, 6, .inl g137_25))]) [0, 1, 2, 3, 4, 5, 6, 7, 8, 9] rfl
        have hD9 := hD.sub (ws' := [(h0, .inr (13, z25)), (qf100, .inl (cf100, 48000, .inl f100)), (qf128, .inl (cf128, 31, .inl g128_25)), (qf127, .inl (cf127, 30, .inl g127_25)), (qf104, .inl (cf104, 8, .inl f104)), (qf102, .inl (cf102, 2048, .inl f102)), (qf118, .inl (cf118, 2100, .inl g118_25)), (qf119, .inl (cf119, 2100, .inl g119_25)), (qf105, .inl (cf105, 8, .inl f105)), (qf137, .inl (cf137, 6, .inl g137_25))]) [0, 1, 2, 3, 4, 5, 6, 7, 8, 9] (by decide) rfl
        have hK9 := hK.sub (tys' := [(cf100, .int), (cf128, .int), (cf127, .int), (cf104, .int), (cf102, .int), (cf118, .int), (cf119, .int), (cf105, .int), (cf137, .int)]) [0, 1, 2, 3, 4, 5, 6, 7, 8] rfl
        exact W.zret hx hb hr (by decide) (fun t ht hW => ⟨⟨(0), (z25), rfl, ⟨⟨rfl, Or.inl rfl⟩, hlh_25, hrh_25, hfh_25_117, hfh_25_120, hfh_25_131⟩, by rw [ht]; exact hP9, va_K.moved hW.alike hK9, hD9⟩, hS.F ht⟩) hS.2.2 dX13_wanted_1363
      · rw [if_neg c_271] at hsp
        refine lv_aload_n hx hb dX13_wanted_1315 rfl (lv_at hl 1 rfl) ?_
        refine va_get (D := (dC, dI)) (ci := 13) (v := .ref qf100) (C := RX13) (T := TX13) (N := 155) hx hb hts uV_h9_X13 hown hK hP 0 rfl rfl 100 (by decide) (hts (.fieldLink RX13 209 "ClassMillModel" "bytes" "[I") mw_h9_266) (fun _ h9 => h9) hfh_25_100 dX13_wanted_1316 ?_
        refine lv_aload_n hx hb dX13_wanted_1319 rfl (lv_at hl 1 rfl) ?_
        refine va_get (D := (dC, dI)) (ci := 13) (v := .int v136) (C := RX13) (T := TX13) (N := 155) hx hb hts uV_h9_X13 hown hK hP 0 rfl rfl 136 (by decide) (hts (.fieldLink RX13 998 "ClassMillModel" "resultAt" "I") mw_h9_615) (fun _ h9 => h9) hfh_25_136 dX13_wanted_1320 ?_
        obtain ⟨hi_272, hsp⟩ := ox_in hsp
        refine va_iald hx hb hK hP 1 0 rfl rfl (i := v136) hi_272 dX13_wanted_1323 ?_
        refine lv_bipush (v := 90) hx hb dX13_wanted_1324 (by decide) ?_
        refine lv_icmp_eq (tgt := 1362) hx hb dX13_wanted_1326 (by decide) (fun c_273 => ?_) (fun c_273 => ?_)
        · rw [if_pos c_273] at hsp
          refine lv_iconst (v := 0) hx hb dX13_wanted_1362 (by decide) ?_
          have hr0 := Option.some.inj hsp
          clear hsp
          obtain ⟨hq0, hr1⟩ := Prod.mk.inj hr0
          clear hr0
          obtain ⟨hq1, hr2⟩ := Prod.mk.inj hr1
          clear hr1
          obtain ⟨hq2, hr3⟩ := Prod.mk.inj hr2
          clear hr2
          obtain ⟨hq3, hr4⟩ := Prod.mk.inj hr3
          clear hr3
          obtain ⟨hq4, hr5⟩ := Prod.mk.inj hr4
          clear hr4
          obtain ⟨hq5, hr6⟩ := Prod.mk.inj hr5
          clear hr5
          obtain ⟨hq6, hr7⟩ := Prod.mk.inj hr6
          clear hr6
          obtain ⟨hq7, hr8⟩ := Prod.mk.inj hr7
          clear hr7
          subst hq0
          subst hq1
          subst hq2
          subst hq3
          subst hq4
          subst hq5
          subst hq6
          subst hq7
          subst hr8
          have hP9 := hP.sub (ws' := [(h0, .inr (13, z25)), (qf100, .inl (cf100, 48000, .inl f100)), (qf128, .inl (cf128, 31, .inl g128_25)), (qf127, .inl (cf127, 30, .inl g127_25)), (qf104, .inl (cf104, 8, .inl f104)), (qf102, .inl (cf102, 2048, .inl f102)), (qf118, .inl (cf118, 2100, .inl g118_25)), (qf119, .inl (cf119, 2100, .inl g119_25)), (qf105, .inl (cf105, 8, .inl f105)), (qf137, .inl (cf137, 6, .inl g137_25))]) [0, 1, 2, 3, 4, 5, 6, 7, 8, 9] rfl
          have hD9 := hD.sub (ws' := [(h0, .inr (13, z25)), (qf100, .inl (cf100, 48000, .inl f100)), (qf128, .inl (cf128, 31, .inl g128_25)), (qf127, .inl (cf127, 30, .inl g127_25)), (qf104, .inl (cf104, 8, .inl f104)), (qf102, .inl (cf102, 2048, .inl f102)), (qf118, .inl (cf118, 2100, .inl g118_25)), (qf119, .inl (cf119, 2100, .inl g119_25)), (qf105, .inl (cf105, 8, .inl f105)), (qf137, .inl (cf137, 6, .inl g137_25))]) [0, 1, 2, 3, 4, 5, 6, 7, 8, 9] (by decide) rfl
          have hK9 := hK.sub (tys' := [(cf100, .int), (cf128, .int), (cf127, .int), (cf104, .int), (cf102, .int), (cf118, .int), (cf119, .int), (cf105, .int), (cf137, .int)]) [0, 1, 2, 3, 4, 5, 6, 7, 8] rfl
          exact W.zret hx hb hr (by decide) (fun t ht hW => ⟨⟨(0), (z25), rfl, ⟨⟨rfl, Or.inl rfl⟩, hlh_25, hrh_25, hfh_25_117, hfh_25_120, hfh_25_131⟩, by rw [ht]; exact hP9, va_K.moved hW.alike hK9, hD9⟩, hS.F ht⟩) hS.2.2 dX13_wanted_1363
        · rw [if_neg c_273] at hsp
          refine lv_aload_n hx hb dX13_wanted_1329 rfl (lv_at hl 1 rfl) ?_
          refine va_get (D := (dC, dI)) (ci := 13) (v := .ref qf100) (C := RX13) (T := TX13) (N := 155) hx hb hts uV_h9_X13 hown hK hP 0 rfl rfl 100 (by decide) (hts (.fieldLink RX13 209 "ClassMillModel" "bytes" "[I") mw_h9_266) (fun _ h9 => h9) hfh_25_100 dX13_wanted_1330 ?_
          refine lv_aload_n hx hb dX13_wanted_1333 rfl (lv_at hl 1 rfl) ?_
          refine va_get (D := (dC, dI)) (ci := 13) (v := .int v136) (C := RX13) (T := TX13) (N := 155) hx hb hts uV_h9_X13 hown hK hP 0 rfl rfl 136 (by decide) (hts (.fieldLink RX13 998 "ClassMillModel" "resultAt" "I") mw_h9_615) (fun _ h9 => h9) hfh_25_136 dX13_wanted_1334 ?_
          obtain ⟨hi_274, hsp⟩ := ox_in hsp
          refine va_iald hx hb hK hP 1 0 rfl rfl (i := v136) hi_274 dX13_wanted_1337 ?_
          refine lv_bipush (v := 86) hx hb dX13_wanted_1338 (by decide) ?_
          refine lv_icmp_eq (tgt := 1362) hx hb dX13_wanted_1340 (by decide) (fun c_275 => ?_) (fun c_275 => ?_)
          · rw [if_pos c_275] at hsp
            refine lv_iconst (v := 0) hx hb dX13_wanted_1362 (by decide) ?_
            have hr0 := Option.some.inj hsp
            clear hsp
            obtain ⟨hq0, hr1⟩ := Prod.mk.inj hr0
            clear hr0
            obtain ⟨hq1, hr2⟩ := Prod.mk.inj hr1
            clear hr1
            obtain ⟨hq2, hr3⟩ := Prod.mk.inj hr2
            clear hr2
            obtain ⟨hq3, hr4⟩ := Prod.mk.inj hr3
            clear hr3
            obtain ⟨hq4, hr5⟩ := Prod.mk.inj hr4
            clear hr4
            obtain ⟨hq5, hr6⟩ := Prod.mk.inj hr5
            clear hr5
            obtain ⟨hq6, hr7⟩ := Prod.mk.inj hr6
            clear hr6
            obtain ⟨hq7, hr8⟩ := Prod.mk.inj hr7
            clear hr7
            subst hq0
            subst hq1
            subst hq2
            subst hq3
            subst hq4
            subst hq5
            subst hq6
            subst hq7
            subst hr8
            have hP9 := hP.sub (ws' := [(h0, .inr (13, z25)), (qf100, .inl (cf100, 48000, .inl f100)), (qf128, .inl (cf128, 31, .inl g128_25)), (qf127, .inl (cf127, 30, .inl g127_25)), (qf104, .inl (cf104, 8, .inl f104)), (qf102, .inl (cf102, 2048, .inl f102)), (qf118, .inl (cf118, 2100, .inl g118_25)), (qf119, .inl (cf119, 2100, .inl g119_25)), (qf105, .inl (cf105, 8, .inl f105)), (qf137, .inl (cf137, 6, .inl g137_25))]) [0, 1, 2, 3, 4, 5, 6, 7, 8, 9] rfl
            have hD9 := hD.sub (ws' := [(h0, .inr (13, z25)), (qf100, .inl (cf100, 48000, .inl f100)), (qf128, .inl (cf128, 31, .inl g128_25)), (qf127, .inl (cf127, 30, .inl g127_25)), (qf104, .inl (cf104, 8, .inl f104)), (qf102, .inl (cf102, 2048, .inl f102)), (qf118, .inl (cf118, 2100, .inl g118_25)), (qf119, .inl (cf119, 2100, .inl g119_25)), (qf105, .inl (cf105, 8, .inl f105)), (qf137, .inl (cf137, 6, .inl g137_25))]) [0, 1, 2, 3, 4, 5, 6, 7, 8, 9] (by decide) rfl
            have hK9 := hK.sub (tys' := [(cf100, .int), (cf128, .int), (cf127, .int), (cf104, .int), (cf102, .int), (cf118, .int), (cf119, .int), (cf105, .int), (cf137, .int)]) [0, 1, 2, 3, 4, 5, 6, 7, 8] rfl
            exact W.zret hx hb hr (by decide) (fun t ht hW => ⟨⟨(0), (z25), rfl, ⟨⟨rfl, Or.inl rfl⟩, hlh_25, hrh_25, hfh_25_117, hfh_25_120, hfh_25_131⟩, by rw [ht]; exact hP9, va_K.moved hW.alike hK9, hD9⟩, hS.F ht⟩) hS.2.2 dX13_wanted_1363
          · rw [if_neg c_275] at hsp
            refine lv_aload_n hx hb dX13_wanted_1343 rfl (lv_at hl 1 rfl) ?_
            refine lv_aload_n hx hb dX13_wanted_1344 rfl (lv_at hl 1 rfl) ?_
            refine lv_aload_n hx hb dX13_wanted_1345 rfl (lv_at hl 1 rfl) ?_
            refine va_get (D := (dC, dI)) (ci := 13) (v := .int v136) (C := RX13) (T := TX13) (N := 155) hx hb hts uV_h9_X13 hown hK hP 0 rfl rfl 136 (by decide) (hts (.fieldLink RX13 998 "ClassMillModel" "resultAt" "I") mw_h9_615) (fun _ h9 => h9) hfh_25_136 dX13_wanted_1346 ?_
            obtain ⟨⟨u30_0, g930_1, g930_2, u30_3, u30_4⟩, hu_30, hsp⟩ := ox_bind hsp
            try dsimp only at hsp
            have hPc := hP.sub (ws' := [(h0, .inr (13, z25)), (qf100, .inl (cf100, 48000, .inl f100)), (qf104, .inl (cf104, 8, .inl f104)), (qf102, .inl (cf102, 2048, .inl f102)), (qf118, .inl (cf118, 2100, .inl g118_25)), (qf119, .inl (cf119, 2100, .inl g119_25))]) [0, 1, 4, 5, 6, 7] rfl
            have hDc := hD.sub (ws' := [(h0, .inr (13, z25)), (qf100, .inl (cf100, 48000, .inl f100)), (qf104, .inl (cf104, 8, .inl f104)), (qf102, .inl (cf102, 2048, .inl f102)), (qf118, .inl (cf118, 2100, .inl g118_25)), (qf119, .inl (cf119, 2100, .inl g119_25))]) [0, 1, 4, 5, 6, 7] (by decide) rfl
            have hKc := hK.sub (tys' := [(cf100, .int), (cf104, .int), (cf102, .int), (cf118, .int), (cf119, .int)]) [0, 3, 4, 5, 6] rfl
            have hFc := va_free (wc := [(h0, .inr (13, z25)), (qf100, .inl (cf100, 48000, .inl f100)), (qf104, .inl (cf104, 8, .inl f104)), (qf102, .inl (cf102, 2048, .inl f102)), (qf118, .inl (cf118, 2100, .inl g118_25)), (qf119, .inl (cf119, 2100, .inl g119_25))]) hD hS hA [0, 1, 4, 5, 6, 7] rfl
            refine va_calli (va_runV (As := [.int v136]) (rest := [.ref h0]) ⟨hx, hb, hml, hown, hts⟩ (vm_typeAt l dC dI H.size h0 z25 v136 v98 qf100 qf102 qf104 x117_25 qf118 qf119 x120_25 cf100 f100 cf104 f104 cf102 f102 cf118 g118_25 cf119 g119_25 nS477 fS477 hS477 qS477 tS477 nf u30_0 g930_1 g930_2 u30_3 u30_4 hlh_25 hfh_25_98 hfh_25_100 hfh_25_102 hfh_25_104 hfh_25_117 hfh_25_118 hfh_25_119 hfh_25_120 hu_30) (cwV 1 hts gv_h9_104 rfl rfl rfl (by decide +kernel) ⟨Nat.le_of_ble_eq_true rfl, Nat.le_of_ble_eq_true rfl⟩) ⟨fun a U g mk q => by obtain ⟨q0, q1, qP, qK, qD, qhZWS477, qhZRS477⟩ := q; exact ⟨q0, q1, qP, va_K.moved (u := U) (U := U.calling g mk a) (Vm.Alike.refl U.vm) qK, qD, pz_W.moved (u := U) (U := U.calling g mk a) (Vm.Alike.refl U.vm) qhZWS477, vk_R.same rfl qhZRS477⟩, va_recv hKc hPc (ci := 13) (q0 := 0) rfl rfl, fun U hU hW => ⟨rfl, by rw [hU], by rw [hU]; exact hPc, va_K.moved hW.alike hKc, hDc.weaken (fun _ _ _ _ => trivial), by rw [hU]; exact ((pz_W.moved hW.alike hZWS477).kept hS.2.1).narrow hFc, vk_R.warm hW hZRS477⟩⟩ rfl rfl hl.1 rfl (lv_room (Nat.le_of_ble_eq_true rfl)) dX13_wanted_1349 ⟨Nat.le_of_ble_eq_true rfl, Nat.le_of_ble_eq_true rfl⟩) hS (fun q _ h => hFc q h) hFc ?_
            clear hS
            intro r_276 u t H1 locs ht hvm hw hB hz1 hk1 hS
            obtain ⟨z_30, rfl⟩ : ∃ z, z = u := ⟨_, rfl⟩
            obtain ⟨hP1, hK1, hD1⟩ := hB
            rw [ht] at hP1
            have hK1 := va_K.moved hvm.symm hK1
            try dsimp only at hw
            have hPD := va_join (wr := [(qf128, .inl (cf128, 31, .inl g128_25)), (qf127, .inl (cf127, 30, .inl g127_25)), (qf105, .inl (cf105, 8, .inl f105)), (qf137, .inl (cf137, 6, .inl g137_25))]) (w1 := [(h0, .inr (13, z_30)), (qf100, .inl (cf100, 48000, .inl f100)), (qf104, .inl (cf104, 8, .inl f104)), (qf102, .inl (cf102, 2048, .inl f102)), (qf118, .inl (cf118, 2100, .inl g930_1)), (qf119, .inl (cf119, 2100, .inl g930_2))]) hP hD [0, 1, 4, 5, 6, 7] [2, 3, 8, 9] rfl rfl (by decide) (by decide) hk1 hFc hP1 hD1
            clear hP hD
            obtain ⟨hP, hD⟩ := hPD
            replace hK := (hK.sub (tys' := [(cf128, .int), (cf127, .int), (cf105, .int), (cf137, .int)]) [1, 2, 7, 8] rfl).app hK1
            clear hPc hDc hKc hFc hP1 hK1 hD1 hz1 hk1 ht hvm
            generalize H1 = H at hP hS ⊢
            replace hP : va_P (dC, dI) vwCl [(qf128, .inl (cf128, 31, .inl g128_25)), (qf127, .inl (cf127, 30, .inl g127_25)), (qf105, .inl (cf105, 8, .inl f105)), (qf137, .inl (cf137, 6, .inl g137_25)), (h0, .inr (13, z_30)), (qf100, .inl (cf100, 48000, .inl f100)), (qf104, .inl (cf104, 8, .inl f104)), (qf102, .inl (cf102, 2048, .inl f102)), (qf118, .inl (cf118, 2100, .inl g930_1)), (qf119, .inl (cf119, 2100, .inl g930_2))] H := hP
            replace hD : va_D A [(qf128, .inl (cf128, 31, .inl g128_25)), (qf127, .inl (cf127, 30, .inl g127_25)), (qf105, .inl (cf105, 8, .inl f105)), (qf137, .inl (cf137, 6, .inl g137_25)), (h0, .inr (13, z_30)), (qf100, .inl (cf100, 48000, .inl f100)), (qf104, .inl (cf104, 8, .inl f104)), (qf102, .inl (cf102, 2048, .inl f102)), (qf118, .inl (cf118, 2100, .inl g930_1)), (qf119, .inl (cf119, 2100, .inl g930_2))] := hD
            replace hK : va_K (dC, dI) vwCl [(cf128, .int), (cf127, .int), (cf105, .int), (cf137, .int), (cf100, .int), (cf104, .int), (cf102, .int), (cf118, .int), (cf119, .int)] s := hK
            obtain ⟨hwa_30, hln_30, hre_30, hch_30_117, hch_30_120⟩ := hw
            have hfk_30_98 : z_30[98]? = some (.int v98) := (hre_30 98 (by decide) (by decide)).trans (hfh_25_98)
            have hfk_30_100 : z_30[100]? = some (.ref qf100) := (hre_30 100 (by decide) (by decide)).trans (hfh_25_100)
            have hfk_30_102 : z_30[102]? = some (.ref qf102) := (hre_30 102 (by decide) (by decide)).trans (hfh_25_102)
            have hfk_30_104 : z_30[104]? = some (.ref qf104) := (hre_30 104 (by decide) (by decide)).trans (hfh_25_104)
            have hfk_30_105 : z_30[105]? = some (.ref qf105) := (hre_30 105 (by decide) (by decide)).trans (hfh_25_105)
            have hfk_30_118 : z_30[118]? = some (.ref qf118) := (hre_30 118 (by decide) (by decide)).trans (hfh_25_118)
            have hfk_30_119 : z_30[119]? = some (.ref qf119) := (hre_30 119 (by decide) (by decide)).trans (hfh_25_119)
            have hfk_30_127 : z_30[127]? = some (.ref qf127) := (hre_30 127 (by decide) (by decide)).trans (hfh_25_127)
            have hfk_30_128 : z_30[128]? = some (.ref qf128) := (hre_30 128 (by decide) (by decide)).trans (hfh_25_128)
            have hfk_30_129 : z_30[129]? = some (.int v129) := (hre_30 129 (by decide) (by decide)).trans (hfh_25_129)
            have hfk_30_130 : z_30[130]? = some (.int v130) := (hre_30 130 (by decide) (by decide)).trans (hfh_25_130)
            have hfk_30_131 : z_30[131]? = some (.int x131_25) := (hre_30 131 (by decide) (by decide)).trans (hfh_25_131)
            have hfk_30_132 : z_30[132]? = some (.int v132) := (hre_30 132 (by decide) (by decide)).trans (hfh_25_132)
            have hfk_30_134 : z_30[134]? = some (.int v134) := (hre_30 134 (by decide) (by decide)).trans (hfh_25_134)
            have hfk_30_136 : z_30[136]? = some (.int v136) := (hre_30 136 (by decide) (by decide)).trans (hfh_25_136)
            have hfk_30_137 : z_30[137]? = some (.ref qf137) := (hre_30 137 (by decide) (by decide)).trans (hfh_25_137)
            have hrq_30 : ∀ j : Nat, j ≠ 117 → j ≠ 120 → j ≠ 131 → z_30[j]? = zs[j]? := fun j g117 g120 g131 => (hre_30 j g117 g120).trans (hrh_25 j g117 g120 g131)
            obtain rfl := hwa_30
            obtain ⟨⟨u31_0, u31_1⟩, hu_31, hsp⟩ := ox_bind hsp
            try dsimp only at hsp
            have hPc := hP.sub (ws' := [(h0, .inr (13, z_30)), (qf128, .inl (cf128, 31, .inl g128_25)), (qf105, .inl (cf105, 8, .inl f105)), (qf102, .inl (cf102, 2048, .inl f102)), (qf100, .inl (cf100, 48000, .inl f100)), (qf104, .inl (cf104, 8, .inl f104))]) [4, 0, 2, 7, 5, 6] rfl
            have hDc := hD.sub (ws' := [(h0, .inr (13, z_30)), (qf128, .inl (cf128, 31, .inl g128_25)), (qf105, .inl (cf105, 8, .inl f105)), (qf102, .inl (cf102, 2048, .inl f102)), (qf100, .inl (cf100, 48000, .inl f100)), (qf104, .inl (cf104, 8, .inl f104))]) [4, 0, 2, 7, 5, 6] (by decide) rfl
            have hKc := hK.sub (tys' := [(cf128, .int), (cf105, .int), (cf102, .int), (cf100, .int), (cf104, .int)]) [0, 2, 6, 4, 5] rfl
            have hFc := va_free (wc := [(h0, .inr (13, z_30)), (qf128, .inl (cf128, 31, .inl g128_25)), (qf105, .inl (cf105, 8, .inl f105)), (qf102, .inl (cf102, 2048, .inl f102)), (qf100, .inl (cf100, 48000, .inl f100)), (qf104, .inl (cf104, 8, .inl f104))]) hD hS hA [4, 0, 2, 7, 5, 6] rfl
            refine va_calli (va_runV (As := [.int u30_0]) (rest := []) ⟨hx, hb, hml, hown, hts⟩ (vm_pullFit l dC dI H.size h0 z_30 u30_0 v98 qf100 qf102 qf104 qf105 qf128 x131_25 cf128 g128_25 cf105 f105 cf102 f102 cf100 f100 cf104 f104 nS477 fS477 hS477 qS477 tS477 nf u31_0 u31_1 hln_30 hfk_30_98 hfk_30_100 hfk_30_102 hfk_30_104 hfk_30_105 hfk_30_128 hfk_30_131 hu_31) (cwV 1 hts gv_h9_118 rfl rfl rfl (by decide +kernel) ⟨Nat.le_of_ble_eq_true rfl, Nat.le_of_ble_eq_true rfl⟩) ⟨fun a U g mk q => by obtain ⟨q0, q1, qP, qK, qD, qhZWS477, qhZRS477⟩ := q; exact ⟨q0, q1, qP, va_K.moved (u := U) (U := U.calling g mk a) (Vm.Alike.refl U.vm) qK, qD, pz_W.moved (u := U) (U := U.calling g mk a) (Vm.Alike.refl U.vm) qhZWS477, vk_R.same rfl qhZRS477⟩, va_recv hKc hPc (ci := 13) (q0 := 0) rfl rfl, fun U hU hW => ⟨rfl, by rw [hU], by rw [hU]; exact hPc, va_K.moved hW.alike hKc, hDc.weaken (fun _ _ _ _ => trivial), by rw [hU]; exact ((pz_W.moved hW.alike hZWS477).kept hS.2.1).narrow hFc, vk_R.warm hW hZRS477⟩⟩ rfl rfl hl.1 rfl (lv_room (Nat.le_of_ble_eq_true rfl)) dX13_wanted_1352 ⟨Nat.le_of_ble_eq_true rfl, Nat.le_of_ble_eq_true rfl⟩) hS (fun q _ h => hFc q h) hFc ?_
            clear hS
            intro r_277 u t H1 locs ht hvm hw hB hz1 hk1 hS
            obtain ⟨z_31, rfl⟩ : ∃ z, z = u := ⟨_, rfl⟩
            obtain ⟨hP1, hK1, hD1⟩ := hB
            rw [ht] at hP1
            have hK1 := va_K.moved hvm.symm hK1
            try dsimp only at hw
            have hPD := va_join (wr := [(qf127, .inl (cf127, 30, .inl g127_25)), (qf137, .inl (cf137, 6, .inl g137_25)), (qf118, .inl (cf118, 2100, .inl g930_1)), (qf119, .inl (cf119, 2100, .inl g930_2))]) (w1 := [(h0, .inr (13, z_31)), (qf128, .inl (cf128, 31, .inl g128_25)), (qf105, .inl (cf105, 8, .inl f105)), (qf102, .inl (cf102, 2048, .inl f102)), (qf100, .inl (cf100, 48000, .inl f100)), (qf104, .inl (cf104, 8, .inl f104))]) hP hD [4, 0, 2, 7, 5, 6] [1, 3, 8, 9] rfl rfl (by decide) (by decide) hk1 hFc hP1 hD1
            clear hP hD
            obtain ⟨hP, hD⟩ := hPD
            replace hK := (hK.sub (tys' := [(cf127, .int), (cf137, .int), (cf118, .int), (cf119, .int)]) [1, 3, 7, 8] rfl).app hK1
            clear hPc hDc hKc hFc hP1 hK1 hD1 hz1 hk1 ht hvm
            generalize H1 = H at hP hS ⊢
            replace hP : va_P (dC, dI) vwCl [(qf127, .inl (cf127, 30, .inl g127_25)), (qf137, .inl (cf137, 6, .inl g137_25)), (qf118, .inl (cf118, 2100, .inl g930_1)), (qf119, .inl (cf119, 2100, .inl g930_2)), (h0, .inr (13, z_31)), (qf128, .inl (cf128, 31, .inl g128_25)), (qf105, .inl (cf105, 8, .inl f105)), (qf102, .inl (cf102, 2048, .inl f102)), (qf100, .inl (cf100, 48000, .inl f100)), (qf104, .inl (cf104, 8, .inl f104))] H := hP
            replace hD : va_D A [(qf127, .inl (cf127, 30, .inl g127_25)), (qf137, .inl (cf137, 6, .inl g137_25)), (qf118, .inl (cf118, 2100, .inl g930_1)), (qf119, .inl (cf119, 2100, .inl g930_2)), (h0, .inr (13, z_31)), (qf128, .inl (cf128, 31, .inl g128_25)), (qf105, .inl (cf105, 8, .inl f105)), (qf102, .inl (cf102, 2048, .inl f102)), (qf100, .inl (cf100, 48000, .inl f100)), (qf104, .inl (cf104, 8, .inl f104))] := hD
            replace hK : va_K (dC, dI) vwCl [(cf127, .int), (cf137, .int), (cf118, .int), (cf119, .int), (cf128, .int), (cf105, .int), (cf102, .int), (cf100, .int), (cf104, .int)] s := hK
            obtain ⟨hwa_31, hln_31, hre_31, hch_31_131⟩ := hw
            have hfk_31_98 : z_31[98]? = some (.int v98) := (hre_31 98 (by decide)).trans (hfk_30_98)
            have hfk_31_100 : z_31[100]? = some (.ref qf100) := (hre_31 100 (by decide)).trans (hfk_30_100)
            have hfk_31_102 : z_31[102]? = some (.ref qf102) := (hre_31 102 (by decide)).trans (hfk_30_102)
            have hfk_31_104 : z_31[104]? = some (.ref qf104) := (hre_31 104 (by decide)).trans (hfk_30_104)
            have hfk_31_105 : z_31[105]? = some (.ref qf105) := (hre_31 105 (by decide)).trans (hfk_30_105)
            have hfk_31_117 : z_31[117]? = some (.int u30_3) := (hre_31 117 (by decide)).trans (hch_30_117)
            have hfk_31_118 : z_31[118]? = some (.ref qf118) := (hre_31 118 (by decide)).trans (hfk_30_118)
            have hfk_31_119 : z_31[119]? = some (.ref qf119) := (hre_31 119 (by decide)).trans (hfk_30_119)
            have hfk_31_120 : z_31[120]? = some (.int u30_4) := (hre_31 120 (by decide)).trans (hch_30_120)
            have hfk_31_127 : z_31[127]? = some (.ref qf127) := (hre_31 127 (by decide)).trans (hfk_30_127)
            have hfk_31_128 : z_31[128]? = some (.ref qf128) := (hre_31 128 (by decide)).trans (hfk_30_128)
            have hfk_31_129 : z_31[129]? = some (.int v129) := (hre_31 129 (by decide)).trans (hfk_30_129)
            have hfk_31_130 : z_31[130]? = some (.int v130) := (hre_31 130 (by decide)).trans (hfk_30_130)
            have hfk_31_132 : z_31[132]? = some (.int v132) := (hre_31 132 (by decide)).trans (hfk_30_132)
            have hfk_31_134 : z_31[134]? = some (.int v134) := (hre_31 134 (by decide)).trans (hfk_30_134)
            have hfk_31_136 : z_31[136]? = some (.int v136) := (hre_31 136 (by decide)).trans (hfk_30_136)
            have hfk_31_137 : z_31[137]? = some (.ref qf137) := (hre_31 137 (by decide)).trans (hfk_30_137)
            have hrq_31 : ∀ j : Nat, j ≠ 117 → j ≠ 120 → j ≠ 131 → z_31[j]? = zs[j]? := fun j g117 g120 g131 => (hre_31 j g131).trans (hrq_30 j g117 g120 g131)
            obtain ⟨rfl, hz_31⟩ := hwa_31
            rcases hz_31 with rfl | rfl
            · rw [if_pos rfl] at hsp
              refine lv_if_eq (tgt := 1362) hx hb dX13_wanted_1355 (by decide) (fun c_278 => ?_) (fun c_278 => (show False by revert c_278; decide).elim)
              refine lv_iconst (v := 0) hx hb dX13_wanted_1362 (by decide) ?_
              have hr0 := Option.some.inj hsp
              clear hsp
              obtain ⟨hq0, hr1⟩ := Prod.mk.inj hr0
              clear hr0
              obtain ⟨hq1, hr2⟩ := Prod.mk.inj hr1
              clear hr1
              obtain ⟨hq2, hr3⟩ := Prod.mk.inj hr2
              clear hr2
              obtain ⟨hq3, hr4⟩ := Prod.mk.inj hr3
              clear hr3
              obtain ⟨hq4, hr5⟩ := Prod.mk.inj hr4
              clear hr4
              obtain ⟨hq5, hr6⟩ := Prod.mk.inj hr5
              clear hr5
              obtain ⟨hq6, hr7⟩ := Prod.mk.inj hr6
              clear hr6
              obtain ⟨hq7, hr8⟩ := Prod.mk.inj hr7
              clear hr7
              subst hq0
              subst hq1
              subst hq2
              subst hq3
              subst hq4
              subst hq5
              subst hq6
              subst hq7
              subst hr8
              have hP9 := hP.sub (ws' := [(h0, .inr (13, z_31)), (qf100, .inl (cf100, 48000, .inl f100)), (qf128, .inl (cf128, 31, .inl g128_25)), (qf127, .inl (cf127, 30, .inl g127_25)), (qf104, .inl (cf104, 8, .inl f104)), (qf102, .inl (cf102, 2048, .inl f102)), (qf118, .inl (cf118, 2100, .inl g930_1)), (qf119, .inl (cf119, 2100, .inl g930_2)), (qf105, .inl (cf105, 8, .inl f105)), (qf137, .inl (cf137, 6, .inl g137_25))]) [4, 8, 5, 0, 9, 7, 2, 3, 6, 1] rfl
              have hD9 := hD.sub (ws' := [(h0, .inr (13, z_31)), (qf100, .inl (cf100, 48000, .inl f100)), (qf128, .inl (cf128, 31, .inl g128_25)), (qf127, .inl (cf127, 30, .inl g127_25)), (qf104, .inl (cf104, 8, .inl f104)), (qf102, .inl (cf102, 2048, .inl f102)), (qf118, .inl (cf118, 2100, .inl g930_1)), (qf119, .inl (cf119, 2100, .inl g930_2)), (qf105, .inl (cf105, 8, .inl f105)), (qf137, .inl (cf137, 6, .inl g137_25))]) [4, 8, 5, 0, 9, 7, 2, 3, 6, 1] (by decide) rfl
              have hK9 := hK.sub (tys' := [(cf100, .int), (cf128, .int), (cf127, .int), (cf104, .int), (cf102, .int), (cf118, .int), (cf119, .int), (cf105, .int), (cf137, .int)]) [7, 4, 0, 8, 6, 2, 3, 5, 1] rfl
              exact W.zret hx hb hr (by decide) (fun t ht hW => ⟨⟨(0), (z_31), rfl, ⟨⟨rfl, Or.inl rfl⟩, hln_31, hrq_31, hfk_31_117, hfk_31_120, hch_31_131⟩, by rw [ht]; exact hP9, va_K.moved hW.alike hK9, hD9⟩, hS.F ht⟩) hS.2.2 dX13_wanted_1363
            · rw [if_neg (by decide)] at hsp
              refine lv_if_eq (tgt := 1362) hx hb dX13_wanted_1355 (by decide) (fun c_279 => (show False by revert c_279; decide).elim) (fun c_279 => ?_)
              refine lv_iconst (v := 1) hx hb dX13_wanted_1358 (by decide) ?_
              refine lv_goto (tgt := 1363) hx hb dX13_wanted_1359 (by decide) ?_
              have hr0 := Option.some.inj hsp
              clear hsp
              obtain ⟨hq0, hr1⟩ := Prod.mk.inj hr0
              clear hr0
              obtain ⟨hq1, hr2⟩ := Prod.mk.inj hr1
              clear hr1
              obtain ⟨hq2, hr3⟩ := Prod.mk.inj hr2
              clear hr2
              obtain ⟨hq3, hr4⟩ := Prod.mk.inj hr3
              clear hr3
              obtain ⟨hq4, hr5⟩ := Prod.mk.inj hr4
              clear hr4
              obtain ⟨hq5, hr6⟩ := Prod.mk.inj hr5
              clear hr5
              obtain ⟨hq6, hr7⟩ := Prod.mk.inj hr6
              clear hr6
              obtain ⟨hq7, hr8⟩ := Prod.mk.inj hr7
              clear hr7
              subst hq0
              subst hq1
              subst hq2
              subst hq3
              subst hq4
              subst hq5
              subst hq6
              subst hq7
              subst hr8
              have hP9 := hP.sub (ws' := [(h0, .inr (13, z_31)), (qf100, .inl (cf100, 48000, .inl f100)), (qf128, .inl (cf128, 31, .inl g128_25)), (qf127, .inl (cf127, 30, .inl g127_25)), (qf104, .inl (cf104, 8, .inl f104)), (qf102, .inl (cf102, 2048, .inl f102)), (qf118, .inl (cf118, 2100, .inl g930_1)), (qf119, .inl (cf119, 2100, .inl g930_2)), (qf105, .inl (cf105, 8, .inl f105)), (qf137, .inl (cf137, 6, .inl g137_25))]) [4, 8, 5, 0, 9, 7, 2, 3, 6, 1] rfl
              have hD9 := hD.sub (ws' := [(h0, .inr (13, z_31)), (qf100, .inl (cf100, 48000, .inl f100)), (qf128, .inl (cf128, 31, .inl g128_25)), (qf127, .inl (cf127, 30, .inl g127_25)), (qf104, .inl (cf104, 8, .inl f104)), (qf102, .inl (cf102, 2048, .inl f102)), (qf118, .inl (cf118, 2100, .inl g930_1)), (qf119, .inl (cf119, 2100, .inl g930_2)), (qf105, .inl (cf105, 8, .inl f105)), (qf137, .inl (cf137, 6, .inl g137_25))]) [4, 8, 5, 0, 9, 7, 2, 3, 6, 1] (by decide) rfl
              have hK9 := hK.sub (tys' := [(cf100, .int), (cf128, .int), (cf127, .int), (cf104, .int), (cf102, .int), (cf118, .int), (cf119, .int), (cf105, .int), (cf137, .int)]) [7, 4, 0, 8, 6, 2, 3, 5, 1] rfl
              exact W.zret hx hb hr (by decide) (fun t ht hW => ⟨⟨(1), (z_31), rfl, ⟨⟨rfl, Or.inr rfl⟩, hln_31, hrq_31, hfk_31_117, hfk_31_120, hch_31_131⟩, by rw [ht]; exact hP9, va_K.moved hW.alike hK9, hD9⟩, hS.F ht⟩) hS.2.2 dX13_wanted_1363
    rw [if_neg hs_269] at hsp
    by_cases hs_280 : l2_25 = 177
    · rw [if_pos hs_280] at hsp
      refine lv_tableIn (tgt := 1364) hx hb dX13_wanted_27 (by rw [hs_280]; decide) (by rw [hs_280]; decide) (off := 1337) (by rw [hs_280]; rfl) (by decide) ?_
      refine lv_aload_n hx hb dX13_wanted_1364 rfl (lv_at hl 1 rfl) ?_
      refine va_get (D := (dC, dI)) (ci := 13) (v := .ref qf100) (C := RX13) (T := TX13) (N := 155) hx hb hts uV_h9_X13 hown hK hP 0 rfl rfl 100 (by decide) (hts (.fieldLink RX13 209 "ClassMillModel" "bytes" "[I") mw_h9_266) (fun _ h9 => h9) hfh_25_100 dX13_wanted_1365 ?_
      refine lv_aload_n hx hb dX13_wanted_1368 rfl (lv_at hl 1 rfl) ?_
      refine va_get (D := (dC, dI)) (ci := 13) (v := .int v136) (C := RX13) (T := TX13) (N := 155) hx hb hts uV_h9_X13 hown hK hP 0 rfl rfl 136 (by decide) (hts (.fieldLink RX13 998 "ClassMillModel" "resultAt" "I") mw_h9_615) (fun _ h9 => h9) hfh_25_136 dX13_wanted_1369 ?_
      obtain ⟨hi_281, hsp⟩ := ox_in hsp
      refine va_iald hx hb hK hP 1 0 rfl rfl (i := v136) hi_281 dX13_wanted_1372 ?_
      refine lv_bipush (v := 86) hx hb dX13_wanted_1373 (by decide) ?_
      refine lv_icmp_ne (tgt := 1382) hx hb dX13_wanted_1375 (by decide) (fun c_282 => ?_) (fun c_282 => ?_)
      · rw [if_neg c_282] at hsp
        refine lv_iconst (v := 0) hx hb dX13_wanted_1382 (by decide) ?_
        have hr0 := Option.some.inj hsp
        clear hsp
        obtain ⟨hq0, hr1⟩ := Prod.mk.inj hr0
        clear hr0
        obtain ⟨hq1, hr2⟩ := Prod.mk.inj hr1
        clear hr1
        obtain ⟨hq2, hr3⟩ := Prod.mk.inj hr2
        clear hr2
        obtain ⟨hq3, hr4⟩ := Prod.mk.inj hr3
        clear hr3
        obtain ⟨hq4, hr5⟩ := Prod.mk.inj hr4
        clear hr4
        obtain ⟨hq5, hr6⟩ := Prod.mk.inj hr5
        clear hr5
        obtain ⟨hq6, hr7⟩ := Prod.mk.inj hr6
        clear hr6
        obtain ⟨hq7, hr8⟩ := Prod.mk.inj hr7
        clear hr7
        subst hq0
        subst hq1
        subst hq2
        subst hq3
        subst hq4
        subst hq5
        subst hq6
        subst hq7
        subst hr8
        have hP9 := hP.sub (ws' := [(h0, .inr (13, z25)), (qf100, .inl (cf100, 48000, .inl f100)), (qf128, .inl (cf128, 31, .inl g128_25)), (qf127, .inl (cf127, 30, .inl g127_25)), (qf104, .inl (cf104, 8, .inl f104)), (qf102, .inl (cf102, 2048, .inl f102)), (qf118, .inl (cf118, 2100, .inl g118_25)), (qf119, .inl (cf119, 2100, .inl g119_25)), (qf105, .inl (cf105, 8, .inl f105)), (qf137, .inl (cf137, 6, .inl g137_25))]) [0, 1, 2, 3, 4, 5, 6, 7, 8, 9] rfl
        have hD9 := hD.sub (ws' := [(h0, .inr (13, z25)), (qf100, .inl (cf100, 48000, .inl f100)), (qf128, .inl (cf128, 31, .inl g128_25)), (qf127, .inl (cf127, 30, .inl g127_25)), (qf104, .inl (cf104, 8, .inl f104)), (qf102, .inl (cf102, 2048, .inl f102)), (qf118, .inl (cf118, 2100, .inl g118_25)), (qf119, .inl (cf119, 2100, .inl g119_25)), (qf105, .inl (cf105, 8, .inl f105)), (qf137, .inl (cf137, 6, .inl g137_25))]) [0, 1, 2, 3, 4, 5, 6, 7, 8, 9] (by decide) rfl
        have hK9 := hK.sub (tys' := [(cf100, .int), (cf128, .int), (cf127, .int), (cf104, .int), (cf102, .int), (cf118, .int), (cf119, .int), (cf105, .int), (cf137, .int)]) [0, 1, 2, 3, 4, 5, 6, 7, 8] rfl
        exact W.zret hx hb hr (by decide) (fun t ht hW => ⟨⟨(0), (z25), rfl, ⟨⟨rfl, Or.inl rfl⟩, hlh_25, hrh_25, hfh_25_117, hfh_25_120, hfh_25_131⟩, by rw [ht]; exact hP9, va_K.moved hW.alike hK9, hD9⟩, hS.F ht⟩) hS.2.2 dX13_wanted_1383
      · rw [if_pos c_282] at hsp
        refine lv_iconst (v := 1) hx hb dX13_wanted_1378 (by decide) ?_
        refine lv_goto (tgt := 1383) hx hb dX13_wanted_1379 (by decide) ?_
        have hr0 := Option.some.inj hsp
        clear hsp
        obtain ⟨hq0, hr1⟩ := Prod.mk.inj hr0
        clear hr0
        obtain ⟨hq1, hr2⟩ := Prod.mk.inj hr1
        clear hr1
        obtain ⟨hq2, hr3⟩ := Prod.mk.inj hr2
        clear hr2
        obtain ⟨hq3, hr4⟩ := Prod.mk.inj hr3
        clear hr3
        obtain ⟨hq4, hr5⟩ := Prod.mk.inj hr4
        clear hr4
        obtain ⟨hq5, hr6⟩ := Prod.mk.inj hr5
        clear hr5
        obtain ⟨hq6, hr7⟩ := Prod.mk.inj hr6
        clear hr6
        obtain ⟨hq7, hr8⟩ := Prod.mk.inj hr7
        clear hr7
        subst hq0
        subst hq1
        subst hq2
        subst hq3
        subst hq4
        subst hq5
        subst hq6
        subst hq7
        subst hr8
        have hP9 := hP.sub (ws' := [(h0, .inr (13, z25)), (qf100, .inl (cf100, 48000, .inl f100)), (qf128, .inl (cf128, 31, .inl g128_25)), (qf127, .inl (cf127, 30, .inl g127_25)), (qf104, .inl (cf104, 8, .inl f104)), (qf102, .inl (cf102, 2048, .inl f102)), (qf118, .inl (cf118, 2100, .inl g118_25)), (qf119, .inl (cf119, 2100, .inl g119_25)), (qf105, .inl (cf105, 8, .inl f105)), (qf137, .inl (cf137, 6, .inl g137_25))]) [0, 1, 2, 3, 4, 5, 6, 7, 8, 9] rfl
        have hD9 := hD.sub (ws' := [(h0, .inr (13, z25)), (qf100, .inl (cf100, 48000, .inl f100)), (qf128, .inl (cf128, 31, .inl g128_25)), (qf127, .inl (cf127, 30, .inl g127_25)), (qf104, .inl (cf104, 8, .inl f104)), (qf102, .inl (cf102, 2048, .inl f102)), (qf118, .inl (cf118, 2100, .inl g118_25)), (qf119, .inl (cf119, 2100, .inl g119_25)), (qf105, .inl (cf105, 8, .inl f105)), (qf137, .inl (cf137, 6, .inl g137_25))]) [0, 1, 2, 3, 4, 5, 6, 7, 8, 9] (by decide) rfl
        have hK9 := hK.sub (tys' := [(cf100, .int), (cf128, .int), (cf127, .int), (cf104, .int), (cf102, .int), (cf118, .int), (cf119, .int), (cf105, .int), (cf137, .int)]) [0, 1, 2, 3, 4, 5, 6, 7, 8] rfl
        exact W.zret hx hb hr (by decide) (fun t ht hW => ⟨⟨(1), (z25), rfl, ⟨⟨rfl, Or.inr rfl⟩, hlh_25, hrh_25, hfh_25_117, hfh_25_120, hfh_25_131⟩, by rw [ht]; exact hP9, va_K.moved hW.alike hK9, hD9⟩, hS.F ht⟩) hS.2.2 dX13_wanted_1383
    rw [if_neg hs_280] at hsp
    by_cases hs_283 : l2_25 = 178
    · rw [if_pos hs_283] at hsp
      refine lv_tableIn (tgt := 1642) hx hb dX13_wanted_27 (by rw [hs_283]; decide) (by rw [hs_283]; decide) (off := 1615) (by rw [hs_283]; rfl) (by decide) ?_
      exact hj_1642 (H, locs, ls, z25, g118_25, g119_25, g127_25, g128_25, g137_25, x117_25, x120_25, x131_25) ⟨lv_sub hl [1] rfl, hS, hD.sub (ws' := [(h0, .inr (13, z25)), (qf100, .inl (cf100, 48000, .inl f100)), (qf128, .inl (cf128, 31, .inl g128_25)), (qf127, .inl (cf127, 30, .inl g127_25)), (qf104, .inl (cf104, 8, .inl f104)), (qf102, .inl (cf102, 2048, .inl f102)), (qf118, .inl (cf118, 2100, .inl g118_25)), (qf119, .inl (cf119, 2100, .inl g119_25)), (qf105, .inl (cf105, 8, .inl f105)), (qf137, .inl (cf137, 6, .inl g137_25))]) [0, 1, 2, 3, 4, 5, 6, 7, 8, 9] (by decide) rfl, hP.sub (ws' := [(h0, .inr (13, z25)), (qf100, .inl (cf100, 48000, .inl f100)), (qf128, .inl (cf128, 31, .inl g128_25)), (qf127, .inl (cf127, 30, .inl g127_25)), (qf104, .inl (cf104, 8, .inl f104)), (qf102, .inl (cf102, 2048, .inl f102)), (qf118, .inl (cf118, 2100, .inl g118_25)), (qf119, .inl (cf119, 2100, .inl g119_25)), (qf105, .inl (cf105, 8, .inl f105)), (qf137, .inl (cf137, 6, .inl g137_25))]) [0, 1, 2, 3, 4, 5, 6, 7, 8, 9] rfl, hfh_25_98, hfh_25_100, hfh_25_102, hfh_25_104, hfh_25_105, hfh_25_117, hfh_25_118, hfh_25_119, hfh_25_120, hfh_25_127, hfh_25_128, hfh_25_129, hfh_25_130, hfh_25_131, hfh_25_132, hfh_25_134, hfh_25_136, hfh_25_137, hlh_25, hrh_25, hsp⟩
    rw [if_neg hs_283] at hsp
    by_cases hs_284 : l2_25 = 179
    · rw [if_pos hs_284] at hsp
      refine lv_tableIn (tgt := 1642) hx hb dX13_wanted_27 (by rw [hs_284]; decide) (by rw [hs_284]; decide) (off := 1615) (by rw [hs_284]; rfl) (by decide) ?_
      exact hj_1642 (H, locs, ls, z25, g118_25, g119_25, g127_25, g128_25, g137_25, x117_25, x120_25, x131_25) ⟨lv_sub hl [1] rfl, hS, hD.sub (ws' := [(h0, .inr (13, z25)), (qf100, .inl (cf100, 48000, .inl f100)), (qf128, .inl (cf128, 31, .inl g128_25)), (qf127, .inl (cf127, 30, .inl g127_25)), (qf104, .inl (cf104, 8, .inl f104)), (qf102, .inl (cf102, 2048, .inl f102)), (qf118, .inl (cf118, 2100, .inl g118_25)), (qf119, .inl (cf119, 2100, .inl g119_25)), (qf105, .inl (cf105, 8, .inl f105)), (qf137, .inl (cf137, 6, .inl g137_25))]) [0, 1, 2, 3, 4, 5, 6, 7, 8, 9] (by decide) rfl, hP.sub (ws' := [(h0, .inr (13, z25)), (qf100, .inl (cf100, 48000, .inl f100)), (qf128, .inl (cf128, 31, .inl g128_25)), (qf127, .inl (cf127, 30, .inl g127_25)), (qf104, .inl (cf104, 8, .inl f104)), (qf102, .inl (cf102, 2048, .inl f102)), (qf118, .inl (cf118, 2100, .inl g118_25)), (qf119, .inl (cf119, 2100, .inl g119_25)), (qf105, .inl (cf105, 8, .inl f105)), (qf137, .inl (cf137, 6, .inl g137_25))]) [0, 1, 2, 3, 4, 5, 6, 7, 8, 9] rfl, hfh_25_98, hfh_25_100, hfh_25_102, hfh_25_104, hfh_25_105, hfh_25_117, hfh_25_118, hfh_25_119, hfh_25_120, hfh_25_127, hfh_25_128, hfh_25_129, hfh_25_130, hfh_25_131, hfh_25_132, hfh_25_134, hfh_25_136, hfh_25_137, hlh_25, hrh_25, hsp⟩
    rw [if_neg hs_284] at hsp
    by_cases hs_285 : l2_25 = 180
    · rw [if_pos hs_285] at hsp
      refine lv_tableIn (tgt := 1384) hx hb dX13_wanted_27 (by rw [hs_285]; decide) (by rw [hs_285]; decide) (off := 1357) (by rw [hs_285]; rfl) (by decide) ?_
      refine lv_aload_n hx hb dX13_wanted_1384 rfl (lv_at hl 1 rfl) ?_
      refine lv_aload_n hx hb dX13_wanted_1385 rfl (lv_at hl 1 rfl) ?_
      refine lv_aload_n hx hb dX13_wanted_1386 rfl (lv_at hl 1 rfl) ?_
      refine va_get (D := (dC, dI)) (ci := 13) (v := .int v132) (C := RX13) (T := TX13) (N := 155) hx hb hts uV_h9_X13 hown hK hP 0 rfl rfl 132 (by decide) (hts (.fieldLink RX13 932 "ClassMillModel" "inClass" "I") mw_h9_549) (fun _ h9 => h9) hfh_25_132 dX13_wanted_1387 ?_
      refine lv_aload_n hx hb dX13_wanted_1390 rfl (lv_at hl 1 rfl) ?_
      refine lv_iload_n hx hb dX13_wanted_1391 rfl (lv_at hl 0 rfl) ?_
      refine lv_iconst (v := 0) hx hb dX13_wanted_1392 (by decide) ?_
      obtain ⟨u32_0, hu_32, hsp⟩ := ox_bind hsp
      try dsimp only at hsp
      have hPc := hP.sub (ws' := [(h0, .inr (13, z25)), (qf102, .inl (cf102, 2048, .inl f102)), (qf100, .inl (cf100, 48000, .inl f100))]) [0, 5, 1] rfl
      have hDc := hD.sub (ws' := [(h0, .inr (13, z25)), (qf102, .inl (cf102, 2048, .inl f102)), (qf100, .inl (cf100, 48000, .inl f100))]) [0, 5, 1] (by decide) rfl
      have hKc := hK.sub (tys' := [(cf102, .int), (cf100, .int)]) [4, 0] rfl
      have hFc := va_free (wc := [(h0, .inr (13, z25)), (qf102, .inl (cf102, 2048, .inl f102)), (qf100, .inl (cf100, 48000, .inl f100))]) hD hS hA [0, 5, 1] rfl
      refine va_calli (va_runV (As := [.int s0_25, .int 0]) (rest := [.int v132, .ref h0, .ref h0]) ⟨hx, hb, hml, hown, hts⟩ (tm_partOf l dC dI H.size h0 z25 s0_25 0 qf100 qf102 v132 cf102 f102 cf100 f100 nf u32_0 hlh_25 hfh_25_100 hfh_25_102 hfh_25_132 hu_32) (cwV 2 hts gv_h9_72 rfl rfl rfl (by decide +kernel) ⟨Nat.le_of_ble_eq_true rfl, Nat.le_of_ble_eq_true rfl⟩) ⟨fun a U g mk q => by obtain ⟨q0, q1, qP, qK, qD⟩ := q; exact ⟨q0, q1, qP, va_K.moved (u := U) (U := U.calling g mk a) (Vm.Alike.refl U.vm) qK, qD⟩, va_recv hKc hPc (ci := 13) (q0 := 0) rfl rfl, fun U hU hW => ⟨rfl, by rw [hU], by rw [hU]; exact hPc, va_K.moved hW.alike hKc, hDc.weaken (fun _ _ _ _ => trivial)⟩⟩ rfl rfl hl.1 rfl (lv_room (Nat.le_of_ble_eq_true rfl)) dX13_wanted_1393 ⟨Nat.le_of_ble_eq_true rfl, Nat.le_of_ble_eq_true rfl⟩) hS (fun q _ h => hFc q h) hFc ?_
      clear hS
      intro r_286 u t H1 locs ht hvm hw hB hz1 hk1 hS
      obtain ⟨z_32, rfl⟩ : ∃ z, z = u := ⟨_, rfl⟩
      obtain ⟨hP1, hK1, hD1⟩ := hB
      rw [ht] at hP1
      have hK1 := va_K.moved hvm.symm hK1
      try dsimp only at hw
      have hPD := va_join (wr := [(qf128, .inl (cf128, 31, .inl g128_25)), (qf127, .inl (cf127, 30, .inl g127_25)), (qf104, .inl (cf104, 8, .inl f104)), (qf118, .inl (cf118, 2100, .inl g118_25)), (qf119, .inl (cf119, 2100, .inl g119_25)), (qf105, .inl (cf105, 8, .inl f105)), (qf137, .inl (cf137, 6, .inl g137_25))]) (w1 := [(h0, .inr (13, z_32)), (qf102, .inl (cf102, 2048, .inl f102)), (qf100, .inl (cf100, 48000, .inl f100))]) hP hD [0, 5, 1] [2, 3, 4, 6, 7, 8, 9] rfl rfl (by decide) (by decide) hk1 hFc hP1 hD1
      clear hP hD
      obtain ⟨hP, hD⟩ := hPD
      replace hK := (hK.sub (tys' := [(cf128, .int), (cf127, .int), (cf104, .int), (cf118, .int), (cf119, .int), (cf105, .int), (cf137, .int)]) [1, 2, 3, 5, 6, 7, 8] rfl).app hK1
      clear hPc hDc hKc hFc hP1 hK1 hD1 hz1 hk1 ht hvm
      generalize H1 = H at hP hS ⊢
      replace hP : va_P (dC, dI) vwCl [(qf128, .inl (cf128, 31, .inl g128_25)), (qf127, .inl (cf127, 30, .inl g127_25)), (qf104, .inl (cf104, 8, .inl f104)), (qf118, .inl (cf118, 2100, .inl g118_25)), (qf119, .inl (cf119, 2100, .inl g119_25)), (qf105, .inl (cf105, 8, .inl f105)), (qf137, .inl (cf137, 6, .inl g137_25)), (h0, .inr (13, z_32)), (qf102, .inl (cf102, 2048, .inl f102)), (qf100, .inl (cf100, 48000, .inl f100))] H := hP
      replace hD : va_D A [(qf128, .inl (cf128, 31, .inl g128_25)), (qf127, .inl (cf127, 30, .inl g127_25)), (qf104, .inl (cf104, 8, .inl f104)), (qf118, .inl (cf118, 2100, .inl g118_25)), (qf119, .inl (cf119, 2100, .inl g119_25)), (qf105, .inl (cf105, 8, .inl f105)), (qf137, .inl (cf137, 6, .inl g137_25)), (h0, .inr (13, z_32)), (qf102, .inl (cf102, 2048, .inl f102)), (qf100, .inl (cf100, 48000, .inl f100))] := hD
      replace hK : va_K (dC, dI) vwCl [(cf128, .int), (cf127, .int), (cf104, .int), (cf118, .int), (cf119, .int), (cf105, .int), (cf137, .int), (cf102, .int), (cf100, .int)] s := hK
      obtain ⟨hwa_32, hln_32, hre_32⟩ := hw
      have hfk_32_98 : z_32[98]? = some (.int v98) := (hre_32 98 ).trans (hfh_25_98)
      have hfk_32_100 : z_32[100]? = some (.ref qf100) := (hre_32 100 ).trans (hfh_25_100)
      have hfk_32_102 : z_32[102]? = some (.ref qf102) := (hre_32 102 ).trans (hfh_25_102)
      have hfk_32_104 : z_32[104]? = some (.ref qf104) := (hre_32 104 ).trans (hfh_25_104)
      have hfk_32_105 : z_32[105]? = some (.ref qf105) := (hre_32 105 ).trans (hfh_25_105)
      have hfk_32_117 : z_32[117]? = some (.int x117_25) := (hre_32 117 ).trans (hfh_25_117)
      have hfk_32_118 : z_32[118]? = some (.ref qf118) := (hre_32 118 ).trans (hfh_25_118)
      have hfk_32_119 : z_32[119]? = some (.ref qf119) := (hre_32 119 ).trans (hfh_25_119)
      have hfk_32_120 : z_32[120]? = some (.int x120_25) := (hre_32 120 ).trans (hfh_25_120)
      have hfk_32_127 : z_32[127]? = some (.ref qf127) := (hre_32 127 ).trans (hfh_25_127)
      have hfk_32_128 : z_32[128]? = some (.ref qf128) := (hre_32 128 ).trans (hfh_25_128)
      have hfk_32_129 : z_32[129]? = some (.int v129) := (hre_32 129 ).trans (hfh_25_129)
      have hfk_32_130 : z_32[130]? = some (.int v130) := (hre_32 130 ).trans (hfh_25_130)
      have hfk_32_131 : z_32[131]? = some (.int x131_25) := (hre_32 131 ).trans (hfh_25_131)
      have hfk_32_132 : z_32[132]? = some (.int v132) := (hre_32 132 ).trans (hfh_25_132)
      have hfk_32_134 : z_32[134]? = some (.int v134) := (hre_32 134 ).trans (hfh_25_134)
      have hfk_32_136 : z_32[136]? = some (.int v136) := (hre_32 136 ).trans (hfh_25_136)
      have hfk_32_137 : z_32[137]? = some (.ref qf137) := (hre_32 137 ).trans (hfh_25_137)
      have hrq_32 : ∀ j : Nat, j ≠ 117 → j ≠ 120 → j ≠ 131 → z_32[j]? = zs[j]? := fun j g117 g120 g131 => (hre_32 j ).trans (hrh_25 j g117 g120 g131)
      obtain rfl := hwa_32
      obtain ⟨⟨u33_0, g933_1, g933_2, u33_3, u33_4⟩, hu_33, hsp⟩ := ox_bind hsp
      try dsimp only at hsp
      have hPc := hP.sub (ws' := [(h0, .inr (13, z_32)), (qf102, .inl (cf102, 2048, .inl f102)), (qf100, .inl (cf100, 48000, .inl f100)), (qf104, .inl (cf104, 8, .inl f104)), (qf118, .inl (cf118, 2100, .inl g118_25)), (qf119, .inl (cf119, 2100, .inl g119_25))]) [7, 8, 9, 2, 3, 4] rfl
      have hDc := hD.sub (ws' := [(h0, .inr (13, z_32)), (qf102, .inl (cf102, 2048, .inl f102)), (qf100, .inl (cf100, 48000, .inl f100)), (qf104, .inl (cf104, 8, .inl f104)), (qf118, .inl (cf118, 2100, .inl g118_25)), (qf119, .inl (cf119, 2100, .inl g119_25))]) [7, 8, 9, 2, 3, 4] (by decide) rfl
      have hKc := hK.sub (tys' := [(cf102, .int), (cf100, .int), (cf104, .int), (cf118, .int), (cf119, .int)]) [7, 8, 2, 3, 4] rfl
      have hFc := va_free (wc := [(h0, .inr (13, z_32)), (qf102, .inl (cf102, 2048, .inl f102)), (qf100, .inl (cf100, 48000, .inl f100)), (qf104, .inl (cf104, 8, .inl f104)), (qf118, .inl (cf118, 2100, .inl g118_25)), (qf119, .inl (cf119, 2100, .inl g119_25))]) hD hS hA [7, 8, 9, 2, 3, 4] rfl
      refine va_calli (va_runV (As := [.int v132, .int u32_0]) (rest := [.ref h0]) ⟨hx, hb, hml, hown, hts⟩ (vm_typeOfClass l dC dI H.size h0 z_32 v132 u32_0 v98 qf100 qf102 qf104 x117_25 qf118 qf119 x120_25 cf102 f102 cf100 f100 cf104 f104 cf118 g118_25 cf119 g119_25 nS477 fS477 hS477 qS477 tS477 nf u33_0 g933_1 g933_2 u33_3 u33_4 hln_32 hfk_32_98 hfk_32_100 hfk_32_102 hfk_32_104 hfk_32_117 hfk_32_118 hfk_32_119 hfk_32_120 hu_33) (cwV 2 hts gv_h9_112 rfl rfl rfl (by decide +kernel) ⟨Nat.le_of_ble_eq_true rfl, Nat.le_of_ble_eq_true rfl⟩) ⟨fun a U g mk q => by obtain ⟨q0, q1, qP, qK, qD, qhZWS477, qhZRS477⟩ := q; exact ⟨q0, q1, qP, va_K.moved (u := U) (U := U.calling g mk a) (Vm.Alike.refl U.vm) qK, qD, pz_W.moved (u := U) (U := U.calling g mk a) (Vm.Alike.refl U.vm) qhZWS477, vk_R.same rfl qhZRS477⟩, va_recv hKc hPc (ci := 13) (q0 := 0) rfl rfl, fun U hU hW => ⟨rfl, by rw [hU], by rw [hU]; exact hPc, va_K.moved hW.alike hKc, hDc.weaken (fun _ _ _ _ => trivial), by rw [hU]; exact ((pz_W.moved hW.alike hZWS477).kept hS.2.1).narrow hFc, vk_R.warm hW hZRS477⟩⟩ rfl rfl hl.1 rfl (lv_room (Nat.le_of_ble_eq_true rfl)) dX13_wanted_1396 ⟨Nat.le_of_ble_eq_true rfl, Nat.le_of_ble_eq_true rfl⟩) hS (fun q _ h => hFc q h) hFc ?_
      clear hS
      intro r_287 u t H1 locs ht hvm hw hB hz1 hk1 hS
      obtain ⟨z_33, rfl⟩ : ∃ z, z = u := ⟨_, rfl⟩
      obtain ⟨hP1, hK1, hD1⟩ := hB
      rw [ht] at hP1
      have hK1 := va_K.moved hvm.symm hK1
      try dsimp only at hw
      have hPD := va_join (wr := [(qf128, .inl (cf128, 31, .inl g128_25)), (qf127, .inl (cf127, 30, .inl g127_25)), (qf105, .inl (cf105, 8, .inl f105)), (qf137, .inl (cf137, 6, .inl g137_25))]) (w1 := [(h0, .inr (13, z_33)), (qf102, .inl (cf102, 2048, .inl f102)), (qf100, .inl (cf100, 48000, .inl f100)), (qf104, .inl (cf104, 8, .inl f104)), (qf118, .inl (cf118, 2100, .inl g933_1)), (qf119, .inl (cf119, 2100, .inl g933_2))]) hP hD [7, 8, 9, 2, 3, 4] [0, 1, 5, 6] rfl rfl (by decide) (by decide) hk1 hFc hP1 hD1
      clear hP hD
      obtain ⟨hP, hD⟩ := hPD
      replace hK := (hK.sub (tys' := [(cf128, .int), (cf127, .int), (cf105, .int), (cf137, .int)]) [0, 1, 5, 6] rfl).app hK1
      clear hPc hDc hKc hFc hP1 hK1 hD1 hz1 hk1 ht hvm
      generalize H1 = H at hP hS ⊢
      replace hP : va_P (dC, dI) vwCl [(qf128, .inl (cf128, 31, .inl g128_25)), (qf127, .inl (cf127, 30, .inl g127_25)), (qf105, .inl (cf105, 8, .inl f105)), (qf137, .inl (cf137, 6, .inl g137_25)), (h0, .inr (13, z_33)), (qf102, .inl (cf102, 2048, .inl f102)), (qf100, .inl (cf100, 48000, .inl f100)), (qf104, .inl (cf104, 8, .inl f104)), (qf118, .inl (cf118, 2100, .inl g933_1)), (qf119, .inl (cf119, 2100, .inl g933_2))] H := hP
      replace hD : va_D A [(qf128, .inl (cf128, 31, .inl g128_25)), (qf127, .inl (cf127, 30, .inl g127_25)), (qf105, .inl (cf105, 8, .inl f105)), (qf137, .inl (cf137, 6, .inl g137_25)), (h0, .inr (13, z_33)), (qf102, .inl (cf102, 2048, .inl f102)), (qf100, .inl (cf100, 48000, .inl f100)), (qf104, .inl (cf104, 8, .inl f104)), (qf118, .inl (cf118, 2100, .inl g933_1)), (qf119, .inl (cf119, 2100, .inl g933_2))] := hD
      replace hK : va_K (dC, dI) vwCl [(cf128, .int), (cf127, .int), (cf105, .int), (cf137, .int), (cf102, .int), (cf100, .int), (cf104, .int), (cf118, .int), (cf119, .int)] s := hK
      obtain ⟨hwa_33, hln_33, hre_33, hch_33_117, hch_33_120⟩ := hw
      have hfk_33_98 : z_33[98]? = some (.int v98) := (hre_33 98 (by decide) (by decide)).trans (hfk_32_98)
      have hfk_33_100 : z_33[100]? = some (.ref qf100) := (hre_33 100 (by decide) (by decide)).trans (hfk_32_100)
      have hfk_33_102 : z_33[102]? = some (.ref qf102) := (hre_33 102 (by decide) (by decide)).trans (hfk_32_102)
      have hfk_33_104 : z_33[104]? = some (.ref qf104) := (hre_33 104 (by decide) (by decide)).trans (hfk_32_104)
      have hfk_33_105 : z_33[105]? = some (.ref qf105) := (hre_33 105 (by decide) (by decide)).trans (hfk_32_105)
      have hfk_33_118 : z_33[118]? = some (.ref qf118) := (hre_33 118 (by decide) (by decide)).trans (hfk_32_118)
      have hfk_33_119 : z_33[119]? = some (.ref qf119) := (hre_33 119 (by decide) (by decide)).trans (hfk_32_119)
      have hfk_33_127 : z_33[127]? = some (.ref qf127) := (hre_33 127 (by decide) (by decide)).trans (hfk_32_127)
      have hfk_33_128 : z_33[128]? = some (.ref qf128) := (hre_33 128 (by decide) (by decide)).trans (hfk_32_128)
      have hfk_33_129 : z_33[129]? = some (.int v129) := (hre_33 129 (by decide) (by decide)).trans (hfk_32_129)
      have hfk_33_130 : z_33[130]? = some (.int v130) := (hre_33 130 (by decide) (by decide)).trans (hfk_32_130)
      have hfk_33_131 : z_33[131]? = some (.int x131_25) := (hre_33 131 (by decide) (by decide)).trans (hfk_32_131)
      have hfk_33_132 : z_33[132]? = some (.int v132) := (hre_33 132 (by decide) (by decide)).trans (hfk_32_132)
      have hfk_33_134 : z_33[134]? = some (.int v134) := (hre_33 134 (by decide) (by decide)).trans (hfk_32_134)
      have hfk_33_136 : z_33[136]? = some (.int v136) := (hre_33 136 (by decide) (by decide)).trans (hfk_32_136)
      have hfk_33_137 : z_33[137]? = some (.ref qf137) := (hre_33 137 (by decide) (by decide)).trans (hfk_32_137)
      have hrq_33 : ∀ j : Nat, j ≠ 117 → j ≠ 120 → j ≠ 131 → z_33[j]? = zs[j]? := fun j g117 g120 g131 => (hre_33 j g117 g120).trans (hrq_32 j g117 g120 g131)
      obtain rfl := hwa_33
      obtain ⟨⟨u34_0, u34_1⟩, hu_34, hsp⟩ := ox_bind hsp
      try dsimp only at hsp
      have hPc := hP.sub (ws' := [(h0, .inr (13, z_33)), (qf128, .inl (cf128, 31, .inl g128_25)), (qf105, .inl (cf105, 8, .inl f105)), (qf102, .inl (cf102, 2048, .inl f102)), (qf100, .inl (cf100, 48000, .inl f100)), (qf104, .inl (cf104, 8, .inl f104))]) [4, 0, 2, 5, 6, 7] rfl
      have hDc := hD.sub (ws' := [(h0, .inr (13, z_33)), (qf128, .inl (cf128, 31, .inl g128_25)), (qf105, .inl (cf105, 8, .inl f105)), (qf102, .inl (cf102, 2048, .inl f102)), (qf100, .inl (cf100, 48000, .inl f100)), (qf104, .inl (cf104, 8, .inl f104))]) [4, 0, 2, 5, 6, 7] (by decide) rfl
      have hKc := hK.sub (tys' := [(cf128, .int), (cf105, .int), (cf102, .int), (cf100, .int), (cf104, .int)]) [0, 2, 4, 5, 6] rfl
      have hFc := va_free (wc := [(h0, .inr (13, z_33)), (qf128, .inl (cf128, 31, .inl g128_25)), (qf105, .inl (cf105, 8, .inl f105)), (qf102, .inl (cf102, 2048, .inl f102)), (qf100, .inl (cf100, 48000, .inl f100)), (qf104, .inl (cf104, 8, .inl f104))]) hD hS hA [4, 0, 2, 5, 6, 7] rfl
      refine va_calli (va_runV (As := [.int u33_0]) (rest := []) ⟨hx, hb, hml, hown, hts⟩ (vm_pullFit l dC dI H.size h0 z_33 u33_0 v98 qf100 qf102 qf104 qf105 qf128 x131_25 cf128 g128_25 cf105 f105 cf102 f102 cf100 f100 cf104 f104 nS477 fS477 hS477 qS477 tS477 nf u34_0 u34_1 hln_33 hfk_33_98 hfk_33_100 hfk_33_102 hfk_33_104 hfk_33_105 hfk_33_128 hfk_33_131 hu_34) (cwV 1 hts gv_h9_118 rfl rfl rfl (by decide +kernel) ⟨Nat.le_of_ble_eq_true rfl, Nat.le_of_ble_eq_true rfl⟩) ⟨fun a U g mk q => by obtain ⟨q0, q1, qP, qK, qD, qhZWS477, qhZRS477⟩ := q; exact ⟨q0, q1, qP, va_K.moved (u := U) (U := U.calling g mk a) (Vm.Alike.refl U.vm) qK, qD, pz_W.moved (u := U) (U := U.calling g mk a) (Vm.Alike.refl U.vm) qhZWS477, vk_R.same rfl qhZRS477⟩, va_recv hKc hPc (ci := 13) (q0 := 0) rfl rfl, fun U hU hW => ⟨rfl, by rw [hU], by rw [hU]; exact hPc, va_K.moved hW.alike hKc, hDc.weaken (fun _ _ _ _ => trivial), by rw [hU]; exact ((pz_W.moved hW.alike hZWS477).kept hS.2.1).narrow hFc, vk_R.warm hW hZRS477⟩⟩ rfl rfl hl.1 rfl (lv_room (Nat.le_of_ble_eq_true rfl)) dX13_wanted_1399 ⟨Nat.le_of_ble_eq_true rfl, Nat.le_of_ble_eq_true rfl⟩) hS (fun q _ h => hFc q h) hFc ?_
      clear hS
      intro r_288 u t H1 locs ht hvm hw hB hz1 hk1 hS
      obtain ⟨z_34, rfl⟩ : ∃ z, z = u := ⟨_, rfl⟩
      obtain ⟨hP1, hK1, hD1⟩ := hB
      rw [ht] at hP1
      have hK1 := va_K.moved hvm.symm hK1
      try dsimp only at hw
      have hPD := va_join (wr := [(qf127, .inl (cf127, 30, .inl g127_25)), (qf137, .inl (cf137, 6, .inl g137_25)), (qf118, .inl (cf118, 2100, .inl g933_1)), (qf119, .inl (cf119, 2100, .inl g933_2))]) (w1 := [(h0, .inr (13, z_34)), (qf128, .inl (cf128, 31, .inl g128_25)), (qf105, .inl (cf105, 8, .inl f105)), (qf102, .inl (cf102, 2048, .inl f102)), (qf100, .inl (cf100, 48000, .inl f100)), (qf104, .inl (cf104, 8, .inl f104))]) hP hD [4, 0, 2, 5, 6, 7] [1, 3, 8, 9] rfl rfl (by decide) (by decide) hk1 hFc hP1 hD1
      clear hP hD
      obtain ⟨hP, hD⟩ := hPD
      replace hK := (hK.sub (tys' := [(cf127, .int), (cf137, .int), (cf118, .int), (cf119, .int)]) [1, 3, 7, 8] rfl).app hK1
      clear hPc hDc hKc hFc hP1 hK1 hD1 hz1 hk1 ht hvm
      generalize H1 = H at hP hS ⊢
      replace hP : va_P (dC, dI) vwCl [(qf127, .inl (cf127, 30, .inl g127_25)), (qf137, .inl (cf137, 6, .inl g137_25)), (qf118, .inl (cf118, 2100, .inl g933_1)), (qf119, .inl (cf119, 2100, .inl g933_2)), (h0, .inr (13, z_34)), (qf128, .inl (cf128, 31, .inl g128_25)), (qf105, .inl (cf105, 8, .inl f105)), (qf102, .inl (cf102, 2048, .inl f102)), (qf100, .inl (cf100, 48000, .inl f100)), (qf104, .inl (cf104, 8, .inl f104))] H := hP
      replace hD : va_D A [(qf127, .inl (cf127, 30, .inl g127_25)), (qf137, .inl (cf137, 6, .inl g137_25)), (qf118, .inl (cf118, 2100, .inl g933_1)), (qf119, .inl (cf119, 2100, .inl g933_2)), (h0, .inr (13, z_34)), (qf128, .inl (cf128, 31, .inl g128_25)), (qf105, .inl (cf105, 8, .inl f105)), (qf102, .inl (cf102, 2048, .inl f102)), (qf100, .inl (cf100, 48000, .inl f100)), (qf104, .inl (cf104, 8, .inl f104))] := hD
      replace hK : va_K (dC, dI) vwCl [(cf127, .int), (cf137, .int), (cf118, .int), (cf119, .int), (cf128, .int), (cf105, .int), (cf102, .int), (cf100, .int), (cf104, .int)] s := hK
      obtain ⟨hwa_34, hln_34, hre_34, hch_34_131⟩ := hw
      have hfk_34_98 : z_34[98]? = some (.int v98) := (hre_34 98 (by decide)).trans (hfk_33_98)
      have hfk_34_100 : z_34[100]? = some (.ref qf100) := (hre_34 100 (by decide)).trans (hfk_33_100)
      have hfk_34_102 : z_34[102]? = some (.ref qf102) := (hre_34 102 (by decide)).trans (hfk_33_102)
      have hfk_34_104 : z_34[104]? = some (.ref qf104) := (hre_34 104 (by decide)).trans (hfk_33_104)
      have hfk_34_105 : z_34[105]? = some (.ref qf105) := (hre_34 105 (by decide)).trans (hfk_33_105)
      have hfk_34_117 : z_34[117]? = some (.int u33_3) := (hre_34 117 (by decide)).trans (hch_33_117)
      have hfk_34_118 : z_34[118]? = some (.ref qf118) := (hre_34 118 (by decide)).trans (hfk_33_118)
      have hfk_34_119 : z_34[119]? = some (.ref qf119) := (hre_34 119 (by decide)).trans (hfk_33_119)
      have hfk_34_120 : z_34[120]? = some (.int u33_4) := (hre_34 120 (by decide)).trans (hch_33_120)
      have hfk_34_127 : z_34[127]? = some (.ref qf127) := (hre_34 127 (by decide)).trans (hfk_33_127)
      have hfk_34_128 : z_34[128]? = some (.ref qf128) := (hre_34 128 (by decide)).trans (hfk_33_128)
      have hfk_34_129 : z_34[129]? = some (.int v129) := (hre_34 129 (by decide)).trans (hfk_33_129)
      have hfk_34_130 : z_34[130]? = some (.int v130) := (hre_34 130 (by decide)).trans (hfk_33_130)
      have hfk_34_132 : z_34[132]? = some (.int v132) := (hre_34 132 (by decide)).trans (hfk_33_132)
      have hfk_34_134 : z_34[134]? = some (.int v134) := (hre_34 134 (by decide)).trans (hfk_33_134)
      have hfk_34_136 : z_34[136]? = some (.int v136) := (hre_34 136 (by decide)).trans (hfk_33_136)
      have hfk_34_137 : z_34[137]? = some (.ref qf137) := (hre_34 137 (by decide)).trans (hfk_33_137)
      have hrq_34 : ∀ j : Nat, j ≠ 117 → j ≠ 120 → j ≠ 131 → z_34[j]? = zs[j]? := fun j g117 g120 g131 => (hre_34 j g131).trans (hrq_33 j g117 g120 g131)
      obtain ⟨rfl, hz_34⟩ := hwa_34
      rcases hz_34 with rfl | rfl
      · rw [if_pos rfl] at hsp
        refine lv_if_eq (tgt := 1430) hx hb dX13_wanted_1402 (by decide) (fun c_289 => ?_) (fun c_289 => (show False by revert c_289; decide).elim)
        refine lv_iconst (v := 0) hx hb dX13_wanted_1430 (by decide) ?_
        have hr0 := Option.some.inj hsp
        clear hsp
        obtain ⟨hq0, hr1⟩ := Prod.mk.inj hr0
        clear hr0
        obtain ⟨hq1, hr2⟩ := Prod.mk.inj hr1
        clear hr1
        obtain ⟨hq2, hr3⟩ := Prod.mk.inj hr2
        clear hr2
        obtain ⟨hq3, hr4⟩ := Prod.mk.inj hr3
        clear hr3
        obtain ⟨hq4, hr5⟩ := Prod.mk.inj hr4
        clear hr4
        obtain ⟨hq5, hr6⟩ := Prod.mk.inj hr5
        clear hr5
        obtain ⟨hq6, hr7⟩ := Prod.mk.inj hr6
        clear hr6
        obtain ⟨hq7, hr8⟩ := Prod.mk.inj hr7
        clear hr7
        subst hq0
        subst hq1
        subst hq2
        subst hq3
        subst hq4
        subst hq5
        subst hq6
        subst hq7
        subst hr8
        have hP9 := hP.sub (ws' := [(h0, .inr (13, z_34)), (qf100, .inl (cf100, 48000, .inl f100)), (qf128, .inl (cf128, 31, .inl g128_25)), (qf127, .inl (cf127, 30, .inl g127_25)), (qf104, .inl (cf104, 8, .inl f104)), (qf102, .inl (cf102, 2048, .inl f102)), (qf118, .inl (cf118, 2100, .inl g933_1)), (qf119, .inl (cf119, 2100, .inl g933_2)), (qf105, .inl (cf105, 8, .inl f105)), (qf137, .inl (cf137, 6, .inl g137_25))]) [4, 8, 5, 0, 9, 7, 2, 3, 6, 1] rfl
        have hD9 := hD.sub (ws' := [(h0, .inr (13, z_34)), (qf100, .inl (cf100, 48000, .inl f100)), (qf128, .inl (cf128, 31, .inl g128_25)), (qf127, .inl (cf127, 30, .inl g127_25)), (qf104, .inl (cf104, 8, .inl f104)), (qf102, .inl (cf102, 2048, .inl f102)), (qf118, .inl (cf118, 2100, .inl g933_1)), (qf119, .inl (cf119, 2100, .inl g933_2)), (qf105, .inl (cf105, 8, .inl f105)), (qf137, .inl (cf137, 6, .inl g137_25))]) [4, 8, 5, 0, 9, 7, 2, 3, 6, 1] (by decide) rfl
        have hK9 := hK.sub (tys' := [(cf100, .int), (cf128, .int), (cf127, .int), (cf104, .int), (cf102, .int), (cf118, .int), (cf119, .int), (cf105, .int), (cf137, .int)]) [7, 4, 0, 8, 6, 2, 3, 5, 1] rfl
        exact W.zret hx hb hr (by decide) (fun t ht hW => ⟨⟨(0), (z_34), rfl, ⟨⟨rfl, Or.inl rfl⟩, hln_34, hrq_34, hfk_34_117, hfk_34_120, hch_34_131⟩, by rw [ht]; exact hP9, va_K.moved hW.alike hK9, hD9⟩, hS.F ht⟩) hS.2.2 dX13_wanted_1431
      · rw [if_neg (by decide)] at hsp
        refine lv_if_eq (tgt := 1430) hx hb dX13_wanted_1402 (by decide) (fun c_290 => (show False by revert c_290; decide).elim) (fun c_290 => ?_)
        refine lv_aload_n hx hb dX13_wanted_1405 rfl (lv_at hl 1 rfl) ?_
        refine lv_aload_n hx hb dX13_wanted_1406 rfl (lv_at hl 1 rfl) ?_
        refine lv_aload_n hx hb dX13_wanted_1407 rfl (lv_at hl 1 rfl) ?_
        refine va_get (D := (dC, dI)) (ci := 13) (v := .int v132) (C := RX13) (T := TX13) (N := 155) hx hb hts uV_h9_X13 hown hK hP 4 rfl rfl 132 (by decide) (hts (.fieldLink RX13 932 "ClassMillModel" "inClass" "I") mw_h9_549) (fun _ h9 => h9) hfk_34_132 dX13_wanted_1408 ?_
        refine lv_aload_n hx hb dX13_wanted_1411 rfl (lv_at hl 1 rfl) ?_
        refine lv_iload_n hx hb dX13_wanted_1412 rfl (lv_at hl 0 rfl) ?_
        refine lv_iconst (v := 2) hx hb dX13_wanted_1413 (by decide) ?_
        obtain ⟨u35_0, hu_35, hsp⟩ := ox_bind hsp
        try dsimp only at hsp
        have hPc := hP.sub (ws' := [(h0, .inr (13, z_34)), (qf102, .inl (cf102, 2048, .inl f102)), (qf100, .inl (cf100, 48000, .inl f100))]) [4, 7, 8] rfl
        have hDc := hD.sub (ws' := [(h0, .inr (13, z_34)), (qf102, .inl (cf102, 2048, .inl f102)), (qf100, .inl (cf100, 48000, .inl f100))]) [4, 7, 8] (by decide) rfl
        have hKc := hK.sub (tys' := [(cf102, .int), (cf100, .int)]) [6, 7] rfl
        have hFc := va_free (wc := [(h0, .inr (13, z_34)), (qf102, .inl (cf102, 2048, .inl f102)), (qf100, .inl (cf100, 48000, .inl f100))]) hD hS hA [4, 7, 8] rfl
        refine va_calli (va_runV (As := [.int s0_25, .int 2]) (rest := [.int v132, .ref h0, .ref h0]) ⟨hx, hb, hml, hown, hts⟩ (tm_partOf l dC dI H.size h0 z_34 s0_25 2 qf100 qf102 v132 cf102 f102 cf100 f100 nf u35_0 hln_34 hfk_34_100 hfk_34_102 hfk_34_132 hu_35) (cwV 2 hts gv_h9_72 rfl rfl rfl (by decide +kernel) ⟨Nat.le_of_ble_eq_true rfl, Nat.le_of_ble_eq_true rfl⟩) ⟨fun a U g mk q => by obtain ⟨q0, q1, qP, qK, qD⟩ := q; exact ⟨q0, q1, qP, va_K.moved (u := U) (U := U.calling g mk a) (Vm.Alike.refl U.vm) qK, qD⟩, va_recv hKc hPc (ci := 13) (q0 := 0) rfl rfl, fun U hU hW => ⟨rfl, by rw [hU], by rw [hU]; exact hPc, va_K.moved hW.alike hKc, hDc.weaken (fun _ _ _ _ => trivial)⟩⟩ rfl rfl hl.1 rfl (lv_room (Nat.le_of_ble_eq_true rfl)) dX13_wanted_1414 ⟨Nat.le_of_ble_eq_true rfl, Nat.le_of_ble_eq_true rfl⟩) hS (fun q _ h => hFc q h) hFc ?_
        clear hS
        intro r_291 u t H1 locs ht hvm hw hB hz1 hk1 hS
        obtain ⟨z_35, rfl⟩ : ∃ z, z = u := ⟨_, rfl⟩
        obtain ⟨hP1, hK1, hD1⟩ := hB
        rw [ht] at hP1
        have hK1 := va_K.moved hvm.symm hK1
        try dsimp only at hw
        have hPD := va_join (wr := [(qf127, .inl (cf127, 30, .inl g127_25)), (qf137, .inl (cf137, 6, .inl g137_25)), (qf118, .inl (cf118, 2100, .inl g933_1)), (qf119, .inl (cf119, 2100, .inl g933_2)), (qf128, .inl (cf128, 31, .inl g128_25)), (qf105, .inl (cf105, 8, .inl f105)), (qf104, .inl (cf104, 8, .inl f104))]) (w1 := [(h0, .inr (13, z_35)), (qf102, .inl (cf102, 2048, .inl f102)), (qf100, .inl (cf100, 48000, .inl f100))]) hP hD [4, 7, 8] [0, 1, 2, 3, 5, 6, 9] rfl rfl (by decide) (by decide) hk1 hFc hP1 hD1
        clear hP hD
        obtain ⟨hP, hD⟩ := hPD
        replace hK := (hK.sub (tys' := [(cf127, .int), (cf137, .int), (cf118, .int), (cf119, .int), (cf128, .int), (cf105, .int), (cf104, .int)]) [0, 1, 2, 3, 4, 5, 8] rfl).app hK1
        clear hPc hDc hKc hFc hP1 hK1 hD1 hz1 hk1 ht hvm
        generalize H1 = H at hP hS ⊢
        replace hP : va_P (dC, dI) vwCl [(qf127, .inl (cf127, 30, .inl g127_25)), (qf137, .inl (cf137, 6, .inl g137_25)), (qf118, .inl (cf118, 2100, .inl g933_1)), (qf119, .inl (cf119, 2100, .inl g933_2)), (qf128, .inl (cf128, 31, .inl g128_25)), (qf105, .inl (cf105, 8, .inl f105)), (qf104, .inl (cf104, 8, .inl f104)), (h0, .inr (13, z_35)), (qf102, .inl (cf102, 2048, .inl f102)), (qf100, .inl (cf100, 48000, .inl f100))] H := hP
        replace hD : va_D A [(qf127, .inl (cf127, 30, .inl g127_25)), (qf137, .inl (cf137, 6, .inl g137_25)), (qf118, .inl (cf118, 2100, .inl g933_1)), (qf119, .inl (cf119, 2100, .inl g933_2)), (qf128, .inl (cf128, 31, .inl g128_25)), (qf105, .inl (cf105, 8, .inl f105)), (qf104, .inl (cf104, 8, .inl f104)), (h0, .inr (13, z_35)), (qf102, .inl (cf102, 2048, .inl f102)), (qf100, .inl (cf100, 48000, .inl f100))] := hD
        replace hK : va_K (dC, dI) vwCl [(cf127, .int), (cf137, .int), (cf118, .int), (cf119, .int), (cf128, .int), (cf105, .int), (cf104, .int), (cf102, .int), (cf100, .int)] s := hK
        obtain ⟨hwa_35, hln_35, hre_35⟩ := hw
        have hfk_35_98 : z_35[98]? = some (.int v98) := (hre_35 98 ).trans (hfk_34_98)
        have hfk_35_100 : z_35[100]? = some (.ref qf100) := (hre_35 100 ).trans (hfk_34_100)
        have hfk_35_102 : z_35[102]? = some (.ref qf102) := (hre_35 102 ).trans (hfk_34_102)
        have hfk_35_104 : z_35[104]? = some (.ref qf104) := (hre_35 104 ).trans (hfk_34_104)
        have hfk_35_105 : z_35[105]? = some (.ref qf105) := (hre_35 105 ).trans (hfk_34_105)
        have hfk_35_117 : z_35[117]? = some (.int u33_3) := (hre_35 117 ).trans (hfk_34_117)
        have hfk_35_118 : z_35[118]? = some (.ref qf118) := (hre_35 118 ).trans (hfk_34_118)
        have hfk_35_119 : z_35[119]? = some (.ref qf119) := (hre_35 119 ).trans (hfk_34_119)
        have hfk_35_120 : z_35[120]? = some (.int u33_4) := (hre_35 120 ).trans (hfk_34_120)
        have hfk_35_127 : z_35[127]? = some (.ref qf127) := (hre_35 127 ).trans (hfk_34_127)
        have hfk_35_128 : z_35[128]? = some (.ref qf128) := (hre_35 128 ).trans (hfk_34_128)
        have hfk_35_129 : z_35[129]? = some (.int v129) := (hre_35 129 ).trans (hfk_34_129)
        have hfk_35_130 : z_35[130]? = some (.int v130) := (hre_35 130 ).trans (hfk_34_130)
        have hfk_35_131 : z_35[131]? = some (.int u34_1) := (hre_35 131 ).trans (hch_34_131)
        have hfk_35_132 : z_35[132]? = some (.int v132) := (hre_35 132 ).trans (hfk_34_132)
        have hfk_35_134 : z_35[134]? = some (.int v134) := (hre_35 134 ).trans (hfk_34_134)
        have hfk_35_136 : z_35[136]? = some (.int v136) := (hre_35 136 ).trans (hfk_34_136)
        have hfk_35_137 : z_35[137]? = some (.ref qf137) := (hre_35 137 ).trans (hfk_34_137)
        have hrq_35 : ∀ j : Nat, j ≠ 117 → j ≠ 120 → j ≠ 131 → z_35[j]? = zs[j]? := fun j g117 g120 g131 => (hre_35 j ).trans (hrq_34 j g117 g120 g131)
        obtain rfl := hwa_35
        obtain ⟨⟨u36_0, g936_1, g936_2, u36_3, u36_4⟩, hu_36, hsp⟩ := ox_bind hsp
        try dsimp only at hsp
        have hPc := hP.sub (ws' := [(h0, .inr (13, z_35)), (qf102, .inl (cf102, 2048, .inl f102)), (qf100, .inl (cf100, 48000, .inl f100)), (qf104, .inl (cf104, 8, .inl f104)), (qf118, .inl (cf118, 2100, .inl g933_1)), (qf119, .inl (cf119, 2100, .inl g933_2))]) [7, 8, 9, 6, 2, 3] rfl
        have hDc := hD.sub (ws' := [(h0, .inr (13, z_35)), (qf102, .inl (cf102, 2048, .inl f102)), (qf100, .inl (cf100, 48000, .inl f100)), (qf104, .inl (cf104, 8, .inl f104)), (qf118, .inl (cf118, 2100, .inl g933_1)), (qf119, .inl (cf119, 2100, .inl g933_2))]) [7, 8, 9, 6, 2, 3] (by decide) rfl
        have hKc := hK.sub (tys' := [(cf102, .int), (cf100, .int), (cf104, .int), (cf118, .int), (cf119, .int)]) [7, 8, 6, 2, 3] rfl
        have hFc := va_free (wc := [(h0, .inr (13, z_35)), (qf102, .inl (cf102, 2048, .inl f102)), (qf100, .inl (cf100, 48000, .inl f100)), (qf104, .inl (cf104, 8, .inl f104)), (qf118, .inl (cf118, 2100, .inl g933_1)), (qf119, .inl (cf119, 2100, .inl g933_2))]) hD hS hA [7, 8, 9, 6, 2, 3] rfl
        refine va_calli (va_runV (As := [.int v132, .int u35_0]) (rest := [.ref h0]) ⟨hx, hb, hml, hown, hts⟩ (vm_kindType l dC dI H.size h0 z_35 v132 u35_0 v98 qf100 qf102 qf104 u33_3 qf118 qf119 u33_4 cf102 f102 cf100 f100 cf104 f104 cf118 g933_1 cf119 g933_2 nS477 fS477 hS477 qS477 tS477 nf u36_0 g936_1 g936_2 u36_3 u36_4 hln_35 hfk_35_98 hfk_35_100 hfk_35_102 hfk_35_104 hfk_35_117 hfk_35_118 hfk_35_119 hfk_35_120 hu_36) (cwV 2 hts gv_h9_107 rfl rfl rfl (by decide +kernel) ⟨Nat.le_of_ble_eq_true rfl, Nat.le_of_ble_eq_true rfl⟩) ⟨fun a U g mk q => by obtain ⟨q0, q1, qP, qK, qD, qhZWS477, qhZRS477⟩ := q; exact ⟨q0, q1, qP, va_K.moved (u := U) (U := U.calling g mk a) (Vm.Alike.refl U.vm) qK, qD, pz_W.moved (u := U) (U := U.calling g mk a) (Vm.Alike.refl U.vm) qhZWS477, vk_R.same rfl qhZRS477⟩, va_recv hKc hPc (ci := 13) (q0 := 0) rfl rfl, fun U hU hW => ⟨rfl, by rw [hU], by rw [hU]; exact hPc, va_K.moved hW.alike hKc, hDc.weaken (fun _ _ _ _ => trivial), by rw [hU]; exact ((pz_W.moved hW.alike hZWS477).kept hS.2.1).narrow hFc, vk_R.warm hW hZRS477⟩⟩ rfl rfl hl.1 rfl (lv_room (Nat.le_of_ble_eq_true rfl)) dX13_wanted_1417 ⟨Nat.le_of_ble_eq_true rfl, Nat.le_of_ble_eq_true rfl⟩) hS (fun q _ h => hFc q h) hFc ?_
        clear hS
        intro r_292 u t H1 locs ht hvm hw hB hz1 hk1 hS
        obtain ⟨z_36, rfl⟩ : ∃ z, z = u := ⟨_, rfl⟩
        obtain ⟨hP1, hK1, hD1⟩ := hB
        rw [ht] at hP1
        have hK1 := va_K.moved hvm.symm hK1
        try dsimp only at hw
        have hPD := va_join (wr := [(qf127, .inl (cf127, 30, .inl g127_25)), (qf137, .inl (cf137, 6, .inl g137_25)), (qf128, .inl (cf128, 31, .inl g128_25)), (qf105, .inl (cf105, 8, .inl f105))]) (w1 := [(h0, .inr (13, z_36)), (qf102, .inl (cf102, 2048, .inl f102)), (qf100, .inl (cf100, 48000, .inl f100)), (qf104, .inl (cf104, 8, .inl f104)), (qf118, .inl (cf118, 2100, .inl g936_1)), (qf119, .inl (cf119, 2100, .inl g936_2))]) hP hD [7, 8, 9, 6, 2, 3] [0, 1, 4, 5] rfl rfl (by decide) (by decide) hk1 hFc hP1 hD1
        clear hP hD
        obtain ⟨hP, hD⟩ := hPD
        replace hK := (hK.sub (tys' := [(cf127, .int), (cf137, .int), (cf128, .int), (cf105, .int)]) [0, 1, 4, 5] rfl).app hK1
        clear hPc hDc hKc hFc hP1 hK1 hD1 hz1 hk1 ht hvm
        generalize H1 = H at hP hS ⊢
        replace hP : va_P (dC, dI) vwCl [(qf127, .inl (cf127, 30, .inl g127_25)), (qf137, .inl (cf137, 6, .inl g137_25)), (qf128, .inl (cf128, 31, .inl g128_25)), (qf105, .inl (cf105, 8, .inl f105)), (h0, .inr (13, z_36)), (qf102, .inl (cf102, 2048, .inl f102)), (qf100, .inl (cf100, 48000, .inl f100)), (qf104, .inl (cf104, 8, .inl f104)), (qf118, .inl (cf118, 2100, .inl g936_1)), (qf119, .inl (cf119, 2100, .inl g936_2))] H := hP
        replace hD : va_D A [(qf127, .inl (cf127, 30, .inl g127_25)), (qf137, .inl (cf137, 6, .inl g137_25)), (qf128, .inl (cf128, 31, .inl g128_25)), (qf105, .inl (cf105, 8, .inl f105)), (h0, .inr (13, z_36)), (qf102, .inl (cf102, 2048, .inl f102)), (qf100, .inl (cf100, 48000, .inl f100)), (qf104, .inl (cf104, 8, .inl f104)), (qf118, .inl (cf118, 2100, .inl g936_1)), (qf119, .inl (cf119, 2100, .inl g936_2))] := hD
        replace hK : va_K (dC, dI) vwCl [(cf127, .int), (cf137, .int), (cf128, .int), (cf105, .int), (cf102, .int), (cf100, .int), (cf104, .int), (cf118, .int), (cf119, .int)] s := hK
        obtain ⟨hwa_36, hln_36, hre_36, hch_36_117, hch_36_120⟩ := hw
        have hfk_36_98 : z_36[98]? = some (.int v98) := (hre_36 98 (by decide) (by decide)).trans (hfk_35_98)
        have hfk_36_100 : z_36[100]? = some (.ref qf100) := (hre_36 100 (by decide) (by decide)).trans (hfk_35_100)
        have hfk_36_102 : z_36[102]? = some (.ref qf102) := (hre_36 102 (by decide) (by decide)).trans (hfk_35_102)
        have hfk_36_104 : z_36[104]? = some (.ref qf104) := (hre_36 104 (by decide) (by decide)).trans (hfk_35_104)
        have hfk_36_105 : z_36[105]? = some (.ref qf105) := (hre_36 105 (by decide) (by decide)).trans (hfk_35_105)
        have hfk_36_118 : z_36[118]? = some (.ref qf118) := (hre_36 118 (by decide) (by decide)).trans (hfk_35_118)
        have hfk_36_119 : z_36[119]? = some (.ref qf119) := (hre_36 119 (by decide) (by decide)).trans (hfk_35_119)
        have hfk_36_127 : z_36[127]? = some (.ref qf127) := (hre_36 127 (by decide) (by decide)).trans (hfk_35_127)
        have hfk_36_128 : z_36[128]? = some (.ref qf128) := (hre_36 128 (by decide) (by decide)).trans (hfk_35_128)
        have hfk_36_129 : z_36[129]? = some (.int v129) := (hre_36 129 (by decide) (by decide)).trans (hfk_35_129)
        have hfk_36_130 : z_36[130]? = some (.int v130) := (hre_36 130 (by decide) (by decide)).trans (hfk_35_130)
        have hfk_36_131 : z_36[131]? = some (.int u34_1) := (hre_36 131 (by decide) (by decide)).trans (hfk_35_131)
        have hfk_36_132 : z_36[132]? = some (.int v132) := (hre_36 132 (by decide) (by decide)).trans (hfk_35_132)
        have hfk_36_134 : z_36[134]? = some (.int v134) := (hre_36 134 (by decide) (by decide)).trans (hfk_35_134)
        have hfk_36_136 : z_36[136]? = some (.int v136) := (hre_36 136 (by decide) (by decide)).trans (hfk_35_136)
        have hfk_36_137 : z_36[137]? = some (.ref qf137) := (hre_36 137 (by decide) (by decide)).trans (hfk_35_137)
        have hrq_36 : ∀ j : Nat, j ≠ 117 → j ≠ 120 → j ≠ 131 → z_36[j]? = zs[j]? := fun j g117 g120 g131 => (hre_36 j g117 g120).trans (hrq_35 j g117 g120 g131)
        obtain rfl := hwa_36
        obtain ⟨⟨u37_0, g937_1, u37_2⟩, hu_37, hsp⟩ := ox_bind hsp
        try dsimp only at hsp
        have hPc := hP.sub (ws' := [(h0, .inr (13, z_36)), (qf128, .inl (cf128, 31, .inl g128_25))]) [4, 2] rfl
        have hDc := hD.sub (ws' := [(h0, .inr (13, z_36)), (qf128, .inl (cf128, 31, .inl g128_25))]) [4, 2] (by decide) rfl
        have hKc := hK.sub (tys' := [(cf128, .int)]) [2] rfl
        have hFc := va_free (wc := [(h0, .inr (13, z_36)), (qf128, .inl (cf128, 31, .inl g128_25))]) hD hS hA [4, 2] rfl
        refine va_calli (va_runV (As := [.int u36_0]) (rest := []) ⟨hx, hb, hml, hown, hts⟩ (tm_comesBack l dC dI H.size h0 z_36 u36_0 qf128 v130 u34_1 cf128 g128_25 nf u37_0 g937_1 u37_2 hln_36 hfk_36_128 hfk_36_130 hfk_36_131 hu_37) (cwV 1 hts gv_h9_69 rfl rfl rfl (by decide +kernel) ⟨Nat.le_of_ble_eq_true rfl, Nat.le_of_ble_eq_true rfl⟩) ⟨fun a U g mk q => by obtain ⟨q0, q1, qP, qK, qD⟩ := q; exact ⟨q0, q1, qP, va_K.moved (u := U) (U := U.calling g mk a) (Vm.Alike.refl U.vm) qK, qD⟩, va_recv hKc hPc (ci := 13) (q0 := 0) rfl rfl, fun U hU hW => ⟨rfl, by rw [hU], by rw [hU]; exact hPc, va_K.moved hW.alike hKc, hDc.weaken (fun _ _ _ _ => trivial)⟩⟩ rfl rfl hl.1 rfl (lv_room (Nat.le_of_ble_eq_true rfl)) dX13_wanted_1420 ⟨Nat.le_of_ble_eq_true rfl, Nat.le_of_ble_eq_true rfl⟩) hS (fun q _ h => hFc q h) hFc ?_
        clear hS
        intro r_293 u t H1 locs ht hvm hw hB hz1 hk1 hS
        obtain ⟨z_37, rfl⟩ : ∃ z, z = u := ⟨_, rfl⟩
        obtain ⟨hP1, hK1, hD1⟩ := hB
        rw [ht] at hP1
        have hK1 := va_K.moved hvm.symm hK1
        try dsimp only at hw
        have hPD := va_join (wr := [(qf127, .inl (cf127, 30, .inl g127_25)), (qf137, .inl (cf137, 6, .inl g137_25)), (qf105, .inl (cf105, 8, .inl f105)), (qf102, .inl (cf102, 2048, .inl f102)), (qf100, .inl (cf100, 48000, .inl f100)), (qf104, .inl (cf104, 8, .inl f104)), (qf118, .inl (cf118, 2100, .inl g936_1)), (qf119, .inl (cf119, 2100, .inl g936_2))]) (w1 := [(h0, .inr (13, z_37)), (qf128, .inl (cf128, 31, .inl g937_1))]) hP hD [4, 2] [0, 1, 3, 5, 6, 7, 8, 9] rfl rfl (by decide) (by decide) hk1 hFc hP1 hD1
        clear hP hD
        obtain ⟨hP, hD⟩ := hPD
        replace hK := (hK.sub (tys' := [(cf127, .int), (cf137, .int), (cf105, .int), (cf102, .int), (cf100, .int), (cf104, .int), (cf118, .int), (cf119, .int)]) [0, 1, 3, 4, 5, 6, 7, 8] rfl).app hK1
        clear hPc hDc hKc hFc hP1 hK1 hD1 hz1 hk1 ht hvm
        generalize H1 = H at hP hS ⊢
        replace hP : va_P (dC, dI) vwCl [(qf127, .inl (cf127, 30, .inl g127_25)), (qf137, .inl (cf137, 6, .inl g137_25)), (qf105, .inl (cf105, 8, .inl f105)), (qf102, .inl (cf102, 2048, .inl f102)), (qf100, .inl (cf100, 48000, .inl f100)), (qf104, .inl (cf104, 8, .inl f104)), (qf118, .inl (cf118, 2100, .inl g936_1)), (qf119, .inl (cf119, 2100, .inl g936_2)), (h0, .inr (13, z_37)), (qf128, .inl (cf128, 31, .inl g937_1))] H := hP
        replace hD : va_D A [(qf127, .inl (cf127, 30, .inl g127_25)), (qf137, .inl (cf137, 6, .inl g137_25)), (qf105, .inl (cf105, 8, .inl f105)), (qf102, .inl (cf102, 2048, .inl f102)), (qf100, .inl (cf100, 48000, .inl f100)), (qf104, .inl (cf104, 8, .inl f104)), (qf118, .inl (cf118, 2100, .inl g936_1)), (qf119, .inl (cf119, 2100, .inl g936_2)), (h0, .inr (13, z_37)), (qf128, .inl (cf128, 31, .inl g937_1))] := hD
        replace hK : va_K (dC, dI) vwCl [(cf127, .int), (cf137, .int), (cf105, .int), (cf102, .int), (cf100, .int), (cf104, .int), (cf118, .int), (cf119, .int), (cf128, .int)] s := hK
        obtain ⟨hwa_37, hln_37, hre_37, hch_37_131⟩ := hw
        have hfk_37_98 : z_37[98]? = some (.int v98) := (hre_37 98 (by decide)).trans (hfk_36_98)
        have hfk_37_100 : z_37[100]? = some (.ref qf100) := (hre_37 100 (by decide)).trans (hfk_36_100)
        have hfk_37_102 : z_37[102]? = some (.ref qf102) := (hre_37 102 (by decide)).trans (hfk_36_102)
        have hfk_37_104 : z_37[104]? = some (.ref qf104) := (hre_37 104 (by decide)).trans (hfk_36_104)
        have hfk_37_105 : z_37[105]? = some (.ref qf105) := (hre_37 105 (by decide)).trans (hfk_36_105)
        have hfk_37_117 : z_37[117]? = some (.int u36_3) := (hre_37 117 (by decide)).trans (hch_36_117)
        have hfk_37_118 : z_37[118]? = some (.ref qf118) := (hre_37 118 (by decide)).trans (hfk_36_118)
        have hfk_37_119 : z_37[119]? = some (.ref qf119) := (hre_37 119 (by decide)).trans (hfk_36_119)
        have hfk_37_120 : z_37[120]? = some (.int u36_4) := (hre_37 120 (by decide)).trans (hch_36_120)
        have hfk_37_127 : z_37[127]? = some (.ref qf127) := (hre_37 127 (by decide)).trans (hfk_36_127)
        have hfk_37_128 : z_37[128]? = some (.ref qf128) := (hre_37 128 (by decide)).trans (hfk_36_128)
        have hfk_37_129 : z_37[129]? = some (.int v129) := (hre_37 129 (by decide)).trans (hfk_36_129)
        have hfk_37_130 : z_37[130]? = some (.int v130) := (hre_37 130 (by decide)).trans (hfk_36_130)
        have hfk_37_132 : z_37[132]? = some (.int v132) := (hre_37 132 (by decide)).trans (hfk_36_132)
        have hfk_37_134 : z_37[134]? = some (.int v134) := (hre_37 134 (by decide)).trans (hfk_36_134)
        have hfk_37_136 : z_37[136]? = some (.int v136) := (hre_37 136 (by decide)).trans (hfk_36_136)
        have hfk_37_137 : z_37[137]? = some (.ref qf137) := (hre_37 137 (by decide)).trans (hfk_36_137)
        have hrq_37 : ∀ j : Nat, j ≠ 117 → j ≠ 120 → j ≠ 131 → z_37[j]? = zs[j]? := fun j g117 g120 g131 => (hre_37 j g131).trans (hrq_36 j g117 g120 g131)
        obtain ⟨rfl, hz_37⟩ := hwa_37
        rcases hz_37 with rfl | rfl
        · rw [if_pos rfl] at hsp
          refine lv_if_eq (tgt := 1430) hx hb dX13_wanted_1423 (by decide) (fun c_294 => ?_) (fun c_294 => (show False by revert c_294; decide).elim)
          refine lv_iconst (v := 0) hx hb dX13_wanted_1430 (by decide) ?_
          have hr0 := Option.some.inj hsp
          clear hsp
          obtain ⟨hq0, hr1⟩ := Prod.mk.inj hr0
          clear hr0
          obtain ⟨hq1, hr2⟩ := Prod.mk.inj hr1
          clear hr1
          obtain ⟨hq2, hr3⟩ := Prod.mk.inj hr2
          clear hr2
          obtain ⟨hq3, hr4⟩ := Prod.mk.inj hr3
          clear hr3
          obtain ⟨hq4, hr5⟩ := Prod.mk.inj hr4
          clear hr4
          obtain ⟨hq5, hr6⟩ := Prod.mk.inj hr5
          clear hr5
          obtain ⟨hq6, hr7⟩ := Prod.mk.inj hr6
          clear hr6
          obtain ⟨hq7, hr8⟩ := Prod.mk.inj hr7
          clear hr7
          subst hq0
          subst hq1
          subst hq2
          subst hq3
          subst hq4
          subst hq5
          subst hq6
          subst hq7
          subst hr8
          have hP9 := hP.sub (ws' := [(h0, .inr (13, z_37)), (qf100, .inl (cf100, 48000, .inl f100)), (qf128, .inl (cf128, 31, .inl g937_1)), (qf127, .inl (cf127, 30, .inl g127_25)), (qf104, .inl (cf104, 8, .inl f104)), (qf102, .inl (cf102, 2048, .inl f102)), (qf118, .inl (cf118, 2100, .inl g936_1)), (qf119, .inl (cf119, 2100, .inl g936_2)), (qf105, .inl (cf105, 8, .inl f105)), (qf137, .inl (cf137, 6, .inl g137_25))]) [8, 4, 9, 0, 5, 3, 6, 7, 2, 1] rfl
          have hD9 := hD.sub (ws' := [(h0, .inr (13, z_37)), (qf100, .inl (cf100, 48000, .inl f100)), (qf128, .inl (cf128, 31, .inl g937_1)), (qf127, .inl (cf127, 30, .inl g127_25)), (qf104, .inl (cf104, 8, .inl f104)), (qf102, .inl (cf102, 2048, .inl f102)), (qf118, .inl (cf118, 2100, .inl g936_1)), (qf119, .inl (cf119, 2100, .inl g936_2)), (qf105, .inl (cf105, 8, .inl f105)), (qf137, .inl (cf137, 6, .inl g137_25))]) [8, 4, 9, 0, 5, 3, 6, 7, 2, 1] (by decide) rfl
          have hK9 := hK.sub (tys' := [(cf100, .int), (cf128, .int), (cf127, .int), (cf104, .int), (cf102, .int), (cf118, .int), (cf119, .int), (cf105, .int), (cf137, .int)]) [4, 8, 0, 5, 3, 6, 7, 2, 1] rfl
          exact W.zret hx hb hr (by decide) (fun t ht hW => ⟨⟨(0), (z_37), rfl, ⟨⟨rfl, Or.inl rfl⟩, hln_37, hrq_37, hfk_37_117, hfk_37_120, hch_37_131⟩, by rw [ht]; exact hP9, va_K.moved hW.alike hK9, hD9⟩, hS.F ht⟩) hS.2.2 dX13_wanted_1431
        · rw [if_neg (by decide)] at hsp
          refine lv_if_eq (tgt := 1430) hx hb dX13_wanted_1423 (by decide) (fun c_295 => (show False by revert c_295; decide).elim) (fun c_295 => ?_)
          refine lv_iconst (v := 1) hx hb dX13_wanted_1426 (by decide) ?_
          refine lv_goto (tgt := 1431) hx hb dX13_wanted_1427 (by decide) ?_
          have hr0 := Option.some.inj hsp
          clear hsp
          obtain ⟨hq0, hr1⟩ := Prod.mk.inj hr0
          clear hr0
          obtain ⟨hq1, hr2⟩ := Prod.mk.inj hr1
          clear hr1
          obtain ⟨hq2, hr3⟩ := Prod.mk.inj hr2
          clear hr2
          obtain ⟨hq3, hr4⟩ := Prod.mk.inj hr3
          clear hr3
          obtain ⟨hq4, hr5⟩ := Prod.mk.inj hr4
          clear hr4
          obtain ⟨hq5, hr6⟩ := Prod.mk.inj hr5
          clear hr5
          obtain ⟨hq6, hr7⟩ := Prod.mk.inj hr6
          clear hr6
          obtain ⟨hq7, hr8⟩ := Prod.mk.inj hr7
          clear hr7
          subst hq0
          subst hq1
          subst hq2
          subst hq3
          subst hq4
          subst hq5
          subst hq6
          subst hq7
          subst hr8
          have hP9 := hP.sub (ws' := [(h0, .inr (13, z_37)), (qf100, .inl (cf100, 48000, .inl f100)), (qf128, .inl (cf128, 31, .inl g937_1)), (qf127, .inl (cf127, 30, .inl g127_25)), (qf104, .inl (cf104, 8, .inl f104)), (qf102, .inl (cf102, 2048, .inl f102)), (qf118, .inl (cf118, 2100, .inl g936_1)), (qf119, .inl (cf119, 2100, .inl g936_2)), (qf105, .inl (cf105, 8, .inl f105)), (qf137, .inl (cf137, 6, .inl g137_25))]) [8, 4, 9, 0, 5, 3, 6, 7, 2, 1] rfl
          have hD9 := hD.sub (ws' := [(h0, .inr (13, z_37)), (qf100, .inl (cf100, 48000, .inl f100)), (qf128, .inl (cf128, 31, .inl g937_1)), (qf127, .inl (cf127, 30, .inl g127_25)), (qf104, .inl (cf104, 8, .inl f104)), (qf102, .inl (cf102, 2048, .inl f102)), (qf118, .inl (cf118, 2100, .inl g936_1)), (qf119, .inl (cf119, 2100, .inl g936_2)), (qf105, .inl (cf105, 8, .inl f105)), (qf137, .inl (cf137, 6, .inl g137_25))]) [8, 4, 9, 0, 5, 3, 6, 7, 2, 1] (by decide) rfl
          have hK9 := hK.sub (tys' := [(cf100, .int), (cf128, .int), (cf127, .int), (cf104, .int), (cf102, .int), (cf118, .int), (cf119, .int), (cf105, .int), (cf137, .int)]) [4, 8, 0, 5, 3, 6, 7, 2, 1] rfl
          exact W.zret hx hb hr (by decide) (fun t ht hW => ⟨⟨(1), (z_37), rfl, ⟨⟨rfl, Or.inr rfl⟩, hln_37, hrq_37, hfk_37_117, hfk_37_120, hch_37_131⟩, by rw [ht]; exact hP9, va_K.moved hW.alike hK9, hD9⟩, hS.F ht⟩) hS.2.2 dX13_wanted_1431
    rw [if_neg hs_285] at hsp
    by_cases hs_296 : l2_25 = 181
    · rw [if_pos hs_296] at hsp
      refine lv_tableIn (tgt := 1432) hx hb dX13_wanted_27 (by rw [hs_296]; decide) (by rw [hs_296]; decide) (off := 1405) (by rw [hs_296]; rfl) (by decide) ?_
      refine lv_aload_n hx hb dX13_wanted_1432 rfl (lv_at hl 1 rfl) ?_
      refine lv_aload_n hx hb dX13_wanted_1433 rfl (lv_at hl 1 rfl) ?_
      refine lv_aload_n hx hb dX13_wanted_1434 rfl (lv_at hl 1 rfl) ?_
      refine va_get (D := (dC, dI)) (ci := 13) (v := .int v132) (C := RX13) (T := TX13) (N := 155) hx hb hts uV_h9_X13 hown hK hP 0 rfl rfl 132 (by decide) (hts (.fieldLink RX13 932 "ClassMillModel" "inClass" "I") mw_h9_549) (fun _ h9 => h9) hfh_25_132 dX13_wanted_1435 ?_
      refine lv_aload_n hx hb dX13_wanted_1438 rfl (lv_at hl 1 rfl) ?_
      refine lv_iload_n hx hb dX13_wanted_1439 rfl (lv_at hl 0 rfl) ?_
      refine lv_iconst (v := 2) hx hb dX13_wanted_1440 (by decide) ?_
      obtain ⟨u38_0, hu_38, hsp⟩ := ox_bind hsp
      try dsimp only at hsp
      have hPc := hP.sub (ws' := [(h0, .inr (13, z25)), (qf102, .inl (cf102, 2048, .inl f102)), (qf100, .inl (cf100, 48000, .inl f100))]) [0, 5, 1] rfl
      have hDc := hD.sub (ws' := [(h0, .inr (13, z25)), (qf102, .inl (cf102, 2048, .inl f102)), (qf100, .inl (cf100, 48000, .inl f100))]) [0, 5, 1] (by decide) rfl
      have hKc := hK.sub (tys' := [(cf102, .int), (cf100, .int)]) [4, 0] rfl
      have hFc := va_free (wc := [(h0, .inr (13, z25)), (qf102, .inl (cf102, 2048, .inl f102)), (qf100, .inl (cf100, 48000, .inl f100))]) hD hS hA [0, 5, 1] rfl
      refine va_calli (va_runV (As := [.int s0_25, .int 2]) (rest := [.int v132, .ref h0, .ref h0]) ⟨hx, hb, hml, hown, hts⟩ (tm_partOf l dC dI H.size h0 z25 s0_25 2 qf100 qf102 v132 cf102 f102 cf100 f100 nf u38_0 hlh_25 hfh_25_100 hfh_25_102 hfh_25_132 hu_38) (cwV 2 hts gv_h9_72 rfl rfl rfl (by decide +kernel) ⟨Nat.le_of_ble_eq_true rfl, Nat.le_of_ble_eq_true rfl⟩) ⟨fun a U g mk q => by obtain ⟨q0, q1, qP, qK, qD⟩ := q; exact ⟨q0, q1, qP, va_K.moved (u := U) (U := U.calling g mk a) (Vm.Alike.refl U.vm) qK, qD⟩, va_recv hKc hPc (ci := 13) (q0 := 0) rfl rfl, fun U hU hW => ⟨rfl, by rw [hU], by rw [hU]; exact hPc, va_K.moved hW.alike hKc, hDc.weaken (fun _ _ _ _ => trivial)⟩⟩ rfl rfl hl.1 rfl (lv_room (Nat.le_of_ble_eq_true rfl)) dX13_wanted_1441 ⟨Nat.le_of_ble_eq_true rfl, Nat.le_of_ble_eq_true rfl⟩) hS (fun q _ h => hFc q h) hFc ?_
      clear hS
      intro r_297 u t H1 locs ht hvm hw hB hz1 hk1 hS
      obtain ⟨z_38, rfl⟩ : ∃ z, z = u := ⟨_, rfl⟩
      obtain ⟨hP1, hK1, hD1⟩ := hB
      rw [ht] at hP1
      have hK1 := va_K.moved hvm.symm hK1
      try dsimp only at hw
      have hPD := va_join (wr := [(qf128, .inl (cf128, 31, .inl g128_25)), (qf127, .inl (cf127, 30, .inl g127_25)), (qf104, .inl (cf104, 8, .inl f104)), (qf118, .inl (cf118, 2100, .inl g118_25)), (qf119, .inl (cf119, 2100, .inl g119_25)), (qf105, .inl (cf105, 8, .inl f105)), (qf137, .inl (cf137, 6, .inl g137_25))]) (w1 := [(h0, .inr (13, z_38)), (qf102, .inl (cf102, 2048, .inl f102)), (qf100, .inl (cf100, 48000, .inl f100))]) hP hD [0, 5, 1] [2, 3, 4, 6, 7, 8, 9] rfl rfl (by decide) (by decide) hk1 hFc hP1 hD1
      clear hP hD
      obtain ⟨hP, hD⟩ := hPD
      replace hK := (hK.sub (tys' := [(cf128, .int), (cf127, .int), (cf104, .int), (cf118, .int), (cf119, .int), (cf105, .int), (cf137, .int)]) [1, 2, 3, 5, 6, 7, 8] rfl).app hK1
      clear hPc hDc hKc hFc hP1 hK1 hD1 hz1 hk1 ht hvm
      generalize H1 = H at hP hS ⊢
      replace hP : va_P (dC, dI) vwCl [(qf128, .inl (cf128, 31, .inl g128_25)), (qf127, .inl (cf127, 30, .inl g127_25)), (qf104, .inl (cf104, 8, .inl f104)), (qf118, .inl (cf118, 2100, .inl g118_25)), (qf119, .inl (cf119, 2100, .inl g119_25)), (qf105, .inl (cf105, 8, .inl f105)), (qf137, .inl (cf137, 6, .inl g137_25)), (h0, .inr (13, z_38)), (qf102, .inl (cf102, 2048, .inl f102)), (qf100, .inl (cf100, 48000, .inl f100))] H := hP
      replace hD : va_D A [(qf128, .inl (cf128, 31, .inl g128_25)), (qf127, .inl (cf127, 30, .inl g127_25)), (qf104, .inl (cf104, 8, .inl f104)), (qf118, .inl (cf118, 2100, .inl g118_25)), (qf119, .inl (cf119, 2100, .inl g119_25)), (qf105, .inl (cf105, 8, .inl f105)), (qf137, .inl (cf137, 6, .inl g137_25)), (h0, .inr (13, z_38)), (qf102, .inl (cf102, 2048, .inl f102)), (qf100, .inl (cf100, 48000, .inl f100))] := hD
      replace hK : va_K (dC, dI) vwCl [(cf128, .int), (cf127, .int), (cf104, .int), (cf118, .int), (cf119, .int), (cf105, .int), (cf137, .int), (cf102, .int), (cf100, .int)] s := hK
      obtain ⟨hwa_38, hln_38, hre_38⟩ := hw
      have hfk_38_98 : z_38[98]? = some (.int v98) := (hre_38 98 ).trans (hfh_25_98)
      have hfk_38_100 : z_38[100]? = some (.ref qf100) := (hre_38 100 ).trans (hfh_25_100)
      have hfk_38_102 : z_38[102]? = some (.ref qf102) := (hre_38 102 ).trans (hfh_25_102)
      have hfk_38_104 : z_38[104]? = some (.ref qf104) := (hre_38 104 ).trans (hfh_25_104)
      have hfk_38_105 : z_38[105]? = some (.ref qf105) := (hre_38 105 ).trans (hfh_25_105)
      have hfk_38_117 : z_38[117]? = some (.int x117_25) := (hre_38 117 ).trans (hfh_25_117)
      have hfk_38_118 : z_38[118]? = some (.ref qf118) := (hre_38 118 ).trans (hfh_25_118)
      have hfk_38_119 : z_38[119]? = some (.ref qf119) := (hre_38 119 ).trans (hfh_25_119)
      have hfk_38_120 : z_38[120]? = some (.int x120_25) := (hre_38 120 ).trans (hfh_25_120)
      have hfk_38_127 : z_38[127]? = some (.ref qf127) := (hre_38 127 ).trans (hfh_25_127)
      have hfk_38_128 : z_38[128]? = some (.ref qf128) := (hre_38 128 ).trans (hfh_25_128)
      have hfk_38_129 : z_38[129]? = some (.int v129) := (hre_38 129 ).trans (hfh_25_129)
      have hfk_38_130 : z_38[130]? = some (.int v130) := (hre_38 130 ).trans (hfh_25_130)
      have hfk_38_131 : z_38[131]? = some (.int x131_25) := (hre_38 131 ).trans (hfh_25_131)
      have hfk_38_132 : z_38[132]? = some (.int v132) := (hre_38 132 ).trans (hfh_25_132)
      have hfk_38_134 : z_38[134]? = some (.int v134) := (hre_38 134 ).trans (hfh_25_134)
      have hfk_38_136 : z_38[136]? = some (.int v136) := (hre_38 136 ).trans (hfh_25_136)
      have hfk_38_137 : z_38[137]? = some (.ref qf137) := (hre_38 137 ).trans (hfh_25_137)
      have hrq_38 : ∀ j : Nat, j ≠ 117 → j ≠ 120 → j ≠ 131 → z_38[j]? = zs[j]? := fun j g117 g120 g131 => (hre_38 j ).trans (hrh_25 j g117 g120 g131)
      obtain rfl := hwa_38
      obtain ⟨⟨u39_0, g939_1, g939_2, u39_3, u39_4⟩, hu_39, hsp⟩ := ox_bind hsp
      try dsimp only at hsp
      have hPc := hP.sub (ws' := [(h0, .inr (13, z_38)), (qf102, .inl (cf102, 2048, .inl f102)), (qf100, .inl (cf100, 48000, .inl f100)), (qf104, .inl (cf104, 8, .inl f104)), (qf118, .inl (cf118, 2100, .inl g118_25)), (qf119, .inl (cf119, 2100, .inl g119_25))]) [7, 8, 9, 2, 3, 4] rfl
      have hDc := hD.sub (ws' := [(h0, .inr (13, z_38)), (qf102, .inl (cf102, 2048, .inl f102)), (qf100, .inl (cf100, 48000, .inl f100)), (qf104, .inl (cf104, 8, .inl f104)), (qf118, .inl (cf118, 2100, .inl g118_25)), (qf119, .inl (cf119, 2100, .inl g119_25))]) [7, 8, 9, 2, 3, 4] (by decide) rfl
      have hKc := hK.sub (tys' := [(cf102, .int), (cf100, .int), (cf104, .int), (cf118, .int), (cf119, .int)]) [7, 8, 2, 3, 4] rfl
      have hFc := va_free (wc := [(h0, .inr (13, z_38)), (qf102, .inl (cf102, 2048, .inl f102)), (qf100, .inl (cf100, 48000, .inl f100)), (qf104, .inl (cf104, 8, .inl f104)), (qf118, .inl (cf118, 2100, .inl g118_25)), (qf119, .inl (cf119, 2100, .inl g119_25))]) hD hS hA [7, 8, 9, 2, 3, 4] rfl
      refine va_calli (va_runV (As := [.int v132, .int u38_0]) (rest := [.ref h0]) ⟨hx, hb, hml, hown, hts⟩ (vm_kindType l dC dI H.size h0 z_38 v132 u38_0 v98 qf100 qf102 qf104 x117_25 qf118 qf119 x120_25 cf102 f102 cf100 f100 cf104 f104 cf118 g118_25 cf119 g119_25 nS477 fS477 hS477 qS477 tS477 nf u39_0 g939_1 g939_2 u39_3 u39_4 hln_38 hfk_38_98 hfk_38_100 hfk_38_102 hfk_38_104 hfk_38_117 hfk_38_118 hfk_38_119 hfk_38_120 hu_39) (cwV 2 hts gv_h9_107 rfl rfl rfl (by decide +kernel) ⟨Nat.le_of_ble_eq_true rfl, Nat.le_of_ble_eq_true rfl⟩) ⟨fun a U g mk q => by obtain ⟨q0, q1, qP, qK, qD, qhZWS477, qhZRS477⟩ := q; exact ⟨q0, q1, qP, va_K.moved (u := U) (U := U.calling g mk a) (Vm.Alike.refl U.vm) qK, qD, pz_W.moved (u := U) (U := U.calling g mk a) (Vm.Alike.refl U.vm) qhZWS477, vk_R.same rfl qhZRS477⟩, va_recv hKc hPc (ci := 13) (q0 := 0) rfl rfl, fun U hU hW => ⟨rfl, by rw [hU], by rw [hU]; exact hPc, va_K.moved hW.alike hKc, hDc.weaken (fun _ _ _ _ => trivial), by rw [hU]; exact ((pz_W.moved hW.alike hZWS477).kept hS.2.1).narrow hFc, vk_R.warm hW hZRS477⟩⟩ rfl rfl hl.1 rfl (lv_room (Nat.le_of_ble_eq_true rfl)) dX13_wanted_1444 ⟨Nat.le_of_ble_eq_true rfl, Nat.le_of_ble_eq_true rfl⟩) hS (fun q _ h => hFc q h) hFc ?_
      clear hS
      intro r_298 u t H1 locs ht hvm hw hB hz1 hk1 hS
      obtain ⟨z_39, rfl⟩ : ∃ z, z = u := ⟨_, rfl⟩
      obtain ⟨hP1, hK1, hD1⟩ := hB
      rw [ht] at hP1
      have hK1 := va_K.moved hvm.symm hK1
      try dsimp only at hw
      have hPD := va_join (wr := [(qf128, .inl (cf128, 31, .inl g128_25)), (qf127, .inl (cf127, 30, .inl g127_25)), (qf105, .inl (cf105, 8, .inl f105)), (qf137, .inl (cf137, 6, .inl g137_25))]) (w1 := [(h0, .inr (13, z_39)), (qf102, .inl (cf102, 2048, .inl f102)), (qf100, .inl (cf100, 48000, .inl f100)), (qf104, .inl (cf104, 8, .inl f104)), (qf118, .inl (cf118, 2100, .inl g939_1)), (qf119, .inl (cf119, 2100, .inl g939_2))]) hP hD [7, 8, 9, 2, 3, 4] [0, 1, 5, 6] rfl rfl (by decide) (by decide) hk1 hFc hP1 hD1
      clear hP hD
      obtain ⟨hP, hD⟩ := hPD
      replace hK := (hK.sub (tys' := [(cf128, .int), (cf127, .int), (cf105, .int), (cf137, .int)]) [0, 1, 5, 6] rfl).app hK1
      clear hPc hDc hKc hFc hP1 hK1 hD1 hz1 hk1 ht hvm
      generalize H1 = H at hP hS ⊢
      replace hP : va_P (dC, dI) vwCl [(qf128, .inl (cf128, 31, .inl g128_25)), (qf127, .inl (cf127, 30, .inl g127_25)), (qf105, .inl (cf105, 8, .inl f105)), (qf137, .inl (cf137, 6, .inl g137_25)), (h0, .inr (13, z_39)), (qf102, .inl (cf102, 2048, .inl f102)), (qf100, .inl (cf100, 48000, .inl f100)), (qf104, .inl (cf104, 8, .inl f104)), (qf118, .inl (cf118, 2100, .inl g939_1)), (qf119, .inl (cf119, 2100, .inl g939_2))] H := hP
      replace hD : va_D A [(qf128, .inl (cf128, 31, .inl g128_25)), (qf127, .inl (cf127, 30, .inl g127_25)), (qf105, .inl (cf105, 8, .inl f105)), (qf137, .inl (cf137, 6, .inl g137_25)), (h0, .inr (13, z_39)), (qf102, .inl (cf102, 2048, .inl f102)), (qf100, .inl (cf100, 48000, .inl f100)), (qf104, .inl (cf104, 8, .inl f104)), (qf118, .inl (cf118, 2100, .inl g939_1)), (qf119, .inl (cf119, 2100, .inl g939_2))] := hD
      replace hK : va_K (dC, dI) vwCl [(cf128, .int), (cf127, .int), (cf105, .int), (cf137, .int), (cf102, .int), (cf100, .int), (cf104, .int), (cf118, .int), (cf119, .int)] s := hK
      obtain ⟨hwa_39, hln_39, hre_39, hch_39_117, hch_39_120⟩ := hw
      have hfk_39_98 : z_39[98]? = some (.int v98) := (hre_39 98 (by decide) (by decide)).trans (hfk_38_98)
      have hfk_39_100 : z_39[100]? = some (.ref qf100) := (hre_39 100 (by decide) (by decide)).trans (hfk_38_100)
      have hfk_39_102 : z_39[102]? = some (.ref qf102) := (hre_39 102 (by decide) (by decide)).trans (hfk_38_102)
      have hfk_39_104 : z_39[104]? = some (.ref qf104) := (hre_39 104 (by decide) (by decide)).trans (hfk_38_104)
      have hfk_39_105 : z_39[105]? = some (.ref qf105) := (hre_39 105 (by decide) (by decide)).trans (hfk_38_105)
      have hfk_39_118 : z_39[118]? = some (.ref qf118) := (hre_39 118 (by decide) (by decide)).trans (hfk_38_118)
      have hfk_39_119 : z_39[119]? = some (.ref qf119) := (hre_39 119 (by decide) (by decide)).trans (hfk_38_119)
      have hfk_39_127 : z_39[127]? = some (.ref qf127) := (hre_39 127 (by decide) (by decide)).trans (hfk_38_127)
      have hfk_39_128 : z_39[128]? = some (.ref qf128) := (hre_39 128 (by decide) (by decide)).trans (hfk_38_128)
      have hfk_39_129 : z_39[129]? = some (.int v129) := (hre_39 129 (by decide) (by decide)).trans (hfk_38_129)
      have hfk_39_130 : z_39[130]? = some (.int v130) := (hre_39 130 (by decide) (by decide)).trans (hfk_38_130)
      have hfk_39_131 : z_39[131]? = some (.int x131_25) := (hre_39 131 (by decide) (by decide)).trans (hfk_38_131)
      have hfk_39_132 : z_39[132]? = some (.int v132) := (hre_39 132 (by decide) (by decide)).trans (hfk_38_132)
      have hfk_39_134 : z_39[134]? = some (.int v134) := (hre_39 134 (by decide) (by decide)).trans (hfk_38_134)
      have hfk_39_136 : z_39[136]? = some (.int v136) := (hre_39 136 (by decide) (by decide)).trans (hfk_38_136)
      have hfk_39_137 : z_39[137]? = some (.ref qf137) := (hre_39 137 (by decide) (by decide)).trans (hfk_38_137)
      have hrq_39 : ∀ j : Nat, j ≠ 117 → j ≠ 120 → j ≠ 131 → z_39[j]? = zs[j]? := fun j g117 g120 g131 => (hre_39 j g117 g120).trans (hrq_38 j g117 g120 g131)
      obtain rfl := hwa_39
      obtain ⟨⟨u40_0, u40_1⟩, hu_40, hsp⟩ := ox_bind hsp
      try dsimp only at hsp
      have hPc := hP.sub (ws' := [(h0, .inr (13, z_39)), (qf128, .inl (cf128, 31, .inl g128_25)), (qf105, .inl (cf105, 8, .inl f105)), (qf102, .inl (cf102, 2048, .inl f102)), (qf100, .inl (cf100, 48000, .inl f100)), (qf104, .inl (cf104, 8, .inl f104))]) [4, 0, 2, 5, 6, 7] rfl
      have hDc := hD.sub (ws' := [(h0, .inr (13, z_39)), (qf128, .inl (cf128, 31, .inl g128_25)), (qf105, .inl (cf105, 8, .inl f105)), (qf102, .inl (cf102, 2048, .inl f102)), (qf100, .inl (cf100, 48000, .inl f100)), (qf104, .inl (cf104, 8, .inl f104))]) [4, 0, 2, 5, 6, 7] (by decide) rfl
      have hKc := hK.sub (tys' := [(cf128, .int), (cf105, .int), (cf102, .int), (cf100, .int), (cf104, .int)]) [0, 2, 4, 5, 6] rfl
      have hFc := va_free (wc := [(h0, .inr (13, z_39)), (qf128, .inl (cf128, 31, .inl g128_25)), (qf105, .inl (cf105, 8, .inl f105)), (qf102, .inl (cf102, 2048, .inl f102)), (qf100, .inl (cf100, 48000, .inl f100)), (qf104, .inl (cf104, 8, .inl f104))]) hD hS hA [4, 0, 2, 5, 6, 7] rfl
      refine va_calli (va_runV (As := [.int u39_0]) (rest := []) ⟨hx, hb, hml, hown, hts⟩ (vm_pullFit l dC dI H.size h0 z_39 u39_0 v98 qf100 qf102 qf104 qf105 qf128 x131_25 cf128 g128_25 cf105 f105 cf102 f102 cf100 f100 cf104 f104 nS477 fS477 hS477 qS477 tS477 nf u40_0 u40_1 hln_39 hfk_39_98 hfk_39_100 hfk_39_102 hfk_39_104 hfk_39_105 hfk_39_128 hfk_39_131 hu_40) (cwV 1 hts gv_h9_118 rfl rfl rfl (by decide +kernel) ⟨Nat.le_of_ble_eq_true rfl, Nat.le_of_ble_eq_true rfl⟩) ⟨fun a U g mk q => by obtain ⟨q0, q1, qP, qK, qD, qhZWS477, qhZRS477⟩ := q; exact ⟨q0, q1, qP, va_K.moved (u := U) (U := U.calling g mk a) (Vm.Alike.refl U.vm) qK, qD, pz_W.moved (u := U) (U := U.calling g mk a) (Vm.Alike.refl U.vm) qhZWS477, vk_R.same rfl qhZRS477⟩, va_recv hKc hPc (ci := 13) (q0 := 0) rfl rfl, fun U hU hW => ⟨rfl, by rw [hU], by rw [hU]; exact hPc, va_K.moved hW.alike hKc, hDc.weaken (fun _ _ _ _ => trivial), by rw [hU]; exact ((pz_W.moved hW.alike hZWS477).kept hS.2.1).narrow hFc, vk_R.warm hW hZRS477⟩⟩ rfl rfl hl.1 rfl (lv_room (Nat.le_of_ble_eq_true rfl)) dX13_wanted_1447 ⟨Nat.le_of_ble_eq_true rfl, Nat.le_of_ble_eq_true rfl⟩) hS (fun q _ h => hFc q h) hFc ?_
      clear hS
      intro r_299 u t H1 locs ht hvm hw hB hz1 hk1 hS
      obtain ⟨z_40, rfl⟩ : ∃ z, z = u := ⟨_, rfl⟩
      obtain ⟨hP1, hK1, hD1⟩ := hB
      rw [ht] at hP1
      have hK1 := va_K.moved hvm.symm hK1
      try dsimp only at hw
      have hPD := va_join (wr := [(qf127, .inl (cf127, 30, .inl g127_25)), (qf137, .inl (cf137, 6, .inl g137_25)), (qf118, .inl (cf118, 2100, .inl g939_1)), (qf119, .inl (cf119, 2100, .inl g939_2))]) (w1 := [(h0, .inr (13, z_40)), (qf128, .inl (cf128, 31, .inl g128_25)), (qf105, .inl (cf105, 8, .inl f105)), (qf102, .inl (cf102, 2048, .inl f102)), (qf100, .inl (cf100, 48000, .inl f100)), (qf104, .inl (cf104, 8, .inl f104))]) hP hD [4, 0, 2, 5, 6, 7] [1, 3, 8, 9] rfl rfl (by decide) (by decide) hk1 hFc hP1 hD1
      clear hP hD
      obtain ⟨hP, hD⟩ := hPD
      replace hK := (hK.sub (tys' := [(cf127, .int), (cf137, .int), (cf118, .int), (cf119, .int)]) [1, 3, 7, 8] rfl).app hK1
      clear hPc hDc hKc hFc hP1 hK1 hD1 hz1 hk1 ht hvm
      generalize H1 = H at hP hS ⊢
      replace hP : va_P (dC, dI) vwCl [(qf127, .inl (cf127, 30, .inl g127_25)), (qf137, .inl (cf137, 6, .inl g137_25)), (qf118, .inl (cf118, 2100, .inl g939_1)), (qf119, .inl (cf119, 2100, .inl g939_2)), (h0, .inr (13, z_40)), (qf128, .inl (cf128, 31, .inl g128_25)), (qf105, .inl (cf105, 8, .inl f105)), (qf102, .inl (cf102, 2048, .inl f102)), (qf100, .inl (cf100, 48000, .inl f100)), (qf104, .inl (cf104, 8, .inl f104))] H := hP
      replace hD : va_D A [(qf127, .inl (cf127, 30, .inl g127_25)), (qf137, .inl (cf137, 6, .inl g137_25)), (qf118, .inl (cf118, 2100, .inl g939_1)), (qf119, .inl (cf119, 2100, .inl g939_2)), (h0, .inr (13, z_40)), (qf128, .inl (cf128, 31, .inl g128_25)), (qf105, .inl (cf105, 8, .inl f105)), (qf102, .inl (cf102, 2048, .inl f102)), (qf100, .inl (cf100, 48000, .inl f100)), (qf104, .inl (cf104, 8, .inl f104))] := hD
      replace hK : va_K (dC, dI) vwCl [(cf127, .int), (cf137, .int), (cf118, .int), (cf119, .int), (cf128, .int), (cf105, .int), (cf102, .int), (cf100, .int), (cf104, .int)] s := hK
      obtain ⟨hwa_40, hln_40, hre_40, hch_40_131⟩ := hw
      have hfk_40_98 : z_40[98]? = some (.int v98) := (hre_40 98 (by decide)).trans (hfk_39_98)
      have hfk_40_100 : z_40[100]? = some (.ref qf100) := (hre_40 100 (by decide)).trans (hfk_39_100)
      have hfk_40_102 : z_40[102]? = some (.ref qf102) := (hre_40 102 (by decide)).trans (hfk_39_102)
      have hfk_40_104 : z_40[104]? = some (.ref qf104) := (hre_40 104 (by decide)).trans (hfk_39_104)
      have hfk_40_105 : z_40[105]? = some (.ref qf105) := (hre_40 105 (by decide)).trans (hfk_39_105)
      have hfk_40_117 : z_40[117]? = some (.int u39_3) := (hre_40 117 (by decide)).trans (hch_39_117)
      have hfk_40_118 : z_40[118]? = some (.ref qf118) := (hre_40 118 (by decide)).trans (hfk_39_118)
      have hfk_40_119 : z_40[119]? = some (.ref qf119) := (hre_40 119 (by decide)).trans (hfk_39_119)
      have hfk_40_120 : z_40[120]? = some (.int u39_4) := (hre_40 120 (by decide)).trans (hch_39_120)
      have hfk_40_127 : z_40[127]? = some (.ref qf127) := (hre_40 127 (by decide)).trans (hfk_39_127)
      have hfk_40_128 : z_40[128]? = some (.ref qf128) := (hre_40 128 (by decide)).trans (hfk_39_128)
      have hfk_40_129 : z_40[129]? = some (.int v129) := (hre_40 129 (by decide)).trans (hfk_39_129)
      have hfk_40_130 : z_40[130]? = some (.int v130) := (hre_40 130 (by decide)).trans (hfk_39_130)
      have hfk_40_132 : z_40[132]? = some (.int v132) := (hre_40 132 (by decide)).trans (hfk_39_132)
      have hfk_40_134 : z_40[134]? = some (.int v134) := (hre_40 134 (by decide)).trans (hfk_39_134)
      have hfk_40_136 : z_40[136]? = some (.int v136) := (hre_40 136 (by decide)).trans (hfk_39_136)
      have hfk_40_137 : z_40[137]? = some (.ref qf137) := (hre_40 137 (by decide)).trans (hfk_39_137)
      have hrq_40 : ∀ j : Nat, j ≠ 117 → j ≠ 120 → j ≠ 131 → z_40[j]? = zs[j]? := fun j g117 g120 g131 => (hre_40 j g131).trans (hrq_39 j g117 g120 g131)
      obtain ⟨rfl, hz_40⟩ := hwa_40
      rcases hz_40 with rfl | rfl
      · rw [if_pos rfl] at hsp
        refine lv_if_eq (tgt := 1478) hx hb dX13_wanted_1450 (by decide) (fun c_300 => ?_) (fun c_300 => (show False by revert c_300; decide).elim)
        refine lv_iconst (v := 0) hx hb dX13_wanted_1478 (by decide) ?_
        have hr0 := Option.some.inj hsp
        clear hsp
        obtain ⟨hq0, hr1⟩ := Prod.mk.inj hr0
        clear hr0
        obtain ⟨hq1, hr2⟩ := Prod.mk.inj hr1
        clear hr1
        obtain ⟨hq2, hr3⟩ := Prod.mk.inj hr2
        clear hr2
        obtain ⟨hq3, hr4⟩ := Prod.mk.inj hr3
        clear hr3
        obtain ⟨hq4, hr5⟩ := Prod.mk.inj hr4
        clear hr4
        obtain ⟨hq5, hr6⟩ := Prod.mk.inj hr5
        clear hr5
        obtain ⟨hq6, hr7⟩ := Prod.mk.inj hr6
        clear hr6
        obtain ⟨hq7, hr8⟩ := Prod.mk.inj hr7
        clear hr7
        subst hq0
        subst hq1
        subst hq2
        subst hq3
        subst hq4
        subst hq5
        subst hq6
        subst hq7
        subst hr8
        have hP9 := hP.sub (ws' := [(h0, .inr (13, z_40)), (qf100, .inl (cf100, 48000, .inl f100)), (qf128, .inl (cf128, 31, .inl g128_25)), (qf127, .inl (cf127, 30, .inl g127_25)), (qf104, .inl (cf104, 8, .inl f104)), (qf102, .inl (cf102, 2048, .inl f102)), (qf118, .inl (cf118, 2100, .inl g939_1)), (qf119, .inl (cf119, 2100, .inl g939_2)), (qf105, .inl (cf105, 8, .inl f105)), (qf137, .inl (cf137, 6, .inl g137_25))]) [4, 8, 5, 0, 9, 7, 2, 3, 6, 1] rfl
        have hD9 := hD.sub (ws' := [(h0, .inr (13, z_40)), (qf100, .inl (cf100, 48000, .inl f100)), (qf128, .inl (cf128, 31, .inl g128_25)), (qf127, .inl (cf127, 30, .inl g127_25)), (qf104, .inl (cf104, 8, .inl f104)), (qf102, .inl (cf102, 2048, .inl f102)), (qf118, .inl (cf118, 2100, .inl g939_1)), (qf119, .inl (cf119, 2100, .inl g939_2)), (qf105, .inl (cf105, 8, .inl f105)), (qf137, .inl (cf137, 6, .inl g137_25))]) [4, 8, 5, 0, 9, 7, 2, 3, 6, 1] (by decide) rfl
        have hK9 := hK.sub (tys' := [(cf100, .int), (cf128, .int), (cf127, .int), (cf104, .int), (cf102, .int), (cf118, .int), (cf119, .int), (cf105, .int), (cf137, .int)]) [7, 4, 0, 8, 6, 2, 3, 5, 1] rfl
        exact W.zret hx hb hr (by decide) (fun t ht hW => ⟨⟨(0), (z_40), rfl, ⟨⟨rfl, Or.inl rfl⟩, hln_40, hrq_40, hfk_40_117, hfk_40_120, hch_40_131⟩, by rw [ht]; exact hP9, va_K.moved hW.alike hK9, hD9⟩, hS.F ht⟩) hS.2.2 dX13_wanted_1479
      · rw [if_neg (by decide)] at hsp
        refine lv_if_eq (tgt := 1478) hx hb dX13_wanted_1450 (by decide) (fun c_301 => (show False by revert c_301; decide).elim) (fun c_301 => ?_)
        refine lv_aload_n hx hb dX13_wanted_1453 rfl (lv_at hl 1 rfl) ?_
        refine lv_aload_n hx hb dX13_wanted_1454 rfl (lv_at hl 1 rfl) ?_
        refine lv_aload_n hx hb dX13_wanted_1455 rfl (lv_at hl 1 rfl) ?_
        refine va_get (D := (dC, dI)) (ci := 13) (v := .int v132) (C := RX13) (T := TX13) (N := 155) hx hb hts uV_h9_X13 hown hK hP 4 rfl rfl 132 (by decide) (hts (.fieldLink RX13 932 "ClassMillModel" "inClass" "I") mw_h9_549) (fun _ h9 => h9) hfk_40_132 dX13_wanted_1456 ?_
        refine lv_aload_n hx hb dX13_wanted_1459 rfl (lv_at hl 1 rfl) ?_
        refine lv_iload_n hx hb dX13_wanted_1460 rfl (lv_at hl 0 rfl) ?_
        refine lv_iconst (v := 0) hx hb dX13_wanted_1461 (by decide) ?_
        obtain ⟨u41_0, hu_41, hsp⟩ := ox_bind hsp
        try dsimp only at hsp
        have hPc := hP.sub (ws' := [(h0, .inr (13, z_40)), (qf102, .inl (cf102, 2048, .inl f102)), (qf100, .inl (cf100, 48000, .inl f100))]) [4, 7, 8] rfl
        have hDc := hD.sub (ws' := [(h0, .inr (13, z_40)), (qf102, .inl (cf102, 2048, .inl f102)), (qf100, .inl (cf100, 48000, .inl f100))]) [4, 7, 8] (by decide) rfl
        have hKc := hK.sub (tys' := [(cf102, .int), (cf100, .int)]) [6, 7] rfl
        have hFc := va_free (wc := [(h0, .inr (13, z_40)), (qf102, .inl (cf102, 2048, .inl f102)), (qf100, .inl (cf100, 48000, .inl f100))]) hD hS hA [4, 7, 8] rfl
        refine va_calli (va_runV (As := [.int s0_25, .int 0]) (rest := [.int v132, .ref h0, .ref h0]) ⟨hx, hb, hml, hown, hts⟩ (tm_partOf l dC dI H.size h0 z_40 s0_25 0 qf100 qf102 v132 cf102 f102 cf100 f100 nf u41_0 hln_40 hfk_40_100 hfk_40_102 hfk_40_132 hu_41) (cwV 2 hts gv_h9_72 rfl rfl rfl (by decide +kernel) ⟨Nat.le_of_ble_eq_true rfl, Nat.le_of_ble_eq_true rfl⟩) ⟨fun a U g mk q => by obtain ⟨q0, q1, qP, qK, qD⟩ := q; exact ⟨q0, q1, qP, va_K.moved (u := U) (U := U.calling g mk a) (Vm.Alike.refl U.vm) qK, qD⟩, va_recv hKc hPc (ci := 13) (q0 := 0) rfl rfl, fun U hU hW => ⟨rfl, by rw [hU], by rw [hU]; exact hPc, va_K.moved hW.alike hKc, hDc.weaken (fun _ _ _ _ => trivial)⟩⟩ rfl rfl hl.1 rfl (lv_room (Nat.le_of_ble_eq_true rfl)) dX13_wanted_1462 ⟨Nat.le_of_ble_eq_true rfl, Nat.le_of_ble_eq_true rfl⟩) hS (fun q _ h => hFc q h) hFc ?_
        clear hS
        intro r_302 u t H1 locs ht hvm hw hB hz1 hk1 hS
        obtain ⟨z_41, rfl⟩ : ∃ z, z = u := ⟨_, rfl⟩
        obtain ⟨hP1, hK1, hD1⟩ := hB
        rw [ht] at hP1
        have hK1 := va_K.moved hvm.symm hK1
        try dsimp only at hw
        have hPD := va_join (wr := [(qf127, .inl (cf127, 30, .inl g127_25)), (qf137, .inl (cf137, 6, .inl g137_25)), (qf118, .inl (cf118, 2100, .inl g939_1)), (qf119, .inl (cf119, 2100, .inl g939_2)), (qf128, .inl (cf128, 31, .inl g128_25)), (qf105, .inl (cf105, 8, .inl f105)), (qf104, .inl (cf104, 8, .inl f104))]) (w1 := [(h0, .inr (13, z_41)), (qf102, .inl (cf102, 2048, .inl f102)), (qf100, .inl (cf100, 48000, .inl f100))]) hP hD [4, 7, 8] [0, 1, 2, 3, 5, 6, 9] rfl rfl (by decide) (by decide) hk1 hFc hP1 hD1
        clear hP hD
        obtain ⟨hP, hD⟩ := hPD
        replace hK := (hK.sub (tys' := [(cf127, .int), (cf137, .int), (cf118, .int), (cf119, .int), (cf128, .int), (cf105, .int), (cf104, .int)]) [0, 1, 2, 3, 4, 5, 8] rfl).app hK1
        clear hPc hDc hKc hFc hP1 hK1 hD1 hz1 hk1 ht hvm
        generalize H1 = H at hP hS ⊢
        replace hP : va_P (dC, dI) vwCl [(qf127, .inl (cf127, 30, .inl g127_25)), (qf137, .inl (cf137, 6, .inl g137_25)), (qf118, .inl (cf118, 2100, .inl g939_1)), (qf119, .inl (cf119, 2100, .inl g939_2)), (qf128, .inl (cf128, 31, .inl g128_25)), (qf105, .inl (cf105, 8, .inl f105)), (qf104, .inl (cf104, 8, .inl f104)), (h0, .inr (13, z_41)), (qf102, .inl (cf102, 2048, .inl f102)), (qf100, .inl (cf100, 48000, .inl f100))] H := hP
        replace hD : va_D A [(qf127, .inl (cf127, 30, .inl g127_25)), (qf137, .inl (cf137, 6, .inl g137_25)), (qf118, .inl (cf118, 2100, .inl g939_1)), (qf119, .inl (cf119, 2100, .inl g939_2)), (qf128, .inl (cf128, 31, .inl g128_25)), (qf105, .inl (cf105, 8, .inl f105)), (qf104, .inl (cf104, 8, .inl f104)), (h0, .inr (13, z_41)), (qf102, .inl (cf102, 2048, .inl f102)), (qf100, .inl (cf100, 48000, .inl f100))] := hD
        replace hK : va_K (dC, dI) vwCl [(cf127, .int), (cf137, .int), (cf118, .int), (cf119, .int), (cf128, .int), (cf105, .int), (cf104, .int), (cf102, .int), (cf100, .int)] s := hK
        obtain ⟨hwa_41, hln_41, hre_41⟩ := hw
        have hfk_41_98 : z_41[98]? = some (.int v98) := (hre_41 98 ).trans (hfk_40_98)
        have hfk_41_100 : z_41[100]? = some (.ref qf100) := (hre_41 100 ).trans (hfk_40_100)
        have hfk_41_102 : z_41[102]? = some (.ref qf102) := (hre_41 102 ).trans (hfk_40_102)
        have hfk_41_104 : z_41[104]? = some (.ref qf104) := (hre_41 104 ).trans (hfk_40_104)
        have hfk_41_105 : z_41[105]? = some (.ref qf105) := (hre_41 105 ).trans (hfk_40_105)
        have hfk_41_117 : z_41[117]? = some (.int u39_3) := (hre_41 117 ).trans (hfk_40_117)
        have hfk_41_118 : z_41[118]? = some (.ref qf118) := (hre_41 118 ).trans (hfk_40_118)
        have hfk_41_119 : z_41[119]? = some (.ref qf119) := (hre_41 119 ).trans (hfk_40_119)
        have hfk_41_120 : z_41[120]? = some (.int u39_4) := (hre_41 120 ).trans (hfk_40_120)
        have hfk_41_127 : z_41[127]? = some (.ref qf127) := (hre_41 127 ).trans (hfk_40_127)
        have hfk_41_128 : z_41[128]? = some (.ref qf128) := (hre_41 128 ).trans (hfk_40_128)
        have hfk_41_129 : z_41[129]? = some (.int v129) := (hre_41 129 ).trans (hfk_40_129)
        have hfk_41_130 : z_41[130]? = some (.int v130) := (hre_41 130 ).trans (hfk_40_130)
        have hfk_41_131 : z_41[131]? = some (.int u40_1) := (hre_41 131 ).trans (hch_40_131)
        have hfk_41_132 : z_41[132]? = some (.int v132) := (hre_41 132 ).trans (hfk_40_132)
        have hfk_41_134 : z_41[134]? = some (.int v134) := (hre_41 134 ).trans (hfk_40_134)
        have hfk_41_136 : z_41[136]? = some (.int v136) := (hre_41 136 ).trans (hfk_40_136)
        have hfk_41_137 : z_41[137]? = some (.ref qf137) := (hre_41 137 ).trans (hfk_40_137)
        have hrq_41 : ∀ j : Nat, j ≠ 117 → j ≠ 120 → j ≠ 131 → z_41[j]? = zs[j]? := fun j g117 g120 g131 => (hre_41 j ).trans (hrq_40 j g117 g120 g131)
        obtain rfl := hwa_41
        obtain ⟨⟨u42_0, g942_1, g942_2, u42_3, u42_4⟩, hu_42, hsp⟩ := ox_bind hsp
        try dsimp only at hsp
        have hPc := hP.sub (ws' := [(h0, .inr (13, z_41)), (qf102, .inl (cf102, 2048, .inl f102)), (qf100, .inl (cf100, 48000, .inl f100)), (qf104, .inl (cf104, 8, .inl f104)), (qf118, .inl (cf118, 2100, .inl g939_1)), (qf119, .inl (cf119, 2100, .inl g939_2))]) [7, 8, 9, 6, 2, 3] rfl
        have hDc := hD.sub (ws' := [(h0, .inr (13, z_41)), (qf102, .inl (cf102, 2048, .inl f102)), (qf100, .inl (cf100, 48000, .inl f100)), (qf104, .inl (cf104, 8, .inl f104)), (qf118, .inl (cf118, 2100, .inl g939_1)), (qf119, .inl (cf119, 2100, .inl g939_2))]) [7, 8, 9, 6, 2, 3] (by decide) rfl
        have hKc := hK.sub (tys' := [(cf102, .int), (cf100, .int), (cf104, .int), (cf118, .int), (cf119, .int)]) [7, 8, 6, 2, 3] rfl
        have hFc := va_free (wc := [(h0, .inr (13, z_41)), (qf102, .inl (cf102, 2048, .inl f102)), (qf100, .inl (cf100, 48000, .inl f100)), (qf104, .inl (cf104, 8, .inl f104)), (qf118, .inl (cf118, 2100, .inl g939_1)), (qf119, .inl (cf119, 2100, .inl g939_2))]) hD hS hA [7, 8, 9, 6, 2, 3] rfl
        refine va_calli (va_runV (As := [.int v132, .int u41_0]) (rest := [.ref h0]) ⟨hx, hb, hml, hown, hts⟩ (vm_typeOfClass l dC dI H.size h0 z_41 v132 u41_0 v98 qf100 qf102 qf104 u39_3 qf118 qf119 u39_4 cf102 f102 cf100 f100 cf104 f104 cf118 g939_1 cf119 g939_2 nS477 fS477 hS477 qS477 tS477 nf u42_0 g942_1 g942_2 u42_3 u42_4 hln_41 hfk_41_98 hfk_41_100 hfk_41_102 hfk_41_104 hfk_41_117 hfk_41_118 hfk_41_119 hfk_41_120 hu_42) (cwV 2 hts gv_h9_112 rfl rfl rfl (by decide +kernel) ⟨Nat.le_of_ble_eq_true rfl, Nat.le_of_ble_eq_true rfl⟩) ⟨fun a U g mk q => by obtain ⟨q0, q1, qP, qK, qD, qhZWS477, qhZRS477⟩ := q; exact ⟨q0, q1, qP, va_K.moved (u := U) (U := U.calling g mk a) (Vm.Alike.refl U.vm) qK, qD, pz_W.moved (u := U) (U := U.calling g mk a) (Vm.Alike.refl U.vm) qhZWS477, vk_R.same rfl qhZRS477⟩, va_recv hKc hPc (ci := 13) (q0 := 0) rfl rfl, fun U hU hW => ⟨rfl, by rw [hU], by rw [hU]; exact hPc, va_K.moved hW.alike hKc, hDc.weaken (fun _ _ _ _ => trivial), by rw [hU]; exact ((pz_W.moved hW.alike hZWS477).kept hS.2.1).narrow hFc, vk_R.warm hW hZRS477⟩⟩ rfl rfl hl.1 rfl (lv_room (Nat.le_of_ble_eq_true rfl)) dX13_wanted_1465 ⟨Nat.le_of_ble_eq_true rfl, Nat.le_of_ble_eq_true rfl⟩) hS (fun q _ h => hFc q h) hFc ?_
        clear hS
        intro r_303 u t H1 locs ht hvm hw hB hz1 hk1 hS
        obtain ⟨z_42, rfl⟩ : ∃ z, z = u := ⟨_, rfl⟩
        obtain ⟨hP1, hK1, hD1⟩ := hB
        rw [ht] at hP1
        have hK1 := va_K.moved hvm.symm hK1
        try dsimp only at hw
        have hPD := va_join (wr := [(qf127, .inl (cf127, 30, .inl g127_25)), (qf137, .inl (cf137, 6, .inl g137_25)), (qf128, .inl (cf128, 31, .inl g128_25)), (qf105, .inl (cf105, 8, .inl f105))]) (w1 := [(h0, .inr (13, z_42)), (qf102, .inl (cf102, 2048, .inl f102)), (qf100, .inl (cf100, 48000, .inl f100)), (qf104, .inl (cf104, 8, .inl f104)), (qf118, .inl (cf118, 2100, .inl g942_1)), (qf119, .inl (cf119, 2100, .inl g942_2))]) hP hD [7, 8, 9, 6, 2, 3] [0, 1, 4, 5] rfl rfl (by decide) (by decide) hk1 hFc hP1 hD1
        clear hP hD
        obtain ⟨hP, hD⟩ := hPD
        replace hK := (hK.sub (tys' := [(cf127, .int), (cf137, .int), (cf128, .int), (cf105, .int)]) [0, 1, 4, 5] rfl).app hK1
        clear hPc hDc hKc hFc hP1 hK1 hD1 hz1 hk1 ht hvm
        generalize H1 = H at hP hS ⊢
        replace hP : va_P (dC, dI) vwCl [(qf127, .inl (cf127, 30, .inl g127_25)), (qf137, .inl (cf137, 6, .inl g137_25)), (qf128, .inl (cf128, 31, .inl g128_25)), (qf105, .inl (cf105, 8, .inl f105)), (h0, .inr (13, z_42)), (qf102, .inl (cf102, 2048, .inl f102)), (qf100, .inl (cf100, 48000, .inl f100)), (qf104, .inl (cf104, 8, .inl f104)), (qf118, .inl (cf118, 2100, .inl g942_1)), (qf119, .inl (cf119, 2100, .inl g942_2))] H := hP
        replace hD : va_D A [(qf127, .inl (cf127, 30, .inl g127_25)), (qf137, .inl (cf137, 6, .inl g137_25)), (qf128, .inl (cf128, 31, .inl g128_25)), (qf105, .inl (cf105, 8, .inl f105)), (h0, .inr (13, z_42)), (qf102, .inl (cf102, 2048, .inl f102)), (qf100, .inl (cf100, 48000, .inl f100)), (qf104, .inl (cf104, 8, .inl f104)), (qf118, .inl (cf118, 2100, .inl g942_1)), (qf119, .inl (cf119, 2100, .inl g942_2))] := hD
        replace hK : va_K (dC, dI) vwCl [(cf127, .int), (cf137, .int), (cf128, .int), (cf105, .int), (cf102, .int), (cf100, .int), (cf104, .int), (cf118, .int), (cf119, .int)] s := hK
        obtain ⟨hwa_42, hln_42, hre_42, hch_42_117, hch_42_120⟩ := hw
        have hfk_42_98 : z_42[98]? = some (.int v98) := (hre_42 98 (by decide) (by decide)).trans (hfk_41_98)
        have hfk_42_100 : z_42[100]? = some (.ref qf100) := (hre_42 100 (by decide) (by decide)).trans (hfk_41_100)
        have hfk_42_102 : z_42[102]? = some (.ref qf102) := (hre_42 102 (by decide) (by decide)).trans (hfk_41_102)
        have hfk_42_104 : z_42[104]? = some (.ref qf104) := (hre_42 104 (by decide) (by decide)).trans (hfk_41_104)
        have hfk_42_105 : z_42[105]? = some (.ref qf105) := (hre_42 105 (by decide) (by decide)).trans (hfk_41_105)
        have hfk_42_118 : z_42[118]? = some (.ref qf118) := (hre_42 118 (by decide) (by decide)).trans (hfk_41_118)
        have hfk_42_119 : z_42[119]? = some (.ref qf119) := (hre_42 119 (by decide) (by decide)).trans (hfk_41_119)
        have hfk_42_127 : z_42[127]? = some (.ref qf127) := (hre_42 127 (by decide) (by decide)).trans (hfk_41_127)
        have hfk_42_128 : z_42[128]? = some (.ref qf128) := (hre_42 128 (by decide) (by decide)).trans (hfk_41_128)
        have hfk_42_129 : z_42[129]? = some (.int v129) := (hre_42 129 (by decide) (by decide)).trans (hfk_41_129)
        have hfk_42_130 : z_42[130]? = some (.int v130) := (hre_42 130 (by decide) (by decide)).trans (hfk_41_130)
        have hfk_42_131 : z_42[131]? = some (.int u40_1) := (hre_42 131 (by decide) (by decide)).trans (hfk_41_131)
        have hfk_42_132 : z_42[132]? = some (.int v132) := (hre_42 132 (by decide) (by decide)).trans (hfk_41_132)
        have hfk_42_134 : z_42[134]? = some (.int v134) := (hre_42 134 (by decide) (by decide)).trans (hfk_41_134)
        have hfk_42_136 : z_42[136]? = some (.int v136) := (hre_42 136 (by decide) (by decide)).trans (hfk_41_136)
        have hfk_42_137 : z_42[137]? = some (.ref qf137) := (hre_42 137 (by decide) (by decide)).trans (hfk_41_137)
        have hrq_42 : ∀ j : Nat, j ≠ 117 → j ≠ 120 → j ≠ 131 → z_42[j]? = zs[j]? := fun j g117 g120 g131 => (hre_42 j g117 g120).trans (hrq_41 j g117 g120 g131)
        obtain rfl := hwa_42
        obtain ⟨⟨u43_0, u43_1⟩, hu_43, hsp⟩ := ox_bind hsp
        try dsimp only at hsp
        have hPc := hP.sub (ws' := [(h0, .inr (13, z_42)), (qf128, .inl (cf128, 31, .inl g128_25)), (qf105, .inl (cf105, 8, .inl f105)), (qf102, .inl (cf102, 2048, .inl f102)), (qf100, .inl (cf100, 48000, .inl f100)), (qf104, .inl (cf104, 8, .inl f104))]) [4, 2, 3, 5, 6, 7] rfl
        have hDc := hD.sub (ws' := [(h0, .inr (13, z_42)), (qf128, .inl (cf128, 31, .inl g128_25)), (qf105, .inl (cf105, 8, .inl f105)), (qf102, .inl (cf102, 2048, .inl f102)), (qf100, .inl (cf100, 48000, .inl f100)), (qf104, .inl (cf104, 8, .inl f104))]) [4, 2, 3, 5, 6, 7] (by decide) rfl
        have hKc := hK.sub (tys' := [(cf128, .int), (cf105, .int), (cf102, .int), (cf100, .int), (cf104, .int)]) [2, 3, 4, 5, 6] rfl
        have hFc := va_free (wc := [(h0, .inr (13, z_42)), (qf128, .inl (cf128, 31, .inl g128_25)), (qf105, .inl (cf105, 8, .inl f105)), (qf102, .inl (cf102, 2048, .inl f102)), (qf100, .inl (cf100, 48000, .inl f100)), (qf104, .inl (cf104, 8, .inl f104))]) hD hS hA [4, 2, 3, 5, 6, 7] rfl
        refine va_calli (va_runV (As := [.int u42_0]) (rest := []) ⟨hx, hb, hml, hown, hts⟩ (vm_pullFit l dC dI H.size h0 z_42 u42_0 v98 qf100 qf102 qf104 qf105 qf128 u40_1 cf128 g128_25 cf105 f105 cf102 f102 cf100 f100 cf104 f104 nS477 fS477 hS477 qS477 tS477 nf u43_0 u43_1 hln_42 hfk_42_98 hfk_42_100 hfk_42_102 hfk_42_104 hfk_42_105 hfk_42_128 hfk_42_131 hu_43) (cwV 1 hts gv_h9_118 rfl rfl rfl (by decide +kernel) ⟨Nat.le_of_ble_eq_true rfl, Nat.le_of_ble_eq_true rfl⟩) ⟨fun a U g mk q => by obtain ⟨q0, q1, qP, qK, qD, qhZWS477, qhZRS477⟩ := q; exact ⟨q0, q1, qP, va_K.moved (u := U) (U := U.calling g mk a) (Vm.Alike.refl U.vm) qK, qD, pz_W.moved (u := U) (U := U.calling g mk a) (Vm.Alike.refl U.vm) qhZWS477, vk_R.same rfl qhZRS477⟩, va_recv hKc hPc (ci := 13) (q0 := 0) rfl rfl, fun U hU hW => ⟨rfl, by rw [hU], by rw [hU]; exact hPc, va_K.moved hW.alike hKc, hDc.weaken (fun _ _ _ _ => trivial), by rw [hU]; exact ((pz_W.moved hW.alike hZWS477).kept hS.2.1).narrow hFc, vk_R.warm hW hZRS477⟩⟩ rfl rfl hl.1 rfl (lv_room (Nat.le_of_ble_eq_true rfl)) dX13_wanted_1468 ⟨Nat.le_of_ble_eq_true rfl, Nat.le_of_ble_eq_true rfl⟩) hS (fun q _ h => hFc q h) hFc ?_
        clear hS
        intro r_304 u t H1 locs ht hvm hw hB hz1 hk1 hS
        obtain ⟨z_43, rfl⟩ : ∃ z, z = u := ⟨_, rfl⟩
        obtain ⟨hP1, hK1, hD1⟩ := hB
        rw [ht] at hP1
        have hK1 := va_K.moved hvm.symm hK1
        try dsimp only at hw
        have hPD := va_join (wr := [(qf127, .inl (cf127, 30, .inl g127_25)), (qf137, .inl (cf137, 6, .inl g137_25)), (qf118, .inl (cf118, 2100, .inl g942_1)), (qf119, .inl (cf119, 2100, .inl g942_2))]) (w1 := [(h0, .inr (13, z_43)), (qf128, .inl (cf128, 31, .inl g128_25)), (qf105, .inl (cf105, 8, .inl f105)), (qf102, .inl (cf102, 2048, .inl f102)), (qf100, .inl (cf100, 48000, .inl f100)), (qf104, .inl (cf104, 8, .inl f104))]) hP hD [4, 2, 3, 5, 6, 7] [0, 1, 8, 9] rfl rfl (by decide) (by decide) hk1 hFc hP1 hD1
        clear hP hD
        obtain ⟨hP, hD⟩ := hPD
        replace hK := (hK.sub (tys' := [(cf127, .int), (cf137, .int), (cf118, .int), (cf119, .int)]) [0, 1, 7, 8] rfl).app hK1
        clear hPc hDc hKc hFc hP1 hK1 hD1 hz1 hk1 ht hvm
        generalize H1 = H at hP hS ⊢
        replace hP : va_P (dC, dI) vwCl [(qf127, .inl (cf127, 30, .inl g127_25)), (qf137, .inl (cf137, 6, .inl g137_25)), (qf118, .inl (cf118, 2100, .inl g942_1)), (qf119, .inl (cf119, 2100, .inl g942_2)), (h0, .inr (13, z_43)), (qf128, .inl (cf128, 31, .inl g128_25)), (qf105, .inl (cf105, 8, .inl f105)), (qf102, .inl (cf102, 2048, .inl f102)), (qf100, .inl (cf100, 48000, .inl f100)), (qf104, .inl (cf104, 8, .inl f104))] H := hP
        replace hD : va_D A [(qf127, .inl (cf127, 30, .inl g127_25)), (qf137, .inl (cf137, 6, .inl g137_25)), (qf118, .inl (cf118, 2100, .inl g942_1)), (qf119, .inl (cf119, 2100, .inl g942_2)), (h0, .inr (13, z_43)), (qf128, .inl (cf128, 31, .inl g128_25)), (qf105, .inl (cf105, 8, .inl f105)), (qf102, .inl (cf102, 2048, .inl f102)), (qf100, .inl (cf100, 48000, .inl f100)), (qf104, .inl (cf104, 8, .inl f104))] := hD
        replace hK : va_K (dC, dI) vwCl [(cf127, .int), (cf137, .int), (cf118, .int), (cf119, .int), (cf128, .int), (cf105, .int), (cf102, .int), (cf100, .int), (cf104, .int)] s := hK
        obtain ⟨hwa_43, hln_43, hre_43, hch_43_131⟩ := hw
        have hfk_43_98 : z_43[98]? = some (.int v98) := (hre_43 98 (by decide)).trans (hfk_42_98)
        have hfk_43_100 : z_43[100]? = some (.ref qf100) := (hre_43 100 (by decide)).trans (hfk_42_100)
        have hfk_43_102 : z_43[102]? = some (.ref qf102) := (hre_43 102 (by decide)).trans (hfk_42_102)
        have hfk_43_104 : z_43[104]? = some (.ref qf104) := (hre_43 104 (by decide)).trans (hfk_42_104)
        have hfk_43_105 : z_43[105]? = some (.ref qf105) := (hre_43 105 (by decide)).trans (hfk_42_105)
        have hfk_43_117 : z_43[117]? = some (.int u42_3) := (hre_43 117 (by decide)).trans (hch_42_117)
        have hfk_43_118 : z_43[118]? = some (.ref qf118) := (hre_43 118 (by decide)).trans (hfk_42_118)
        have hfk_43_119 : z_43[119]? = some (.ref qf119) := (hre_43 119 (by decide)).trans (hfk_42_119)
        have hfk_43_120 : z_43[120]? = some (.int u42_4) := (hre_43 120 (by decide)).trans (hch_42_120)
        have hfk_43_127 : z_43[127]? = some (.ref qf127) := (hre_43 127 (by decide)).trans (hfk_42_127)
        have hfk_43_128 : z_43[128]? = some (.ref qf128) := (hre_43 128 (by decide)).trans (hfk_42_128)
        have hfk_43_129 : z_43[129]? = some (.int v129) := (hre_43 129 (by decide)).trans (hfk_42_129)
        have hfk_43_130 : z_43[130]? = some (.int v130) := (hre_43 130 (by decide)).trans (hfk_42_130)
        have hfk_43_132 : z_43[132]? = some (.int v132) := (hre_43 132 (by decide)).trans (hfk_42_132)
        have hfk_43_134 : z_43[134]? = some (.int v134) := (hre_43 134 (by decide)).trans (hfk_42_134)
        have hfk_43_136 : z_43[136]? = some (.int v136) := (hre_43 136 (by decide)).trans (hfk_42_136)
        have hfk_43_137 : z_43[137]? = some (.ref qf137) := (hre_43 137 (by decide)).trans (hfk_42_137)
        have hrq_43 : ∀ j : Nat, j ≠ 117 → j ≠ 120 → j ≠ 131 → z_43[j]? = zs[j]? := fun j g117 g120 g131 => (hre_43 j g131).trans (hrq_42 j g117 g120 g131)
        obtain ⟨rfl, hz_43⟩ := hwa_43
        rcases hz_43 with rfl | rfl
        · rw [if_pos rfl] at hsp
          refine lv_if_eq (tgt := 1478) hx hb dX13_wanted_1471 (by decide) (fun c_305 => ?_) (fun c_305 => (show False by revert c_305; decide).elim)
          refine lv_iconst (v := 0) hx hb dX13_wanted_1478 (by decide) ?_
          have hr0 := Option.some.inj hsp
          clear hsp
          obtain ⟨hq0, hr1⟩ := Prod.mk.inj hr0
          clear hr0
          obtain ⟨hq1, hr2⟩ := Prod.mk.inj hr1
          clear hr1
          obtain ⟨hq2, hr3⟩ := Prod.mk.inj hr2
          clear hr2
          obtain ⟨hq3, hr4⟩ := Prod.mk.inj hr3
          clear hr3
          obtain ⟨hq4, hr5⟩ := Prod.mk.inj hr4
          clear hr4
          obtain ⟨hq5, hr6⟩ := Prod.mk.inj hr5
          clear hr5
          obtain ⟨hq6, hr7⟩ := Prod.mk.inj hr6
          clear hr6
          obtain ⟨hq7, hr8⟩ := Prod.mk.inj hr7
          clear hr7
          subst hq0
          subst hq1
          subst hq2
          subst hq3
          subst hq4
          subst hq5
          subst hq6
          subst hq7
          subst hr8
          have hP9 := hP.sub (ws' := [(h0, .inr (13, z_43)), (qf100, .inl (cf100, 48000, .inl f100)), (qf128, .inl (cf128, 31, .inl g128_25)), (qf127, .inl (cf127, 30, .inl g127_25)), (qf104, .inl (cf104, 8, .inl f104)), (qf102, .inl (cf102, 2048, .inl f102)), (qf118, .inl (cf118, 2100, .inl g942_1)), (qf119, .inl (cf119, 2100, .inl g942_2)), (qf105, .inl (cf105, 8, .inl f105)), (qf137, .inl (cf137, 6, .inl g137_25))]) [4, 8, 5, 0, 9, 7, 2, 3, 6, 1] rfl
          have hD9 := hD.sub (ws' := [(h0, .inr (13, z_43)), (qf100, .inl (cf100, 48000, .inl f100)), (qf128, .inl (cf128, 31, .inl g128_25)), (qf127, .inl (cf127, 30, .inl g127_25)), (qf104, .inl (cf104, 8, .inl f104)), (qf102, .inl (cf102, 2048, .inl f102)), (qf118, .inl (cf118, 2100, .inl g942_1)), (qf119, .inl (cf119, 2100, .inl g942_2)), (qf105, .inl (cf105, 8, .inl f105)), (qf137, .inl (cf137, 6, .inl g137_25))]) [4, 8, 5, 0, 9, 7, 2, 3, 6, 1] (by decide) rfl
          have hK9 := hK.sub (tys' := [(cf100, .int), (cf128, .int), (cf127, .int), (cf104, .int), (cf102, .int), (cf118, .int), (cf119, .int), (cf105, .int), (cf137, .int)]) [7, 4, 0, 8, 6, 2, 3, 5, 1] rfl
          exact W.zret hx hb hr (by decide) (fun t ht hW => ⟨⟨(0), (z_43), rfl, ⟨⟨rfl, Or.inl rfl⟩, hln_43, hrq_43, hfk_43_117, hfk_43_120, hch_43_131⟩, by rw [ht]; exact hP9, va_K.moved hW.alike hK9, hD9⟩, hS.F ht⟩) hS.2.2 dX13_wanted_1479
        · rw [if_neg (by decide)] at hsp
          refine lv_if_eq (tgt := 1478) hx hb dX13_wanted_1471 (by decide) (fun c_306 => (show False by revert c_306; decide).elim) (fun c_306 => ?_)
          refine lv_iconst (v := 1) hx hb dX13_wanted_1474 (by decide) ?_
          refine lv_goto (tgt := 1479) hx hb dX13_wanted_1475 (by decide) ?_
          have hr0 := Option.some.inj hsp
          clear hsp
          obtain ⟨hq0, hr1⟩ := Prod.mk.inj hr0
          clear hr0
          obtain ⟨hq1, hr2⟩ := Prod.mk.inj hr1
          clear hr1
          obtain ⟨hq2, hr3⟩ := Prod.mk.inj hr2
          clear hr2
          obtain ⟨hq3, hr4⟩ := Prod.mk.inj hr3
          clear hr3
          obtain ⟨hq4, hr5⟩ := Prod.mk.inj hr4
          clear hr4
          obtain ⟨hq5, hr6⟩ := Prod.mk.inj hr5
          clear hr5
          obtain ⟨hq6, hr7⟩ := Prod.mk.inj hr6
          clear hr6
          obtain ⟨hq7, hr8⟩ := Prod.mk.inj hr7
          clear hr7
          subst hq0
          subst hq1
          subst hq2
          subst hq3
          subst hq4
          subst hq5
          subst hq6
          subst hq7
          subst hr8
          have hP9 := hP.sub (ws' := [(h0, .inr (13, z_43)), (qf100, .inl (cf100, 48000, .inl f100)), (qf128, .inl (cf128, 31, .inl g128_25)), (qf127, .inl (cf127, 30, .inl g127_25)), (qf104, .inl (cf104, 8, .inl f104)), (qf102, .inl (cf102, 2048, .inl f102)), (qf118, .inl (cf118, 2100, .inl g942_1)), (qf119, .inl (cf119, 2100, .inl g942_2)), (qf105, .inl (cf105, 8, .inl f105)), (qf137, .inl (cf137, 6, .inl g137_25))]) [4, 8, 5, 0, 9, 7, 2, 3, 6, 1] rfl
          have hD9 := hD.sub (ws' := [(h0, .inr (13, z_43)), (qf100, .inl (cf100, 48000, .inl f100)), (qf128, .inl (cf128, 31, .inl g128_25)), (qf127, .inl (cf127, 30, .inl g127_25)), (qf104, .inl (cf104, 8, .inl f104)), (qf102, .inl (cf102, 2048, .inl f102)), (qf118, .inl (cf118, 2100, .inl g942_1)), (qf119, .inl (cf119, 2100, .inl g942_2)), (qf105, .inl (cf105, 8, .inl f105)), (qf137, .inl (cf137, 6, .inl g137_25))]) [4, 8, 5, 0, 9, 7, 2, 3, 6, 1] (by decide) rfl
          have hK9 := hK.sub (tys' := [(cf100, .int), (cf128, .int), (cf127, .int), (cf104, .int), (cf102, .int), (cf118, .int), (cf119, .int), (cf105, .int), (cf137, .int)]) [7, 4, 0, 8, 6, 2, 3, 5, 1] rfl
          exact W.zret hx hb hr (by decide) (fun t ht hW => ⟨⟨(1), (z_43), rfl, ⟨⟨rfl, Or.inr rfl⟩, hln_43, hrq_43, hfk_43_117, hfk_43_120, hch_43_131⟩, by rw [ht]; exact hP9, va_K.moved hW.alike hK9, hD9⟩, hS.F ht⟩) hS.2.2 dX13_wanted_1479
    rw [if_neg hs_296] at hsp
    by_cases hs_307 : l2_25 = 182
    · rw [if_pos hs_307] at hsp
      refine lv_tableIn (tgt := 1480) hx hb dX13_wanted_27 (by rw [hs_307]; decide) (by rw [hs_307]; decide) (off := 1453) (by rw [hs_307]; rfl) (by decide) ?_
      exact hj_1480 (H, locs, ls, z25, l2_25, s0_25, g118_25, g119_25, g127_25, g128_25, g137_25, x117_25, x120_25, x131_25) ⟨lv_sub hl [1, 2, 0] rfl, hS, hD.sub (ws' := [(h0, .inr (13, z25)), (qf100, .inl (cf100, 48000, .inl f100)), (qf128, .inl (cf128, 31, .inl g128_25)), (qf127, .inl (cf127, 30, .inl g127_25)), (qf104, .inl (cf104, 8, .inl f104)), (qf102, .inl (cf102, 2048, .inl f102)), (qf118, .inl (cf118, 2100, .inl g118_25)), (qf119, .inl (cf119, 2100, .inl g119_25)), (qf105, .inl (cf105, 8, .inl f105)), (qf137, .inl (cf137, 6, .inl g137_25))]) [0, 1, 2, 3, 4, 5, 6, 7, 8, 9] (by decide) rfl, hP.sub (ws' := [(h0, .inr (13, z25)), (qf100, .inl (cf100, 48000, .inl f100)), (qf128, .inl (cf128, 31, .inl g128_25)), (qf127, .inl (cf127, 30, .inl g127_25)), (qf104, .inl (cf104, 8, .inl f104)), (qf102, .inl (cf102, 2048, .inl f102)), (qf118, .inl (cf118, 2100, .inl g118_25)), (qf119, .inl (cf119, 2100, .inl g119_25)), (qf105, .inl (cf105, 8, .inl f105)), (qf137, .inl (cf137, 6, .inl g137_25))]) [0, 1, 2, 3, 4, 5, 6, 7, 8, 9] rfl, hfh_25_98, hfh_25_100, hfh_25_102, hfh_25_104, hfh_25_105, hfh_25_117, hfh_25_118, hfh_25_119, hfh_25_120, hfh_25_127, hfh_25_128, hfh_25_129, hfh_25_130, hfh_25_131, hfh_25_132, hfh_25_134, hfh_25_136, hfh_25_137, hlh_25, hrh_25, hsp⟩
    rw [if_neg hs_307] at hsp
    by_cases hs_308 : l2_25 = 183
    · rw [if_pos hs_308] at hsp
      refine lv_tableIn (tgt := 1642) hx hb dX13_wanted_27 (by rw [hs_308]; decide) (by rw [hs_308]; decide) (off := 1615) (by rw [hs_308]; rfl) (by decide) ?_
      exact hj_1642 (H, locs, ls, z25, g118_25, g119_25, g127_25, g128_25, g137_25, x117_25, x120_25, x131_25) ⟨lv_sub hl [1] rfl, hS, hD.sub (ws' := [(h0, .inr (13, z25)), (qf100, .inl (cf100, 48000, .inl f100)), (qf128, .inl (cf128, 31, .inl g128_25)), (qf127, .inl (cf127, 30, .inl g127_25)), (qf104, .inl (cf104, 8, .inl f104)), (qf102, .inl (cf102, 2048, .inl f102)), (qf118, .inl (cf118, 2100, .inl g118_25)), (qf119, .inl (cf119, 2100, .inl g119_25)), (qf105, .inl (cf105, 8, .inl f105)), (qf137, .inl (cf137, 6, .inl g137_25))]) [0, 1, 2, 3, 4, 5, 6, 7, 8, 9] (by decide) rfl, hP.sub (ws' := [(h0, .inr (13, z25)), (qf100, .inl (cf100, 48000, .inl f100)), (qf128, .inl (cf128, 31, .inl g128_25)), (qf127, .inl (cf127, 30, .inl g127_25)), (qf104, .inl (cf104, 8, .inl f104)), (qf102, .inl (cf102, 2048, .inl f102)), (qf118, .inl (cf118, 2100, .inl g118_25)), (qf119, .inl (cf119, 2100, .inl g119_25)), (qf105, .inl (cf105, 8, .inl f105)), (qf137, .inl (cf137, 6, .inl g137_25))]) [0, 1, 2, 3, 4, 5, 6, 7, 8, 9] rfl, hfh_25_98, hfh_25_100, hfh_25_102, hfh_25_104, hfh_25_105, hfh_25_117, hfh_25_118, hfh_25_119, hfh_25_120, hfh_25_127, hfh_25_128, hfh_25_129, hfh_25_130, hfh_25_131, hfh_25_132, hfh_25_134, hfh_25_136, hfh_25_137, hlh_25, hrh_25, hsp⟩
    rw [if_neg hs_308] at hsp
    by_cases hs_309 : l2_25 = 184
    · rw [if_pos hs_309] at hsp
      refine lv_tableIn (tgt := 1480) hx hb dX13_wanted_27 (by rw [hs_309]; decide) (by rw [hs_309]; decide) (off := 1453) (by rw [hs_309]; rfl) (by decide) ?_
      exact hj_1480 (H, locs, ls, z25, l2_25, s0_25, g118_25, g119_25, g127_25, g128_25, g137_25, x117_25, x120_25, x131_25) ⟨lv_sub hl [1, 2, 0] rfl, hS, hD.sub (ws' := [(h0, .inr (13, z25)), (qf100, .inl (cf100, 48000, .inl f100)), (qf128, .inl (cf128, 31, .inl g128_25)), (qf127, .inl (cf127, 30, .inl g127_25)), (qf104, .inl (cf104, 8, .inl f104)), (qf102, .inl (cf102, 2048, .inl f102)), (qf118, .inl (cf118, 2100, .inl g118_25)), (qf119, .inl (cf119, 2100, .inl g119_25)), (qf105, .inl (cf105, 8, .inl f105)), (qf137, .inl (cf137, 6, .inl g137_25))]) [0, 1, 2, 3, 4, 5, 6, 7, 8, 9] (by decide) rfl, hP.sub (ws' := [(h0, .inr (13, z25)), (qf100, .inl (cf100, 48000, .inl f100)), (qf128, .inl (cf128, 31, .inl g128_25)), (qf127, .inl (cf127, 30, .inl g127_25)), (qf104, .inl (cf104, 8, .inl f104)), (qf102, .inl (cf102, 2048, .inl f102)), (qf118, .inl (cf118, 2100, .inl g118_25)), (qf119, .inl (cf119, 2100, .inl g119_25)), (qf105, .inl (cf105, 8, .inl f105)), (qf137, .inl (cf137, 6, .inl g137_25))]) [0, 1, 2, 3, 4, 5, 6, 7, 8, 9] rfl, hfh_25_98, hfh_25_100, hfh_25_102, hfh_25_104, hfh_25_105, hfh_25_117, hfh_25_118, hfh_25_119, hfh_25_120, hfh_25_127, hfh_25_128, hfh_25_129, hfh_25_130, hfh_25_131, hfh_25_132, hfh_25_134, hfh_25_136, hfh_25_137, hlh_25, hrh_25, hsp⟩
    rw [if_neg hs_309] at hsp
    by_cases hs_310 : l2_25 = 185
    · rw [if_pos hs_310] at hsp
      refine lv_tableIn (tgt := 1642) hx hb dX13_wanted_27 (by rw [hs_310]; decide) (by rw [hs_310]; decide) (off := 1615) (by rw [hs_310]; rfl) (by decide) ?_
      exact hj_1642 (H, locs, ls, z25, g118_25, g119_25, g127_25, g128_25, g137_25, x117_25, x120_25, x131_25) ⟨lv_sub hl [1] rfl, hS, hD.sub (ws' := [(h0, .inr (13, z25)), (qf100, .inl (cf100, 48000, .inl f100)), (qf128, .inl (cf128, 31, .inl g128_25)), (qf127, .inl (cf127, 30, .inl g127_25)), (qf104, .inl (cf104, 8, .inl f104)), (qf102, .inl (cf102, 2048, .inl f102)), (qf118, .inl (cf118, 2100, .inl g118_25)), (qf119, .inl (cf119, 2100, .inl g119_25)), (qf105, .inl (cf105, 8, .inl f105)), (qf137, .inl (cf137, 6, .inl g137_25))]) [0, 1, 2, 3, 4, 5, 6, 7, 8, 9] (by decide) rfl, hP.sub (ws' := [(h0, .inr (13, z25)), (qf100, .inl (cf100, 48000, .inl f100)), (qf128, .inl (cf128, 31, .inl g128_25)), (qf127, .inl (cf127, 30, .inl g127_25)), (qf104, .inl (cf104, 8, .inl f104)), (qf102, .inl (cf102, 2048, .inl f102)), (qf118, .inl (cf118, 2100, .inl g118_25)), (qf119, .inl (cf119, 2100, .inl g119_25)), (qf105, .inl (cf105, 8, .inl f105)), (qf137, .inl (cf137, 6, .inl g137_25))]) [0, 1, 2, 3, 4, 5, 6, 7, 8, 9] rfl, hfh_25_98, hfh_25_100, hfh_25_102, hfh_25_104, hfh_25_105, hfh_25_117, hfh_25_118, hfh_25_119, hfh_25_120, hfh_25_127, hfh_25_128, hfh_25_129, hfh_25_130, hfh_25_131, hfh_25_132, hfh_25_134, hfh_25_136, hfh_25_137, hlh_25, hrh_25, hsp⟩
    rw [if_neg hs_310] at hsp
    by_cases hs_311 : l2_25 = 186
    · rw [if_pos hs_311] at hsp
      refine lv_tableIn (tgt := 1227) hx hb dX13_wanted_27 (by rw [hs_311]; decide) (by rw [hs_311]; decide) (off := 1200) (by rw [hs_311]; rfl) (by decide) ?_
      exact hj_1227 (H, locs, ls, z25, g118_25, g119_25, g127_25, g128_25, g137_25, x117_25, x120_25, x131_25) ⟨lv_sub hl [1] rfl, hS, hD.sub (ws' := [(h0, .inr (13, z25)), (qf100, .inl (cf100, 48000, .inl f100)), (qf128, .inl (cf128, 31, .inl g128_25)), (qf127, .inl (cf127, 30, .inl g127_25)), (qf104, .inl (cf104, 8, .inl f104)), (qf102, .inl (cf102, 2048, .inl f102)), (qf118, .inl (cf118, 2100, .inl g118_25)), (qf119, .inl (cf119, 2100, .inl g119_25)), (qf105, .inl (cf105, 8, .inl f105)), (qf137, .inl (cf137, 6, .inl g137_25))]) [0, 1, 2, 3, 4, 5, 6, 7, 8, 9] (by decide) rfl, hP.sub (ws' := [(h0, .inr (13, z25)), (qf100, .inl (cf100, 48000, .inl f100)), (qf128, .inl (cf128, 31, .inl g128_25)), (qf127, .inl (cf127, 30, .inl g127_25)), (qf104, .inl (cf104, 8, .inl f104)), (qf102, .inl (cf102, 2048, .inl f102)), (qf118, .inl (cf118, 2100, .inl g118_25)), (qf119, .inl (cf119, 2100, .inl g119_25)), (qf105, .inl (cf105, 8, .inl f105)), (qf137, .inl (cf137, 6, .inl g137_25))]) [0, 1, 2, 3, 4, 5, 6, 7, 8, 9] rfl, hfh_25_98, hfh_25_100, hfh_25_102, hfh_25_104, hfh_25_105, hfh_25_117, hfh_25_118, hfh_25_119, hfh_25_120, hfh_25_127, hfh_25_128, hfh_25_129, hfh_25_130, hfh_25_131, hfh_25_132, hfh_25_134, hfh_25_136, hfh_25_137, hlh_25, hrh_25, hsp⟩
    rw [if_neg hs_311] at hsp
    by_cases hs_312 : l2_25 = 187
    · rw [if_pos hs_312] at hsp
      refine lv_tableIn (tgt := 1498) hx hb dX13_wanted_27 (by rw [hs_312]; decide) (by rw [hs_312]; decide) (off := 1471) (by rw [hs_312]; rfl) (by decide) ?_
      refine lv_aload_n hx hb dX13_wanted_1498 rfl (lv_at hl 1 rfl) ?_
      refine lv_aload_n hx hb dX13_wanted_1499 rfl (lv_at hl 1 rfl) ?_
      refine lv_aload_n hx hb dX13_wanted_1500 rfl (lv_at hl 1 rfl) ?_
      refine va_get (D := (dC, dI)) (ci := 13) (v := .int v132) (C := RX13) (T := TX13) (N := 155) hx hb hts uV_h9_X13 hown hK hP 0 rfl rfl 132 (by decide) (hts (.fieldLink RX13 932 "ClassMillModel" "inClass" "I") mw_h9_549) (fun _ h9 => h9) hfh_25_132 dX13_wanted_1501 ?_
      refine lv_iload_n hx hb dX13_wanted_1504 rfl (lv_at hl 0 rfl) ?_
      obtain ⟨⟨u44_0, g944_1, g944_2, u44_3, u44_4⟩, hu_44, hsp⟩ := ox_bind hsp
      try dsimp only at hsp
      have hPc := hP.sub (ws' := [(h0, .inr (13, z25)), (qf102, .inl (cf102, 2048, .inl f102)), (qf100, .inl (cf100, 48000, .inl f100)), (qf104, .inl (cf104, 8, .inl f104)), (qf118, .inl (cf118, 2100, .inl g118_25)), (qf119, .inl (cf119, 2100, .inl g119_25))]) [0, 5, 1, 4, 6, 7] rfl
      have hDc := hD.sub (ws' := [(h0, .inr (13, z25)), (qf102, .inl (cf102, 2048, .inl f102)), (qf100, .inl (cf100, 48000, .inl f100)), (qf104, .inl (cf104, 8, .inl f104)), (qf118, .inl (cf118, 2100, .inl g118_25)), (qf119, .inl (cf119, 2100, .inl g119_25))]) [0, 5, 1, 4, 6, 7] (by decide) rfl
      have hKc := hK.sub (tys' := [(cf102, .int), (cf100, .int), (cf104, .int), (cf118, .int), (cf119, .int)]) [4, 0, 3, 5, 6] rfl
      have hFc := va_free (wc := [(h0, .inr (13, z25)), (qf102, .inl (cf102, 2048, .inl f102)), (qf100, .inl (cf100, 48000, .inl f100)), (qf104, .inl (cf104, 8, .inl f104)), (qf118, .inl (cf118, 2100, .inl g118_25)), (qf119, .inl (cf119, 2100, .inl g119_25))]) hD hS hA [0, 5, 1, 4, 6, 7] rfl
      refine va_calli (va_runV (As := [.int v132, .int s0_25]) (rest := [.ref h0]) ⟨hx, hb, hml, hown, hts⟩ (vm_typeOfClass l dC dI H.size h0 z25 v132 s0_25 v98 qf100 qf102 qf104 x117_25 qf118 qf119 x120_25 cf102 f102 cf100 f100 cf104 f104 cf118 g118_25 cf119 g119_25 nS477 fS477 hS477 qS477 tS477 nf u44_0 g944_1 g944_2 u44_3 u44_4 hlh_25 hfh_25_98 hfh_25_100 hfh_25_102 hfh_25_104 hfh_25_117 hfh_25_118 hfh_25_119 hfh_25_120 hu_44) (cwV 2 hts gv_h9_112 rfl rfl rfl (by decide +kernel) ⟨Nat.le_of_ble_eq_true rfl, Nat.le_of_ble_eq_true rfl⟩) ⟨fun a U g mk q => by obtain ⟨q0, q1, qP, qK, qD, qhZWS477, qhZRS477⟩ := q; exact ⟨q0, q1, qP, va_K.moved (u := U) (U := U.calling g mk a) (Vm.Alike.refl U.vm) qK, qD, pz_W.moved (u := U) (U := U.calling g mk a) (Vm.Alike.refl U.vm) qhZWS477, vk_R.same rfl qhZRS477⟩, va_recv hKc hPc (ci := 13) (q0 := 0) rfl rfl, fun U hU hW => ⟨rfl, by rw [hU], by rw [hU]; exact hPc, va_K.moved hW.alike hKc, hDc.weaken (fun _ _ _ _ => trivial), by rw [hU]; exact ((pz_W.moved hW.alike hZWS477).kept hS.2.1).narrow hFc, vk_R.warm hW hZRS477⟩⟩ rfl rfl hl.1 rfl (lv_room (Nat.le_of_ble_eq_true rfl)) dX13_wanted_1505 ⟨Nat.le_of_ble_eq_true rfl, Nat.le_of_ble_eq_true rfl⟩) hS (fun q _ h => hFc q h) hFc ?_
      clear hS
      intro r_313 u t H1 locs ht hvm hw hB hz1 hk1 hS
      obtain ⟨z_44, rfl⟩ : ∃ z, z = u := ⟨_, rfl⟩
      obtain ⟨hP1, hK1, hD1⟩ := hB
      rw [ht] at hP1
      have hK1 := va_K.moved hvm.symm hK1
      try dsimp only at hw
      have hPD := va_join (wr := [(qf128, .inl (cf128, 31, .inl g128_25)), (qf127, .inl (cf127, 30, .inl g127_25)), (qf105, .inl (cf105, 8, .inl f105)), (qf137, .inl (cf137, 6, .inl g137_25))]) (w1 := [(h0, .inr (13, z_44)), (qf102, .inl (cf102, 2048, .inl f102)), (qf100, .inl (cf100, 48000, .inl f100)), (qf104, .inl (cf104, 8, .inl f104)), (qf118, .inl (cf118, 2100, .inl g944_1)), (qf119, .inl (cf119, 2100, .inl g944_2))]) hP hD [0, 5, 1, 4, 6, 7] [2, 3, 8, 9] rfl rfl (by decide) (by decide) hk1 hFc hP1 hD1
      clear hP hD
      obtain ⟨hP, hD⟩ := hPD
      replace hK := (hK.sub (tys' := [(cf128, .int), (cf127, .int), (cf105, .int), (cf137, .int)]) [1, 2, 7, 8] rfl).app hK1
      clear hPc hDc hKc hFc hP1 hK1 hD1 hz1 hk1 ht hvm
      generalize H1 = H at hP hS ⊢
      replace hP : va_P (dC, dI) vwCl [(qf128, .inl (cf128, 31, .inl g128_25)), (qf127, .inl (cf127, 30, .inl g127_25)), (qf105, .inl (cf105, 8, .inl f105)), (qf137, .inl (cf137, 6, .inl g137_25)), (h0, .inr (13, z_44)), (qf102, .inl (cf102, 2048, .inl f102)), (qf100, .inl (cf100, 48000, .inl f100)), (qf104, .inl (cf104, 8, .inl f104)), (qf118, .inl (cf118, 2100, .inl g944_1)), (qf119, .inl (cf119, 2100, .inl g944_2))] H := hP
      replace hD : va_D A [(qf128, .inl (cf128, 31, .inl g128_25)), (qf127, .inl (cf127, 30, .inl g127_25)), (qf105, .inl (cf105, 8, .inl f105)), (qf137, .inl (cf137, 6, .inl g137_25)), (h0, .inr (13, z_44)), (qf102, .inl (cf102, 2048, .inl f102)), (qf100, .inl (cf100, 48000, .inl f100)), (qf104, .inl (cf104, 8, .inl f104)), (qf118, .inl (cf118, 2100, .inl g944_1)), (qf119, .inl (cf119, 2100, .inl g944_2))] := hD
      replace hK : va_K (dC, dI) vwCl [(cf128, .int), (cf127, .int), (cf105, .int), (cf137, .int), (cf102, .int), (cf100, .int), (cf104, .int), (cf118, .int), (cf119, .int)] s := hK
      obtain ⟨hwa_44, hln_44, hre_44, hch_44_117, hch_44_120⟩ := hw
      have hfk_44_98 : z_44[98]? = some (.int v98) := (hre_44 98 (by decide) (by decide)).trans (hfh_25_98)
      have hfk_44_100 : z_44[100]? = some (.ref qf100) := (hre_44 100 (by decide) (by decide)).trans (hfh_25_100)
      have hfk_44_102 : z_44[102]? = some (.ref qf102) := (hre_44 102 (by decide) (by decide)).trans (hfh_25_102)
      have hfk_44_104 : z_44[104]? = some (.ref qf104) := (hre_44 104 (by decide) (by decide)).trans (hfh_25_104)
      have hfk_44_105 : z_44[105]? = some (.ref qf105) := (hre_44 105 (by decide) (by decide)).trans (hfh_25_105)
      have hfk_44_118 : z_44[118]? = some (.ref qf118) := (hre_44 118 (by decide) (by decide)).trans (hfh_25_118)
      have hfk_44_119 : z_44[119]? = some (.ref qf119) := (hre_44 119 (by decide) (by decide)).trans (hfh_25_119)
      have hfk_44_127 : z_44[127]? = some (.ref qf127) := (hre_44 127 (by decide) (by decide)).trans (hfh_25_127)
      have hfk_44_128 : z_44[128]? = some (.ref qf128) := (hre_44 128 (by decide) (by decide)).trans (hfh_25_128)
      have hfk_44_129 : z_44[129]? = some (.int v129) := (hre_44 129 (by decide) (by decide)).trans (hfh_25_129)
      have hfk_44_130 : z_44[130]? = some (.int v130) := (hre_44 130 (by decide) (by decide)).trans (hfh_25_130)
      have hfk_44_131 : z_44[131]? = some (.int x131_25) := (hre_44 131 (by decide) (by decide)).trans (hfh_25_131)
      have hfk_44_132 : z_44[132]? = some (.int v132) := (hre_44 132 (by decide) (by decide)).trans (hfh_25_132)
      have hfk_44_134 : z_44[134]? = some (.int v134) := (hre_44 134 (by decide) (by decide)).trans (hfh_25_134)
      have hfk_44_136 : z_44[136]? = some (.int v136) := (hre_44 136 (by decide) (by decide)).trans (hfh_25_136)
      have hfk_44_137 : z_44[137]? = some (.ref qf137) := (hre_44 137 (by decide) (by decide)).trans (hfh_25_137)
      have hrq_44 : ∀ j : Nat, j ≠ 117 → j ≠ 120 → j ≠ 131 → z_44[j]? = zs[j]? := fun j g117 g120 g131 => (hre_44 j g117 g120).trans (hrh_25 j g117 g120 g131)
      obtain rfl := hwa_44
      obtain ⟨⟨u45_0, g945_1, u45_2⟩, hu_45, hsp⟩ := ox_bind hsp
      try dsimp only at hsp
      have hPc := hP.sub (ws' := [(h0, .inr (13, z_44)), (qf128, .inl (cf128, 31, .inl g128_25))]) [4, 0] rfl
      have hDc := hD.sub (ws' := [(h0, .inr (13, z_44)), (qf128, .inl (cf128, 31, .inl g128_25))]) [4, 0] (by decide) rfl
      have hKc := hK.sub (tys' := [(cf128, .int)]) [0] rfl
      have hFc := va_free (wc := [(h0, .inr (13, z_44)), (qf128, .inl (cf128, 31, .inl g128_25))]) hD hS hA [4, 0] rfl
      refine va_calli (va_runV (As := [.int u44_0]) (rest := []) ⟨hx, hb, hml, hown, hts⟩ (tm_comesBack l dC dI H.size h0 z_44 u44_0 qf128 v130 x131_25 cf128 g128_25 nf u45_0 g945_1 u45_2 hln_44 hfk_44_128 hfk_44_130 hfk_44_131 hu_45) (cwV 1 hts gv_h9_69 rfl rfl rfl (by decide +kernel) ⟨Nat.le_of_ble_eq_true rfl, Nat.le_of_ble_eq_true rfl⟩) ⟨fun a U g mk q => by obtain ⟨q0, q1, qP, qK, qD⟩ := q; exact ⟨q0, q1, qP, va_K.moved (u := U) (U := U.calling g mk a) (Vm.Alike.refl U.vm) qK, qD⟩, va_recv hKc hPc (ci := 13) (q0 := 0) rfl rfl, fun U hU hW => ⟨rfl, by rw [hU], by rw [hU]; exact hPc, va_K.moved hW.alike hKc, hDc.weaken (fun _ _ _ _ => trivial)⟩⟩ rfl rfl hl.1 rfl (lv_room (Nat.le_of_ble_eq_true rfl)) dX13_wanted_1508 ⟨Nat.le_of_ble_eq_true rfl, Nat.le_of_ble_eq_true rfl⟩) hS (fun q _ h => hFc q h) hFc ?_
      clear hS
      intro r_314 u t H1 locs ht hvm hw hB hz1 hk1 hS
      obtain ⟨z_45, rfl⟩ : ∃ z, z = u := ⟨_, rfl⟩
      obtain ⟨hP1, hK1, hD1⟩ := hB
      rw [ht] at hP1
      have hK1 := va_K.moved hvm.symm hK1
      try dsimp only at hw
      have hPD := va_join (wr := [(qf127, .inl (cf127, 30, .inl g127_25)), (qf105, .inl (cf105, 8, .inl f105)), (qf137, .inl (cf137, 6, .inl g137_25)), (qf102, .inl (cf102, 2048, .inl f102)), (qf100, .inl (cf100, 48000, .inl f100)), (qf104, .inl (cf104, 8, .inl f104)), (qf118, .inl (cf118, 2100, .inl g944_1)), (qf119, .inl (cf119, 2100, .inl g944_2))]) (w1 := [(h0, .inr (13, z_45)), (qf128, .inl (cf128, 31, .inl g945_1))]) hP hD [4, 0] [1, 2, 3, 5, 6, 7, 8, 9] rfl rfl (by decide) (by decide) hk1 hFc hP1 hD1
      clear hP hD
      obtain ⟨hP, hD⟩ := hPD
      replace hK := (hK.sub (tys' := [(cf127, .int), (cf105, .int), (cf137, .int), (cf102, .int), (cf100, .int), (cf104, .int), (cf118, .int), (cf119, .int)]) [1, 2, 3, 4, 5, 6, 7, 8] rfl).app hK1
      clear hPc hDc hKc hFc hP1 hK1 hD1 hz1 hk1 ht hvm
      generalize H1 = H at hP hS ⊢
      replace hP : va_P (dC, dI) vwCl [(qf127, .inl (cf127, 30, .inl g127_25)), (qf105, .inl (cf105, 8, .inl f105)), (qf137, .inl (cf137, 6, .inl g137_25)), (qf102, .inl (cf102, 2048, .inl f102)), (qf100, .inl (cf100, 48000, .inl f100)), (qf104, .inl (cf104, 8, .inl f104)), (qf118, .inl (cf118, 2100, .inl g944_1)), (qf119, .inl (cf119, 2100, .inl g944_2)), (h0, .inr (13, z_45)), (qf128, .inl (cf128, 31, .inl g945_1))] H := hP
      replace hD : va_D A [(qf127, .inl (cf127, 30, .inl g127_25)), (qf105, .inl (cf105, 8, .inl f105)), (qf137, .inl (cf137, 6, .inl g137_25)), (qf102, .inl (cf102, 2048, .inl f102)), (qf100, .inl (cf100, 48000, .inl f100)), (qf104, .inl (cf104, 8, .inl f104)), (qf118, .inl (cf118, 2100, .inl g944_1)), (qf119, .inl (cf119, 2100, .inl g944_2)), (h0, .inr (13, z_45)), (qf128, .inl (cf128, 31, .inl g945_1))] := hD
      replace hK : va_K (dC, dI) vwCl [(cf127, .int), (cf105, .int), (cf137, .int), (cf102, .int), (cf100, .int), (cf104, .int), (cf118, .int), (cf119, .int), (cf128, .int)] s := hK
      obtain ⟨hwa_45, hln_45, hre_45, hch_45_131⟩ := hw
      have hfk_45_98 : z_45[98]? = some (.int v98) := (hre_45 98 (by decide)).trans (hfk_44_98)
      have hfk_45_100 : z_45[100]? = some (.ref qf100) := (hre_45 100 (by decide)).trans (hfk_44_100)
      have hfk_45_102 : z_45[102]? = some (.ref qf102) := (hre_45 102 (by decide)).trans (hfk_44_102)
      have hfk_45_104 : z_45[104]? = some (.ref qf104) := (hre_45 104 (by decide)).trans (hfk_44_104)
      have hfk_45_105 : z_45[105]? = some (.ref qf105) := (hre_45 105 (by decide)).trans (hfk_44_105)
      have hfk_45_117 : z_45[117]? = some (.int u44_3) := (hre_45 117 (by decide)).trans (hch_44_117)
      have hfk_45_118 : z_45[118]? = some (.ref qf118) := (hre_45 118 (by decide)).trans (hfk_44_118)
      have hfk_45_119 : z_45[119]? = some (.ref qf119) := (hre_45 119 (by decide)).trans (hfk_44_119)
      have hfk_45_120 : z_45[120]? = some (.int u44_4) := (hre_45 120 (by decide)).trans (hch_44_120)
      have hfk_45_127 : z_45[127]? = some (.ref qf127) := (hre_45 127 (by decide)).trans (hfk_44_127)
      have hfk_45_128 : z_45[128]? = some (.ref qf128) := (hre_45 128 (by decide)).trans (hfk_44_128)
      have hfk_45_129 : z_45[129]? = some (.int v129) := (hre_45 129 (by decide)).trans (hfk_44_129)
      have hfk_45_130 : z_45[130]? = some (.int v130) := (hre_45 130 (by decide)).trans (hfk_44_130)
      have hfk_45_132 : z_45[132]? = some (.int v132) := (hre_45 132 (by decide)).trans (hfk_44_132)
      have hfk_45_134 : z_45[134]? = some (.int v134) := (hre_45 134 (by decide)).trans (hfk_44_134)
      have hfk_45_136 : z_45[136]? = some (.int v136) := (hre_45 136 (by decide)).trans (hfk_44_136)
      have hfk_45_137 : z_45[137]? = some (.ref qf137) := (hre_45 137 (by decide)).trans (hfk_44_137)
      have hrq_45 : ∀ j : Nat, j ≠ 117 → j ≠ 120 → j ≠ 131 → z_45[j]? = zs[j]? := fun j g117 g120 g131 => (hre_45 j g131).trans (hrq_44 j g117 g120 g131)
      obtain ⟨rfl, hz_45⟩ := hwa_45
      rcases hz_45 with rfl | rfl
      · rw [if_pos rfl] at hsp
        have hr0 := Option.some.inj hsp
        clear hsp
        obtain ⟨hq0, hr1⟩ := Prod.mk.inj hr0
        clear hr0
        obtain ⟨hq1, hr2⟩ := Prod.mk.inj hr1
        clear hr1
        obtain ⟨hq2, hr3⟩ := Prod.mk.inj hr2
        clear hr2
        obtain ⟨hq3, hr4⟩ := Prod.mk.inj hr3
        clear hr3
        obtain ⟨hq4, hr5⟩ := Prod.mk.inj hr4
        clear hr4
        obtain ⟨hq5, hr6⟩ := Prod.mk.inj hr5
        clear hr5
        obtain ⟨hq6, hr7⟩ := Prod.mk.inj hr6
        clear hr6
        obtain ⟨hq7, hr8⟩ := Prod.mk.inj hr7
        clear hr7
        subst hq0
        subst hq1
        subst hq2
        subst hq3
        subst hq4
        subst hq5
        subst hq6
        subst hq7
        subst hr8
        have hP9 := hP.sub (ws' := [(h0, .inr (13, z_45)), (qf100, .inl (cf100, 48000, .inl f100)), (qf128, .inl (cf128, 31, .inl g945_1)), (qf127, .inl (cf127, 30, .inl g127_25)), (qf104, .inl (cf104, 8, .inl f104)), (qf102, .inl (cf102, 2048, .inl f102)), (qf118, .inl (cf118, 2100, .inl g944_1)), (qf119, .inl (cf119, 2100, .inl g944_2)), (qf105, .inl (cf105, 8, .inl f105)), (qf137, .inl (cf137, 6, .inl g137_25))]) [8, 4, 9, 0, 5, 3, 6, 7, 1, 2] rfl
        have hD9 := hD.sub (ws' := [(h0, .inr (13, z_45)), (qf100, .inl (cf100, 48000, .inl f100)), (qf128, .inl (cf128, 31, .inl g945_1)), (qf127, .inl (cf127, 30, .inl g127_25)), (qf104, .inl (cf104, 8, .inl f104)), (qf102, .inl (cf102, 2048, .inl f102)), (qf118, .inl (cf118, 2100, .inl g944_1)), (qf119, .inl (cf119, 2100, .inl g944_2)), (qf105, .inl (cf105, 8, .inl f105)), (qf137, .inl (cf137, 6, .inl g137_25))]) [8, 4, 9, 0, 5, 3, 6, 7, 1, 2] (by decide) rfl
        have hK9 := hK.sub (tys' := [(cf100, .int), (cf128, .int), (cf127, .int), (cf104, .int), (cf102, .int), (cf118, .int), (cf119, .int), (cf105, .int), (cf137, .int)]) [4, 8, 0, 5, 3, 6, 7, 1, 2] rfl
        exact W.zret hx hb hr (by decide) (fun t ht hW => ⟨⟨(0), (z_45), rfl, ⟨⟨rfl, Or.inl rfl⟩, hln_45, hrq_45, hfk_45_117, hfk_45_120, hch_45_131⟩, by rw [ht]; exact hP9, va_K.moved hW.alike hK9, hD9⟩, hS.F ht⟩) hS.2.2 dX13_wanted_1511
      · rw [if_neg (by decide)] at hsp
        have hr0 := Option.some.inj hsp
        clear hsp
        obtain ⟨hq0, hr1⟩ := Prod.mk.inj hr0
        clear hr0
        obtain ⟨hq1, hr2⟩ := Prod.mk.inj hr1
        clear hr1
        obtain ⟨hq2, hr3⟩ := Prod.mk.inj hr2
        clear hr2
        obtain ⟨hq3, hr4⟩ := Prod.mk.inj hr3
        clear hr3
        obtain ⟨hq4, hr5⟩ := Prod.mk.inj hr4
        clear hr4
        obtain ⟨hq5, hr6⟩ := Prod.mk.inj hr5
        clear hr5
        obtain ⟨hq6, hr7⟩ := Prod.mk.inj hr6
        clear hr6
        obtain ⟨hq7, hr8⟩ := Prod.mk.inj hr7
        clear hr7
        subst hq0
        subst hq1
        subst hq2
        subst hq3
        subst hq4
        subst hq5
        subst hq6
        subst hq7
        subst hr8
        have hP9 := hP.sub (ws' := [(h0, .inr (13, z_45)), (qf100, .inl (cf100, 48000, .inl f100)), (qf128, .inl (cf128, 31, .inl g945_1)), (qf127, .inl (cf127, 30, .inl g127_25)), (qf104, .inl (cf104, 8, .inl f104)), (qf102, .inl (cf102, 2048, .inl f102)), (qf118, .inl (cf118, 2100, .inl g944_1)), (qf119, .inl (cf119, 2100, .inl g944_2)), (qf105, .inl (cf105, 8, .inl f105)), (qf137, .inl (cf137, 6, .inl g137_25))]) [8, 4, 9, 0, 5, 3, 6, 7, 1, 2] rfl
        have hD9 := hD.sub (ws' := [(h0, .inr (13, z_45)), (qf100, .inl (cf100, 48000, .inl f100)), (qf128, .inl (cf128, 31, .inl g945_1)), (qf127, .inl (cf127, 30, .inl g127_25)), (qf104, .inl (cf104, 8, .inl f104)), (qf102, .inl (cf102, 2048, .inl f102)), (qf118, .inl (cf118, 2100, .inl g944_1)), (qf119, .inl (cf119, 2100, .inl g944_2)), (qf105, .inl (cf105, 8, .inl f105)), (qf137, .inl (cf137, 6, .inl g137_25))]) [8, 4, 9, 0, 5, 3, 6, 7, 1, 2] (by decide) rfl
        have hK9 := hK.sub (tys' := [(cf100, .int), (cf128, .int), (cf127, .int), (cf104, .int), (cf102, .int), (cf118, .int), (cf119, .int), (cf105, .int), (cf137, .int)]) [4, 8, 0, 5, 3, 6, 7, 1, 2] rfl
        exact W.zret hx hb hr (by decide) (fun t ht hW => ⟨⟨(1), (z_45), rfl, ⟨⟨rfl, Or.inr rfl⟩, hln_45, hrq_45, hfk_45_117, hfk_45_120, hch_45_131⟩, by rw [ht]; exact hP9, va_K.moved hW.alike hK9, hD9⟩, hS.F ht⟩) hS.2.2 dX13_wanted_1511
    rw [if_neg hs_312] at hsp
    by_cases hs_315 : l2_25 = 188
    · rw [if_pos hs_315] at hsp
      refine lv_tableIn (tgt := 1512) hx hb dX13_wanted_27 (by rw [hs_315]; decide) (by rw [hs_315]; decide) (off := 1485) (by rw [hs_315]; rfl) (by decide) ?_
      refine lv_aload_n hx hb dX13_wanted_1512 rfl (lv_at hl 1 rfl) ?_
      refine lv_iconst (v := 1) hx hb dX13_wanted_1513 (by decide) ?_
      obtain ⟨⟨u46_0, u46_1⟩, hu_46, hsp⟩ := ox_bind hsp
      try dsimp only at hsp
      have hPc := hP.sub (ws' := [(h0, .inr (13, z25)), (qf128, .inl (cf128, 31, .inl g128_25))]) [0, 2] rfl
      have hDc := hD.sub (ws' := [(h0, .inr (13, z25)), (qf128, .inl (cf128, 31, .inl g128_25))]) [0, 2] (by decide) rfl
      have hKc := hK.sub (tys' := [(cf128, .int)]) [1] rfl
      have hFc := va_free (wc := [(h0, .inr (13, z25)), (qf128, .inl (cf128, 31, .inl g128_25))]) hD hS hA [0, 2] rfl
      refine va_calli (va_runV (As := [.int 1]) (rest := []) ⟨hx, hb, hml, hown, hts⟩ (tn_pullInts l dC dI H.size h0 z25 1 qf128 x131_25 cf128 g128_25 nf u46_0 u46_1 hlh_25 hfh_25_128 hfh_25_131 hu_46) (cwV 1 hts gv_h9_70 rfl rfl rfl (by decide +kernel) ⟨Nat.le_of_ble_eq_true rfl, Nat.le_of_ble_eq_true rfl⟩) ⟨fun a U g mk q => by obtain ⟨q0, q1, qP, qK, qD⟩ := q; exact ⟨q0, q1, qP, va_K.moved (u := U) (U := U.calling g mk a) (Vm.Alike.refl U.vm) qK, qD⟩, va_recv hKc hPc (ci := 13) (q0 := 0) rfl rfl, fun U hU hW => ⟨rfl, by rw [hU], by rw [hU]; exact hPc, va_K.moved hW.alike hKc, hDc.weaken (fun _ _ _ _ => trivial)⟩⟩ rfl rfl hl.1 rfl (lv_room (Nat.le_of_ble_eq_true rfl)) dX13_wanted_1514 ⟨Nat.le_of_ble_eq_true rfl, Nat.le_of_ble_eq_true rfl⟩) hS (fun q _ h => hFc q h) hFc ?_
      clear hS
      intro r_316 u t H1 locs ht hvm hw hB hz1 hk1 hS
      obtain ⟨z_46, rfl⟩ : ∃ z, z = u := ⟨_, rfl⟩
      obtain ⟨hP1, hK1, hD1⟩ := hB
      rw [ht] at hP1
      have hK1 := va_K.moved hvm.symm hK1
      try dsimp only at hw
      have hPD := va_join (wr := [(qf100, .inl (cf100, 48000, .inl f100)), (qf127, .inl (cf127, 30, .inl g127_25)), (qf104, .inl (cf104, 8, .inl f104)), (qf102, .inl (cf102, 2048, .inl f102)), (qf118, .inl (cf118, 2100, .inl g118_25)), (qf119, .inl (cf119, 2100, .inl g119_25)), (qf105, .inl (cf105, 8, .inl f105)), (qf137, .inl (cf137, 6, .inl g137_25))]) (w1 := [(h0, .inr (13, z_46)), (qf128, .inl (cf128, 31, .inl g128_25))]) hP hD [0, 2] [1, 3, 4, 5, 6, 7, 8, 9] rfl rfl (by decide) (by decide) hk1 hFc hP1 hD1
      clear hP hD
      obtain ⟨hP, hD⟩ := hPD
      replace hK := (hK.sub (tys' := [(cf100, .int), (cf127, .int), (cf104, .int), (cf102, .int), (cf118, .int), (cf119, .int), (cf105, .int), (cf137, .int)]) [0, 2, 3, 4, 5, 6, 7, 8] rfl).app hK1
      clear hPc hDc hKc hFc hP1 hK1 hD1 hz1 hk1 ht hvm
      generalize H1 = H at hP hS ⊢
      replace hP : va_P (dC, dI) vwCl [(qf100, .inl (cf100, 48000, .inl f100)), (qf127, .inl (cf127, 30, .inl g127_25)), (qf104, .inl (cf104, 8, .inl f104)), (qf102, .inl (cf102, 2048, .inl f102)), (qf118, .inl (cf118, 2100, .inl g118_25)), (qf119, .inl (cf119, 2100, .inl g119_25)), (qf105, .inl (cf105, 8, .inl f105)), (qf137, .inl (cf137, 6, .inl g137_25)), (h0, .inr (13, z_46)), (qf128, .inl (cf128, 31, .inl g128_25))] H := hP
      replace hD : va_D A [(qf100, .inl (cf100, 48000, .inl f100)), (qf127, .inl (cf127, 30, .inl g127_25)), (qf104, .inl (cf104, 8, .inl f104)), (qf102, .inl (cf102, 2048, .inl f102)), (qf118, .inl (cf118, 2100, .inl g118_25)), (qf119, .inl (cf119, 2100, .inl g119_25)), (qf105, .inl (cf105, 8, .inl f105)), (qf137, .inl (cf137, 6, .inl g137_25)), (h0, .inr (13, z_46)), (qf128, .inl (cf128, 31, .inl g128_25))] := hD
      replace hK : va_K (dC, dI) vwCl [(cf100, .int), (cf127, .int), (cf104, .int), (cf102, .int), (cf118, .int), (cf119, .int), (cf105, .int), (cf137, .int), (cf128, .int)] s := hK
      obtain ⟨hwa_46, hln_46, hre_46, hch_46_131⟩ := hw
      have hfk_46_98 : z_46[98]? = some (.int v98) := (hre_46 98 (by decide)).trans (hfh_25_98)
      have hfk_46_100 : z_46[100]? = some (.ref qf100) := (hre_46 100 (by decide)).trans (hfh_25_100)
      have hfk_46_102 : z_46[102]? = some (.ref qf102) := (hre_46 102 (by decide)).trans (hfh_25_102)
      have hfk_46_104 : z_46[104]? = some (.ref qf104) := (hre_46 104 (by decide)).trans (hfh_25_104)
      have hfk_46_105 : z_46[105]? = some (.ref qf105) := (hre_46 105 (by decide)).trans (hfh_25_105)
      have hfk_46_117 : z_46[117]? = some (.int x117_25) := (hre_46 117 (by decide)).trans (hfh_25_117)
      have hfk_46_118 : z_46[118]? = some (.ref qf118) := (hre_46 118 (by decide)).trans (hfh_25_118)
      have hfk_46_119 : z_46[119]? = some (.ref qf119) := (hre_46 119 (by decide)).trans (hfh_25_119)
      have hfk_46_120 : z_46[120]? = some (.int x120_25) := (hre_46 120 (by decide)).trans (hfh_25_120)
      have hfk_46_127 : z_46[127]? = some (.ref qf127) := (hre_46 127 (by decide)).trans (hfh_25_127)
      have hfk_46_128 : z_46[128]? = some (.ref qf128) := (hre_46 128 (by decide)).trans (hfh_25_128)
      have hfk_46_129 : z_46[129]? = some (.int v129) := (hre_46 129 (by decide)).trans (hfh_25_129)
      have hfk_46_130 : z_46[130]? = some (.int v130) := (hre_46 130 (by decide)).trans (hfh_25_130)
      have hfk_46_132 : z_46[132]? = some (.int v132) := (hre_46 132 (by decide)).trans (hfh_25_132)
      have hfk_46_134 : z_46[134]? = some (.int v134) := (hre_46 134 (by decide)).trans (hfh_25_134)
      have hfk_46_136 : z_46[136]? = some (.int v136) := (hre_46 136 (by decide)).trans (hfh_25_136)
      have hfk_46_137 : z_46[137]? = some (.ref qf137) := (hre_46 137 (by decide)).trans (hfh_25_137)
      have hrq_46 : ∀ j : Nat, j ≠ 117 → j ≠ 120 → j ≠ 131 → z_46[j]? = zs[j]? := fun j g117 g120 g131 => (hre_46 j g131).trans (hrh_25 j g117 g120 g131)
      obtain ⟨rfl, hz_46⟩ := hwa_46
      rcases hz_46 with rfl | rfl
      · rw [if_pos rfl] at hsp
        refine lv_if_eq (tgt := 1532) hx hb dX13_wanted_1517 (by decide) (fun c_317 => ?_) (fun c_317 => (show False by revert c_317; decide).elim)
        refine lv_iconst (v := 0) hx hb dX13_wanted_1532 (by decide) ?_
        have hr0 := Option.some.inj hsp
        clear hsp
        obtain ⟨hq0, hr1⟩ := Prod.mk.inj hr0
        clear hr0
        obtain ⟨hq1, hr2⟩ := Prod.mk.inj hr1
        clear hr1
        obtain ⟨hq2, hr3⟩ := Prod.mk.inj hr2
        clear hr2
        obtain ⟨hq3, hr4⟩ := Prod.mk.inj hr3
        clear hr3
        obtain ⟨hq4, hr5⟩ := Prod.mk.inj hr4
        clear hr4
        obtain ⟨hq5, hr6⟩ := Prod.mk.inj hr5
        clear hr5
        obtain ⟨hq6, hr7⟩ := Prod.mk.inj hr6
        clear hr6
        obtain ⟨hq7, hr8⟩ := Prod.mk.inj hr7
        clear hr7
        subst hq0
        subst hq1
        subst hq2
        subst hq3
        subst hq4
        subst hq5
        subst hq6
        subst hq7
        subst hr8
        have hP9 := hP.sub (ws' := [(h0, .inr (13, z_46)), (qf100, .inl (cf100, 48000, .inl f100)), (qf128, .inl (cf128, 31, .inl g128_25)), (qf127, .inl (cf127, 30, .inl g127_25)), (qf104, .inl (cf104, 8, .inl f104)), (qf102, .inl (cf102, 2048, .inl f102)), (qf118, .inl (cf118, 2100, .inl g118_25)), (qf119, .inl (cf119, 2100, .inl g119_25)), (qf105, .inl (cf105, 8, .inl f105)), (qf137, .inl (cf137, 6, .inl g137_25))]) [8, 0, 9, 1, 2, 3, 4, 5, 6, 7] rfl
        have hD9 := hD.sub (ws' := [(h0, .inr (13, z_46)), (qf100, .inl (cf100, 48000, .inl f100)), (qf128, .inl (cf128, 31, .inl g128_25)), (qf127, .inl (cf127, 30, .inl g127_25)), (qf104, .inl (cf104, 8, .inl f104)), (qf102, .inl (cf102, 2048, .inl f102)), (qf118, .inl (cf118, 2100, .inl g118_25)), (qf119, .inl (cf119, 2100, .inl g119_25)), (qf105, .inl (cf105, 8, .inl f105)), (qf137, .inl (cf137, 6, .inl g137_25))]) [8, 0, 9, 1, 2, 3, 4, 5, 6, 7] (by decide) rfl
        have hK9 := hK.sub (tys' := [(cf100, .int), (cf128, .int), (cf127, .int), (cf104, .int), (cf102, .int), (cf118, .int), (cf119, .int), (cf105, .int), (cf137, .int)]) [0, 8, 1, 2, 3, 4, 5, 6, 7] rfl
        exact W.zret hx hb hr (by decide) (fun t ht hW => ⟨⟨(0), (z_46), rfl, ⟨⟨rfl, Or.inl rfl⟩, hln_46, hrq_46, hfk_46_117, hfk_46_120, hch_46_131⟩, by rw [ht]; exact hP9, va_K.moved hW.alike hK9, hD9⟩, hS.F ht⟩) hS.2.2 dX13_wanted_1533
      · rw [if_neg (by decide)] at hsp
        refine lv_if_eq (tgt := 1532) hx hb dX13_wanted_1517 (by decide) (fun c_318 => (show False by revert c_318; decide).elim) (fun c_318 => ?_)
        refine lv_aload_n hx hb dX13_wanted_1520 rfl (lv_at hl 1 rfl) ?_
        refine lv_iconst (v := 3) hx hb dX13_wanted_1521 (by decide) ?_
        obtain ⟨⟨u47_0, g947_1, u47_2⟩, hu_47, hsp⟩ := ox_bind hsp
        try dsimp only at hsp
        have hPc := hP.sub (ws' := [(h0, .inr (13, z_46)), (qf128, .inl (cf128, 31, .inl g128_25))]) [8, 9] rfl
        have hDc := hD.sub (ws' := [(h0, .inr (13, z_46)), (qf128, .inl (cf128, 31, .inl g128_25))]) [8, 9] (by decide) rfl
        have hKc := hK.sub (tys' := [(cf128, .int)]) [8] rfl
        have hFc := va_free (wc := [(h0, .inr (13, z_46)), (qf128, .inl (cf128, 31, .inl g128_25))]) hD hS hA [8, 9] rfl
        refine va_calli (va_runV (As := [.int 3]) (rest := []) ⟨hx, hb, hml, hown, hts⟩ (tm_comesBack l dC dI H.size h0 z_46 3 qf128 v130 u46_1 cf128 g128_25 nf u47_0 g947_1 u47_2 hln_46 hfk_46_128 hfk_46_130 hch_46_131 hu_47) (cwV 1 hts gv_h9_69 rfl rfl rfl (by decide +kernel) ⟨Nat.le_of_ble_eq_true rfl, Nat.le_of_ble_eq_true rfl⟩) ⟨fun a U g mk q => by obtain ⟨q0, q1, qP, qK, qD⟩ := q; exact ⟨q0, q1, qP, va_K.moved (u := U) (U := U.calling g mk a) (Vm.Alike.refl U.vm) qK, qD⟩, va_recv hKc hPc (ci := 13) (q0 := 0) rfl rfl, fun U hU hW => ⟨rfl, by rw [hU], by rw [hU]; exact hPc, va_K.moved hW.alike hKc, hDc.weaken (fun _ _ _ _ => trivial)⟩⟩ rfl rfl hl.1 rfl (lv_room (Nat.le_of_ble_eq_true rfl)) dX13_wanted_1522 ⟨Nat.le_of_ble_eq_true rfl, Nat.le_of_ble_eq_true rfl⟩) hS (fun q _ h => hFc q h) hFc ?_
        clear hS
        intro r_319 u t H1 locs ht hvm hw hB hz1 hk1 hS
        obtain ⟨z_47, rfl⟩ : ∃ z, z = u := ⟨_, rfl⟩
        obtain ⟨hP1, hK1, hD1⟩ := hB
        rw [ht] at hP1
        have hK1 := va_K.moved hvm.symm hK1
        try dsimp only at hw
        have hPD := va_join (wr := [(qf100, .inl (cf100, 48000, .inl f100)), (qf127, .inl (cf127, 30, .inl g127_25)), (qf104, .inl (cf104, 8, .inl f104)), (qf102, .inl (cf102, 2048, .inl f102)), (qf118, .inl (cf118, 2100, .inl g118_25)), (qf119, .inl (cf119, 2100, .inl g119_25)), (qf105, .inl (cf105, 8, .inl f105)), (qf137, .inl (cf137, 6, .inl g137_25))]) (w1 := [(h0, .inr (13, z_47)), (qf128, .inl (cf128, 31, .inl g947_1))]) hP hD [8, 9] [0, 1, 2, 3, 4, 5, 6, 7] rfl rfl (by decide) (by decide) hk1 hFc hP1 hD1
        clear hP hD
        obtain ⟨hP, hD⟩ := hPD
        replace hK := (hK.sub (tys' := [(cf100, .int), (cf127, .int), (cf104, .int), (cf102, .int), (cf118, .int), (cf119, .int), (cf105, .int), (cf137, .int)]) [0, 1, 2, 3, 4, 5, 6, 7] rfl).app hK1
        clear hPc hDc hKc hFc hP1 hK1 hD1 hz1 hk1 ht hvm
        generalize H1 = H at hP hS ⊢
        replace hP : va_P (dC, dI) vwCl [(qf100, .inl (cf100, 48000, .inl f100)), (qf127, .inl (cf127, 30, .inl g127_25)), (qf104, .inl (cf104, 8, .inl f104)), (qf102, .inl (cf102, 2048, .inl f102)), (qf118, .inl (cf118, 2100, .inl g118_25)), (qf119, .inl (cf119, 2100, .inl g119_25)), (qf105, .inl (cf105, 8, .inl f105)), (qf137, .inl (cf137, 6, .inl g137_25)), (h0, .inr (13, z_47)), (qf128, .inl (cf128, 31, .inl g947_1))] H := hP
        replace hD : va_D A [(qf100, .inl (cf100, 48000, .inl f100)), (qf127, .inl (cf127, 30, .inl g127_25)), (qf104, .inl (cf104, 8, .inl f104)), (qf102, .inl (cf102, 2048, .inl f102)), (qf118, .inl (cf118, 2100, .inl g118_25)), (qf119, .inl (cf119, 2100, .inl g119_25)), (qf105, .inl (cf105, 8, .inl f105)), (qf137, .inl (cf137, 6, .inl g137_25)), (h0, .inr (13, z_47)), (qf128, .inl (cf128, 31, .inl g947_1))] := hD
        replace hK : va_K (dC, dI) vwCl [(cf100, .int), (cf127, .int), (cf104, .int), (cf102, .int), (cf118, .int), (cf119, .int), (cf105, .int), (cf137, .int), (cf128, .int)] s := hK
        obtain ⟨hwa_47, hln_47, hre_47, hch_47_131⟩ := hw
        have hfk_47_98 : z_47[98]? = some (.int v98) := (hre_47 98 (by decide)).trans (hfk_46_98)
        have hfk_47_100 : z_47[100]? = some (.ref qf100) := (hre_47 100 (by decide)).trans (hfk_46_100)
        have hfk_47_102 : z_47[102]? = some (.ref qf102) := (hre_47 102 (by decide)).trans (hfk_46_102)
        have hfk_47_104 : z_47[104]? = some (.ref qf104) := (hre_47 104 (by decide)).trans (hfk_46_104)
        have hfk_47_105 : z_47[105]? = some (.ref qf105) := (hre_47 105 (by decide)).trans (hfk_46_105)
        have hfk_47_117 : z_47[117]? = some (.int x117_25) := (hre_47 117 (by decide)).trans (hfk_46_117)
        have hfk_47_118 : z_47[118]? = some (.ref qf118) := (hre_47 118 (by decide)).trans (hfk_46_118)
        have hfk_47_119 : z_47[119]? = some (.ref qf119) := (hre_47 119 (by decide)).trans (hfk_46_119)
        have hfk_47_120 : z_47[120]? = some (.int x120_25) := (hre_47 120 (by decide)).trans (hfk_46_120)
        have hfk_47_127 : z_47[127]? = some (.ref qf127) := (hre_47 127 (by decide)).trans (hfk_46_127)
        have hfk_47_128 : z_47[128]? = some (.ref qf128) := (hre_47 128 (by decide)).trans (hfk_46_128)
        have hfk_47_129 : z_47[129]? = some (.int v129) := (hre_47 129 (by decide)).trans (hfk_46_129)
        have hfk_47_130 : z_47[130]? = some (.int v130) := (hre_47 130 (by decide)).trans (hfk_46_130)
        have hfk_47_132 : z_47[132]? = some (.int v132) := (hre_47 132 (by decide)).trans (hfk_46_132)
        have hfk_47_134 : z_47[134]? = some (.int v134) := (hre_47 134 (by decide)).trans (hfk_46_134)
        have hfk_47_136 : z_47[136]? = some (.int v136) := (hre_47 136 (by decide)).trans (hfk_46_136)
        have hfk_47_137 : z_47[137]? = some (.ref qf137) := (hre_47 137 (by decide)).trans (hfk_46_137)
        have hrq_47 : ∀ j : Nat, j ≠ 117 → j ≠ 120 → j ≠ 131 → z_47[j]? = zs[j]? := fun j g117 g120 g131 => (hre_47 j g131).trans (hrq_46 j g117 g120 g131)
        obtain ⟨rfl, hz_47⟩ := hwa_47
        rcases hz_47 with rfl | rfl
        · rw [if_pos rfl] at hsp
          refine lv_if_eq (tgt := 1532) hx hb dX13_wanted_1525 (by decide) (fun c_320 => ?_) (fun c_320 => (show False by revert c_320; decide).elim)
          refine lv_iconst (v := 0) hx hb dX13_wanted_1532 (by decide) ?_
          have hr0 := Option.some.inj hsp
          clear hsp
          obtain ⟨hq0, hr1⟩ := Prod.mk.inj hr0
          clear hr0
          obtain ⟨hq1, hr2⟩ := Prod.mk.inj hr1
          clear hr1
          obtain ⟨hq2, hr3⟩ := Prod.mk.inj hr2
          clear hr2
          obtain ⟨hq3, hr4⟩ := Prod.mk.inj hr3
          clear hr3
          obtain ⟨hq4, hr5⟩ := Prod.mk.inj hr4
          clear hr4
          obtain ⟨hq5, hr6⟩ := Prod.mk.inj hr5
          clear hr5
          obtain ⟨hq6, hr7⟩ := Prod.mk.inj hr6
          clear hr6
          obtain ⟨hq7, hr8⟩ := Prod.mk.inj hr7
          clear hr7
          subst hq0
          subst hq1
          subst hq2
          subst hq3
          subst hq4
          subst hq5
          subst hq6
          subst hq7
          subst hr8
          have hP9 := hP.sub (ws' := [(h0, .inr (13, z_47)), (qf100, .inl (cf100, 48000, .inl f100)), (qf128, .inl (cf128, 31, .inl g947_1)), (qf127, .inl (cf127, 30, .inl g127_25)), (qf104, .inl (cf104, 8, .inl f104)), (qf102, .inl (cf102, 2048, .inl f102)), (qf118, .inl (cf118, 2100, .inl g118_25)), (qf119, .inl (cf119, 2100, .inl g119_25)), (qf105, .inl (cf105, 8, .inl f105)), (qf137, .inl (cf137, 6, .inl g137_25))]) [8, 0, 9, 1, 2, 3, 4, 5, 6, 7] rfl
          have hD9 := hD.sub (ws' := [(h0, .inr (13, z_47)), (qf100, .inl (cf100, 48000, .inl f100)), (qf128, .inl (cf128, 31, .inl g947_1)), (qf127, .inl (cf127, 30, .inl g127_25)), (qf104, .inl (cf104, 8, .inl f104)), (qf102, .inl (cf102, 2048, .inl f102)), (qf118, .inl (cf118, 2100, .inl g118_25)), (qf119, .inl (cf119, 2100, .inl g119_25)), (qf105, .inl (cf105, 8, .inl f105)), (qf137, .inl (cf137, 6, .inl g137_25))]) [8, 0, 9, 1, 2, 3, 4, 5, 6, 7] (by decide) rfl
          have hK9 := hK.sub (tys' := [(cf100, .int), (cf128, .int), (cf127, .int), (cf104, .int), (cf102, .int), (cf118, .int), (cf119, .int), (cf105, .int), (cf137, .int)]) [0, 8, 1, 2, 3, 4, 5, 6, 7] rfl
          exact W.zret hx hb hr (by decide) (fun t ht hW => ⟨⟨(0), (z_47), rfl, ⟨⟨rfl, Or.inl rfl⟩, hln_47, hrq_47, hfk_47_117, hfk_47_120, hch_47_131⟩, by rw [ht]; exact hP9, va_K.moved hW.alike hK9, hD9⟩, hS.F ht⟩) hS.2.2 dX13_wanted_1533
        · rw [if_neg (by decide)] at hsp
          refine lv_if_eq (tgt := 1532) hx hb dX13_wanted_1525 (by decide) (fun c_321 => (show False by revert c_321; decide).elim) (fun c_321 => ?_)
          refine lv_iconst (v := 1) hx hb dX13_wanted_1528 (by decide) ?_
          refine lv_goto (tgt := 1533) hx hb dX13_wanted_1529 (by decide) ?_
          have hr0 := Option.some.inj hsp
          clear hsp
          obtain ⟨hq0, hr1⟩ := Prod.mk.inj hr0
          clear hr0
          obtain ⟨hq1, hr2⟩ := Prod.mk.inj hr1
          clear hr1
          obtain ⟨hq2, hr3⟩ := Prod.mk.inj hr2
          clear hr2
          obtain ⟨hq3, hr4⟩ := Prod.mk.inj hr3
          clear hr3
          obtain ⟨hq4, hr5⟩ := Prod.mk.inj hr4
          clear hr4
          obtain ⟨hq5, hr6⟩ := Prod.mk.inj hr5
          clear hr5
          obtain ⟨hq6, hr7⟩ := Prod.mk.inj hr6
          clear hr6
          obtain ⟨hq7, hr8⟩ := Prod.mk.inj hr7
          clear hr7
          subst hq0
          subst hq1
          subst hq2
          subst hq3
          subst hq4
          subst hq5
          subst hq6
          subst hq7
          subst hr8
          have hP9 := hP.sub (ws' := [(h0, .inr (13, z_47)), (qf100, .inl (cf100, 48000, .inl f100)), (qf128, .inl (cf128, 31, .inl g947_1)), (qf127, .inl (cf127, 30, .inl g127_25)), (qf104, .inl (cf104, 8, .inl f104)), (qf102, .inl (cf102, 2048, .inl f102)), (qf118, .inl (cf118, 2100, .inl g118_25)), (qf119, .inl (cf119, 2100, .inl g119_25)), (qf105, .inl (cf105, 8, .inl f105)), (qf137, .inl (cf137, 6, .inl g137_25))]) [8, 0, 9, 1, 2, 3, 4, 5, 6, 7] rfl
          have hD9 := hD.sub (ws' := [(h0, .inr (13, z_47)), (qf100, .inl (cf100, 48000, .inl f100)), (qf128, .inl (cf128, 31, .inl g947_1)), (qf127, .inl (cf127, 30, .inl g127_25)), (qf104, .inl (cf104, 8, .inl f104)), (qf102, .inl (cf102, 2048, .inl f102)), (qf118, .inl (cf118, 2100, .inl g118_25)), (qf119, .inl (cf119, 2100, .inl g119_25)), (qf105, .inl (cf105, 8, .inl f105)), (qf137, .inl (cf137, 6, .inl g137_25))]) [8, 0, 9, 1, 2, 3, 4, 5, 6, 7] (by decide) rfl
          have hK9 := hK.sub (tys' := [(cf100, .int), (cf128, .int), (cf127, .int), (cf104, .int), (cf102, .int), (cf118, .int), (cf119, .int), (cf105, .int), (cf137, .int)]) [0, 8, 1, 2, 3, 4, 5, 6, 7] rfl
          exact W.zret hx hb hr (by decide) (fun t ht hW => ⟨⟨(1), (z_47), rfl, ⟨⟨rfl, Or.inr rfl⟩, hln_47, hrq_47, hfk_47_117, hfk_47_120, hch_47_131⟩, by rw [ht]; exact hP9, va_K.moved hW.alike hK9, hD9⟩, hS.F ht⟩) hS.2.2 dX13_wanted_1533
    rw [if_neg hs_315] at hsp
    by_cases hs_322 : l2_25 = 189
    · rw [if_pos hs_322] at hsp
      refine lv_tableIn (tgt := 1534) hx hb dX13_wanted_27 (by rw [hs_322]; decide) (by rw [hs_322]; decide) (off := 1507) (by rw [hs_322]; rfl) (by decide) ?_
      refine lv_aload_n hx hb dX13_wanted_1534 rfl (lv_at hl 1 rfl) ?_
      refine lv_iconst (v := 1) hx hb dX13_wanted_1535 (by decide) ?_
      obtain ⟨⟨u48_0, u48_1⟩, hu_48, hsp⟩ := ox_bind hsp
      try dsimp only at hsp
      have hPc := hP.sub (ws' := [(h0, .inr (13, z25)), (qf128, .inl (cf128, 31, .inl g128_25))]) [0, 2] rfl
      have hDc := hD.sub (ws' := [(h0, .inr (13, z25)), (qf128, .inl (cf128, 31, .inl g128_25))]) [0, 2] (by decide) rfl
      have hKc := hK.sub (tys' := [(cf128, .int)]) [1] rfl
      have hFc := va_free (wc := [(h0, .inr (13, z25)), (qf128, .inl (cf128, 31, .inl g128_25))]) hD hS hA [0, 2] rfl
      refine va_calli (va_runV (As := [.int 1]) (rest := []) ⟨hx, hb, hml, hown, hts⟩ (tn_pullInts l dC dI H.size h0 z25 1 qf128 x131_25 cf128 g128_25 nf u48_0 u48_1 hlh_25 hfh_25_128 hfh_25_131 hu_48) (cwV 1 hts gv_h9_70 rfl rfl rfl (by decide +kernel) ⟨Nat.le_of_ble_eq_true rfl, Nat.le_of_ble_eq_true rfl⟩) ⟨fun a U g mk q => by obtain ⟨q0, q1, qP, qK, qD⟩ := q; exact ⟨q0, q1, qP, va_K.moved (u := U) (U := U.calling g mk a) (Vm.Alike.refl U.vm) qK, qD⟩, va_recv hKc hPc (ci := 13) (q0 := 0) rfl rfl, fun U hU hW => ⟨rfl, by rw [hU], by rw [hU]; exact hPc, va_K.moved hW.alike hKc, hDc.weaken (fun _ _ _ _ => trivial)⟩⟩ rfl rfl hl.1 rfl (lv_room (Nat.le_of_ble_eq_true rfl)) dX13_wanted_1536 ⟨Nat.le_of_ble_eq_true rfl, Nat.le_of_ble_eq_true rfl⟩) hS (fun q _ h => hFc q h) hFc ?_
      clear hS
      intro r_323 u t H1 locs ht hvm hw hB hz1 hk1 hS
      obtain ⟨z_48, rfl⟩ : ∃ z, z = u := ⟨_, rfl⟩
      obtain ⟨hP1, hK1, hD1⟩ := hB
      rw [ht] at hP1
      have hK1 := va_K.moved hvm.symm hK1
      try dsimp only at hw
      have hPD := va_join (wr := [(qf100, .inl (cf100, 48000, .inl f100)), (qf127, .inl (cf127, 30, .inl g127_25)), (qf104, .inl (cf104, 8, .inl f104)), (qf102, .inl (cf102, 2048, .inl f102)), (qf118, .inl (cf118, 2100, .inl g118_25)), (qf119, .inl (cf119, 2100, .inl g119_25)), (qf105, .inl (cf105, 8, .inl f105)), (qf137, .inl (cf137, 6, .inl g137_25))]) (w1 := [(h0, .inr (13, z_48)), (qf128, .inl (cf128, 31, .inl g128_25))]) hP hD [0, 2] [1, 3, 4, 5, 6, 7, 8, 9] rfl rfl (by decide) (by decide) hk1 hFc hP1 hD1
      clear hP hD
      obtain ⟨hP, hD⟩ := hPD
      replace hK := (hK.sub (tys' := [(cf100, .int), (cf127, .int), (cf104, .int), (cf102, .int), (cf118, .int), (cf119, .int), (cf105, .int), (cf137, .int)]) [0, 2, 3, 4, 5, 6, 7, 8] rfl).app hK1
      clear hPc hDc hKc hFc hP1 hK1 hD1 hz1 hk1 ht hvm
      generalize H1 = H at hP hS ⊢
      replace hP : va_P (dC, dI) vwCl [(qf100, .inl (cf100, 48000, .inl f100)), (qf127, .inl (cf127, 30, .inl g127_25)), (qf104, .inl (cf104, 8, .inl f104)), (qf102, .inl (cf102, 2048, .inl f102)), (qf118, .inl (cf118, 2100, .inl g118_25)), (qf119, .inl (cf119, 2100, .inl g119_25)), (qf105, .inl (cf105, 8, .inl f105)), (qf137, .inl (cf137, 6, .inl g137_25)), (h0, .inr (13, z_48)), (qf128, .inl (cf128, 31, .inl g128_25))] H := hP
      replace hD : va_D A [(qf100, .inl (cf100, 48000, .inl f100)), (qf127, .inl (cf127, 30, .inl g127_25)), (qf104, .inl (cf104, 8, .inl f104)), (qf102, .inl (cf102, 2048, .inl f102)), (qf118, .inl (cf118, 2100, .inl g118_25)), (qf119, .inl (cf119, 2100, .inl g119_25)), (qf105, .inl (cf105, 8, .inl f105)), (qf137, .inl (cf137, 6, .inl g137_25)), (h0, .inr (13, z_48)), (qf128, .inl (cf128, 31, .inl g128_25))] := hD
      replace hK : va_K (dC, dI) vwCl [(cf100, .int), (cf127, .int), (cf104, .int), (cf102, .int), (cf118, .int), (cf119, .int), (cf105, .int), (cf137, .int), (cf128, .int)] s := hK
      obtain ⟨hwa_48, hln_48, hre_48, hch_48_131⟩ := hw
      have hfk_48_98 : z_48[98]? = some (.int v98) := (hre_48 98 (by decide)).trans (hfh_25_98)
      have hfk_48_100 : z_48[100]? = some (.ref qf100) := (hre_48 100 (by decide)).trans (hfh_25_100)
      have hfk_48_102 : z_48[102]? = some (.ref qf102) := (hre_48 102 (by decide)).trans (hfh_25_102)
      have hfk_48_104 : z_48[104]? = some (.ref qf104) := (hre_48 104 (by decide)).trans (hfh_25_104)
      have hfk_48_105 : z_48[105]? = some (.ref qf105) := (hre_48 105 (by decide)).trans (hfh_25_105)
      have hfk_48_117 : z_48[117]? = some (.int x117_25) := (hre_48 117 (by decide)).trans (hfh_25_117)
      have hfk_48_118 : z_48[118]? = some (.ref qf118) := (hre_48 118 (by decide)).trans (hfh_25_118)
      have hfk_48_119 : z_48[119]? = some (.ref qf119) := (hre_48 119 (by decide)).trans (hfh_25_119)
      have hfk_48_120 : z_48[120]? = some (.int x120_25) := (hre_48 120 (by decide)).trans (hfh_25_120)
      have hfk_48_127 : z_48[127]? = some (.ref qf127) := (hre_48 127 (by decide)).trans (hfh_25_127)
      have hfk_48_128 : z_48[128]? = some (.ref qf128) := (hre_48 128 (by decide)).trans (hfh_25_128)
      have hfk_48_129 : z_48[129]? = some (.int v129) := (hre_48 129 (by decide)).trans (hfh_25_129)
      have hfk_48_130 : z_48[130]? = some (.int v130) := (hre_48 130 (by decide)).trans (hfh_25_130)
      have hfk_48_132 : z_48[132]? = some (.int v132) := (hre_48 132 (by decide)).trans (hfh_25_132)
      have hfk_48_134 : z_48[134]? = some (.int v134) := (hre_48 134 (by decide)).trans (hfh_25_134)
      have hfk_48_136 : z_48[136]? = some (.int v136) := (hre_48 136 (by decide)).trans (hfh_25_136)
      have hfk_48_137 : z_48[137]? = some (.ref qf137) := (hre_48 137 (by decide)).trans (hfh_25_137)
      have hrq_48 : ∀ j : Nat, j ≠ 117 → j ≠ 120 → j ≠ 131 → z_48[j]? = zs[j]? := fun j g117 g120 g131 => (hre_48 j g131).trans (hrh_25 j g117 g120 g131)
      obtain ⟨rfl, hz_48⟩ := hwa_48
      rcases hz_48 with rfl | rfl
      · rw [if_pos rfl] at hsp
        refine lv_if_eq (tgt := 1564) hx hb dX13_wanted_1539 (by decide) (fun c_324 => ?_) (fun c_324 => (show False by revert c_324; decide).elim)
        refine lv_iconst (v := 0) hx hb dX13_wanted_1564 (by decide) ?_
        have hr0 := Option.some.inj hsp
        clear hsp
        obtain ⟨hq0, hr1⟩ := Prod.mk.inj hr0
        clear hr0
        obtain ⟨hq1, hr2⟩ := Prod.mk.inj hr1
        clear hr1
        obtain ⟨hq2, hr3⟩ := Prod.mk.inj hr2
        clear hr2
        obtain ⟨hq3, hr4⟩ := Prod.mk.inj hr3
        clear hr3
        obtain ⟨hq4, hr5⟩ := Prod.mk.inj hr4
        clear hr4
        obtain ⟨hq5, hr6⟩ := Prod.mk.inj hr5
        clear hr5
        obtain ⟨hq6, hr7⟩ := Prod.mk.inj hr6
        clear hr6
        obtain ⟨hq7, hr8⟩ := Prod.mk.inj hr7
        clear hr7
        subst hq0
        subst hq1
        subst hq2
        subst hq3
        subst hq4
        subst hq5
        subst hq6
        subst hq7
        subst hr8
        have hP9 := hP.sub (ws' := [(h0, .inr (13, z_48)), (qf100, .inl (cf100, 48000, .inl f100)), (qf128, .inl (cf128, 31, .inl g128_25)), (qf127, .inl (cf127, 30, .inl g127_25)), (qf104, .inl (cf104, 8, .inl f104)), (qf102, .inl (cf102, 2048, .inl f102)), (qf118, .inl (cf118, 2100, .inl g118_25)), (qf119, .inl (cf119, 2100, .inl g119_25)), (qf105, .inl (cf105, 8, .inl f105)), (qf137, .inl (cf137, 6, .inl g137_25))]) [8, 0, 9, 1, 2, 3, 4, 5, 6, 7] rfl
        have hD9 := hD.sub (ws' := [(h0, .inr (13, z_48)), (qf100, .inl (cf100, 48000, .inl f100)), (qf128, .inl (cf128, 31, .inl g128_25)), (qf127, .inl (cf127, 30, .inl g127_25)), (qf104, .inl (cf104, 8, .inl f104)), (qf102, .inl (cf102, 2048, .inl f102)), (qf118, .inl (cf118, 2100, .inl g118_25)), (qf119, .inl (cf119, 2100, .inl g119_25)), (qf105, .inl (cf105, 8, .inl f105)), (qf137, .inl (cf137, 6, .inl g137_25))]) [8, 0, 9, 1, 2, 3, 4, 5, 6, 7] (by decide) rfl
        have hK9 := hK.sub (tys' := [(cf100, .int), (cf128, .int), (cf127, .int), (cf104, .int), (cf102, .int), (cf118, .int), (cf119, .int), (cf105, .int), (cf137, .int)]) [0, 8, 1, 2, 3, 4, 5, 6, 7] rfl
        exact W.zret hx hb hr (by decide) (fun t ht hW => ⟨⟨(0), (z_48), rfl, ⟨⟨rfl, Or.inl rfl⟩, hln_48, hrq_48, hfk_48_117, hfk_48_120, hch_48_131⟩, by rw [ht]; exact hP9, va_K.moved hW.alike hK9, hD9⟩, hS.F ht⟩) hS.2.2 dX13_wanted_1565
      · rw [if_neg (by decide)] at hsp
        refine lv_if_eq (tgt := 1564) hx hb dX13_wanted_1539 (by decide) (fun c_325 => (show False by revert c_325; decide).elim) (fun c_325 => ?_)
        refine lv_aload_n hx hb dX13_wanted_1542 rfl (lv_at hl 1 rfl) ?_
        refine lv_aload_n hx hb dX13_wanted_1543 rfl (lv_at hl 1 rfl) ?_
        refine lv_aload_n hx hb dX13_wanted_1544 rfl (lv_at hl 1 rfl) ?_
        refine va_get (D := (dC, dI)) (ci := 13) (v := .int v132) (C := RX13) (T := TX13) (N := 155) hx hb hts uV_h9_X13 hown hK hP 8 rfl rfl 132 (by decide) (hts (.fieldLink RX13 932 "ClassMillModel" "inClass" "I") mw_h9_549) (fun _ h9 => h9) hfk_48_132 dX13_wanted_1545 ?_
        refine lv_iload_n hx hb dX13_wanted_1548 rfl (lv_at hl 0 rfl) ?_
        obtain ⟨⟨u49_0, g949_1, g949_2, u49_3, u49_4⟩, hu_49, hsp⟩ := ox_bind hsp
        try dsimp only at hsp
        have hPc := hP.sub (ws' := [(h0, .inr (13, z_48)), (qf102, .inl (cf102, 2048, .inl f102)), (qf100, .inl (cf100, 48000, .inl f100)), (qf104, .inl (cf104, 8, .inl f104)), (qf118, .inl (cf118, 2100, .inl g118_25)), (qf119, .inl (cf119, 2100, .inl g119_25))]) [8, 3, 0, 2, 4, 5] rfl
        have hDc := hD.sub (ws' := [(h0, .inr (13, z_48)), (qf102, .inl (cf102, 2048, .inl f102)), (qf100, .inl (cf100, 48000, .inl f100)), (qf104, .inl (cf104, 8, .inl f104)), (qf118, .inl (cf118, 2100, .inl g118_25)), (qf119, .inl (cf119, 2100, .inl g119_25))]) [8, 3, 0, 2, 4, 5] (by decide) rfl
        have hKc := hK.sub (tys' := [(cf102, .int), (cf100, .int), (cf104, .int), (cf118, .int), (cf119, .int)]) [3, 0, 2, 4, 5] rfl
        have hFc := va_free (wc := [(h0, .inr (13, z_48)), (qf102, .inl (cf102, 2048, .inl f102)), (qf100, .inl (cf100, 48000, .inl f100)), (qf104, .inl (cf104, 8, .inl f104)), (qf118, .inl (cf118, 2100, .inl g118_25)), (qf119, .inl (cf119, 2100, .inl g119_25))]) hD hS hA [8, 3, 0, 2, 4, 5] rfl
        refine va_calli (va_runV (As := [.int v132, .int s0_25]) (rest := [.ref h0]) ⟨hx, hb, hml, hown, hts⟩ (vm_typeOfClass l dC dI H.size h0 z_48 v132 s0_25 v98 qf100 qf102 qf104 x117_25 qf118 qf119 x120_25 cf102 f102 cf100 f100 cf104 f104 cf118 g118_25 cf119 g119_25 nS477 fS477 hS477 qS477 tS477 nf u49_0 g949_1 g949_2 u49_3 u49_4 hln_48 hfk_48_98 hfk_48_100 hfk_48_102 hfk_48_104 hfk_48_117 hfk_48_118 hfk_48_119 hfk_48_120 hu_49) (cwV 2 hts gv_h9_112 rfl rfl rfl (by decide +kernel) ⟨Nat.le_of_ble_eq_true rfl, Nat.le_of_ble_eq_true rfl⟩) ⟨fun a U g mk q => by obtain ⟨q0, q1, qP, qK, qD, qhZWS477, qhZRS477⟩ := q; exact ⟨q0, q1, qP, va_K.moved (u := U) (U := U.calling g mk a) (Vm.Alike.refl U.vm) qK, qD, pz_W.moved (u := U) (U := U.calling g mk a) (Vm.Alike.refl U.vm) qhZWS477, vk_R.same rfl qhZRS477⟩, va_recv hKc hPc (ci := 13) (q0 := 0) rfl rfl, fun U hU hW => ⟨rfl, by rw [hU], by rw [hU]; exact hPc, va_K.moved hW.alike hKc, hDc.weaken (fun _ _ _ _ => trivial), by rw [hU]; exact ((pz_W.moved hW.alike hZWS477).kept hS.2.1).narrow hFc, vk_R.warm hW hZRS477⟩⟩ rfl rfl hl.1 rfl (lv_room (Nat.le_of_ble_eq_true rfl)) dX13_wanted_1549 ⟨Nat.le_of_ble_eq_true rfl, Nat.le_of_ble_eq_true rfl⟩) hS (fun q _ h => hFc q h) hFc ?_
        clear hS
        intro r_326 u t H1 locs ht hvm hw hB hz1 hk1 hS
        obtain ⟨z_49, rfl⟩ : ∃ z, z = u := ⟨_, rfl⟩
        obtain ⟨hP1, hK1, hD1⟩ := hB
        rw [ht] at hP1
        have hK1 := va_K.moved hvm.symm hK1
        try dsimp only at hw
        have hPD := va_join (wr := [(qf127, .inl (cf127, 30, .inl g127_25)), (qf105, .inl (cf105, 8, .inl f105)), (qf137, .inl (cf137, 6, .inl g137_25)), (qf128, .inl (cf128, 31, .inl g128_25))]) (w1 := [(h0, .inr (13, z_49)), (qf102, .inl (cf102, 2048, .inl f102)), (qf100, .inl (cf100, 48000, .inl f100)), (qf104, .inl (cf104, 8, .inl f104)), (qf118, .inl (cf118, 2100, .inl g949_1)), (qf119, .inl (cf119, 2100, .inl g949_2))]) hP hD [8, 3, 0, 2, 4, 5] [1, 6, 7, 9] rfl rfl (by decide) (by decide) hk1 hFc hP1 hD1
        clear hP hD
        obtain ⟨hP, hD⟩ := hPD
        replace hK := (hK.sub (tys' := [(cf127, .int), (cf105, .int), (cf137, .int), (cf128, .int)]) [1, 6, 7, 8] rfl).app hK1
        clear hPc hDc hKc hFc hP1 hK1 hD1 hz1 hk1 ht hvm
        generalize H1 = H at hP hS ⊢
        replace hP : va_P (dC, dI) vwCl [(qf127, .inl (cf127, 30, .inl g127_25)), (qf105, .inl (cf105, 8, .inl f105)), (qf137, .inl (cf137, 6, .inl g137_25)), (qf128, .inl (cf128, 31, .inl g128_25)), (h0, .inr (13, z_49)), (qf102, .inl (cf102, 2048, .inl f102)), (qf100, .inl (cf100, 48000, .inl f100)), (qf104, .inl (cf104, 8, .inl f104)), (qf118, .inl (cf118, 2100, .inl g949_1)), (qf119, .inl (cf119, 2100, .inl g949_2))] H := hP
        replace hD : va_D A [(qf127, .inl (cf127, 30, .inl g127_25)), (qf105, .inl (cf105, 8, .inl f105)), (qf137, .inl (cf137, 6, .inl g137_25)), (qf128, .inl (cf128, 31, .inl g128_25)), (h0, .inr (13, z_49)), (qf102, .inl (cf102, 2048, .inl f102)), (qf100, .inl (cf100, 48000, .inl f100)), (qf104, .inl (cf104, 8, .inl f104)), (qf118, .inl (cf118, 2100, .inl g949_1)), (qf119, .inl (cf119, 2100, .inl g949_2))] := hD
        replace hK : va_K (dC, dI) vwCl [(cf127, .int), (cf105, .int), (cf137, .int), (cf128, .int), (cf102, .int), (cf100, .int), (cf104, .int), (cf118, .int), (cf119, .int)] s := hK
        obtain ⟨hwa_49, hln_49, hre_49, hch_49_117, hch_49_120⟩ := hw
        have hfk_49_98 : z_49[98]? = some (.int v98) := (hre_49 98 (by decide) (by decide)).trans (hfk_48_98)
        have hfk_49_100 : z_49[100]? = some (.ref qf100) := (hre_49 100 (by decide) (by decide)).trans (hfk_48_100)
        have hfk_49_102 : z_49[102]? = some (.ref qf102) := (hre_49 102 (by decide) (by decide)).trans (hfk_48_102)
        have hfk_49_104 : z_49[104]? = some (.ref qf104) := (hre_49 104 (by decide) (by decide)).trans (hfk_48_104)
        have hfk_49_105 : z_49[105]? = some (.ref qf105) := (hre_49 105 (by decide) (by decide)).trans (hfk_48_105)
        have hfk_49_118 : z_49[118]? = some (.ref qf118) := (hre_49 118 (by decide) (by decide)).trans (hfk_48_118)
        have hfk_49_119 : z_49[119]? = some (.ref qf119) := (hre_49 119 (by decide) (by decide)).trans (hfk_48_119)
        have hfk_49_127 : z_49[127]? = some (.ref qf127) := (hre_49 127 (by decide) (by decide)).trans (hfk_48_127)
        have hfk_49_128 : z_49[128]? = some (.ref qf128) := (hre_49 128 (by decide) (by decide)).trans (hfk_48_128)
        have hfk_49_129 : z_49[129]? = some (.int v129) := (hre_49 129 (by decide) (by decide)).trans (hfk_48_129)
        have hfk_49_130 : z_49[130]? = some (.int v130) := (hre_49 130 (by decide) (by decide)).trans (hfk_48_130)
        have hfk_49_131 : z_49[131]? = some (.int u48_1) := (hre_49 131 (by decide) (by decide)).trans (hch_48_131)
        have hfk_49_132 : z_49[132]? = some (.int v132) := (hre_49 132 (by decide) (by decide)).trans (hfk_48_132)
        have hfk_49_134 : z_49[134]? = some (.int v134) := (hre_49 134 (by decide) (by decide)).trans (hfk_48_134)
        have hfk_49_136 : z_49[136]? = some (.int v136) := (hre_49 136 (by decide) (by decide)).trans (hfk_48_136)
        have hfk_49_137 : z_49[137]? = some (.ref qf137) := (hre_49 137 (by decide) (by decide)).trans (hfk_48_137)
        have hrq_49 : ∀ j : Nat, j ≠ 117 → j ≠ 120 → j ≠ 131 → z_49[j]? = zs[j]? := fun j g117 g120 g131 => (hre_49 j g117 g120).trans (hrq_48 j g117 g120 g131)
        obtain rfl := hwa_49
        refine lv_iconst (v := 1) hx hb dX13_wanted_1552 (by decide) ?_
        refine lv_iadd hx hb dX13_wanted_1553 ?_
        obtain ⟨⟨u50_0, g950_1, u50_2⟩, hu_50, hsp⟩ := ox_bind hsp
        try dsimp only at hsp
        have hPc := hP.sub (ws' := [(h0, .inr (13, z_49)), (qf128, .inl (cf128, 31, .inl g128_25))]) [4, 3] rfl
        have hDc := hD.sub (ws' := [(h0, .inr (13, z_49)), (qf128, .inl (cf128, 31, .inl g128_25))]) [4, 3] (by decide) rfl
        have hKc := hK.sub (tys' := [(cf128, .int)]) [3] rfl
        have hFc := va_free (wc := [(h0, .inr (13, z_49)), (qf128, .inl (cf128, 31, .inl g128_25))]) hD hS hA [4, 3] rfl
        refine va_calli (va_runV (As := [.int (u49_0 + 1)]) (rest := []) ⟨hx, hb, hml, hown, hts⟩ (tm_comesBack l dC dI H.size h0 z_49 ((u49_0 + 1)) qf128 v130 u48_1 cf128 g128_25 nf u50_0 g950_1 u50_2 hln_49 hfk_49_128 hfk_49_130 hfk_49_131 hu_50) (cwV 1 hts gv_h9_69 rfl rfl rfl (by decide +kernel) ⟨Nat.le_of_ble_eq_true rfl, Nat.le_of_ble_eq_true rfl⟩) ⟨fun a U g mk q => by obtain ⟨q0, q1, qP, qK, qD⟩ := q; exact ⟨q0, q1, qP, va_K.moved (u := U) (U := U.calling g mk a) (Vm.Alike.refl U.vm) qK, qD⟩, va_recv hKc hPc (ci := 13) (q0 := 0) rfl rfl, fun U hU hW => ⟨rfl, by rw [hU], by rw [hU]; exact hPc, va_K.moved hW.alike hKc, hDc.weaken (fun _ _ _ _ => trivial)⟩⟩ rfl rfl hl.1 rfl (lv_room (Nat.le_of_ble_eq_true rfl)) dX13_wanted_1554 ⟨Nat.le_of_ble_eq_true rfl, Nat.le_of_ble_eq_true rfl⟩) hS (fun q _ h => hFc q h) hFc ?_
        clear hS
        intro r_327 u t H1 locs ht hvm hw hB hz1 hk1 hS
        obtain ⟨z_50, rfl⟩ : ∃ z, z = u := ⟨_, rfl⟩
        obtain ⟨hP1, hK1, hD1⟩ := hB
        rw [ht] at hP1
        have hK1 := va_K.moved hvm.symm hK1
        try dsimp only at hw
        have hPD := va_join (wr := [(qf127, .inl (cf127, 30, .inl g127_25)), (qf105, .inl (cf105, 8, .inl f105)), (qf137, .inl (cf137, 6, .inl g137_25)), (qf102, .inl (cf102, 2048, .inl f102)), (qf100, .inl (cf100, 48000, .inl f100)), (qf104, .inl (cf104, 8, .inl f104)), (qf118, .inl (cf118, 2100, .inl g949_1)), (qf119, .inl (cf119, 2100, .inl g949_2))]) (w1 := [(h0, .inr (13, z_50)), (qf128, .inl (cf128, 31, .inl g950_1))]) hP hD [4, 3] [0, 1, 2, 5, 6, 7, 8, 9] rfl rfl (by decide) (by decide) hk1 hFc hP1 hD1
        clear hP hD
        obtain ⟨hP, hD⟩ := hPD
        replace hK := (hK.sub (tys' := [(cf127, .int), (cf105, .int), (cf137, .int), (cf102, .int), (cf100, .int), (cf104, .int), (cf118, .int), (cf119, .int)]) [0, 1, 2, 4, 5, 6, 7, 8] rfl).app hK1
        clear hPc hDc hKc hFc hP1 hK1 hD1 hz1 hk1 ht hvm
        generalize H1 = H at hP hS ⊢
        replace hP : va_P (dC, dI) vwCl [(qf127, .inl (cf127, 30, .inl g127_25)), (qf105, .inl (cf105, 8, .inl f105)), (qf137, .inl (cf137, 6, .inl g137_25)), (qf102, .inl (cf102, 2048, .inl f102)), (qf100, .inl (cf100, 48000, .inl f100)), (qf104, .inl (cf104, 8, .inl f104)), (qf118, .inl (cf118, 2100, .inl g949_1)), (qf119, .inl (cf119, 2100, .inl g949_2)), (h0, .inr (13, z_50)), (qf128, .inl (cf128, 31, .inl g950_1))] H := hP
        replace hD : va_D A [(qf127, .inl (cf127, 30, .inl g127_25)), (qf105, .inl (cf105, 8, .inl f105)), (qf137, .inl (cf137, 6, .inl g137_25)), (qf102, .inl (cf102, 2048, .inl f102)), (qf100, .inl (cf100, 48000, .inl f100)), (qf104, .inl (cf104, 8, .inl f104)), (qf118, .inl (cf118, 2100, .inl g949_1)), (qf119, .inl (cf119, 2100, .inl g949_2)), (h0, .inr (13, z_50)), (qf128, .inl (cf128, 31, .inl g950_1))] := hD
        replace hK : va_K (dC, dI) vwCl [(cf127, .int), (cf105, .int), (cf137, .int), (cf102, .int), (cf100, .int), (cf104, .int), (cf118, .int), (cf119, .int), (cf128, .int)] s := hK
        obtain ⟨hwa_50, hln_50, hre_50, hch_50_131⟩ := hw
        have hfk_50_98 : z_50[98]? = some (.int v98) := (hre_50 98 (by decide)).trans (hfk_49_98)
        have hfk_50_100 : z_50[100]? = some (.ref qf100) := (hre_50 100 (by decide)).trans (hfk_49_100)
        have hfk_50_102 : z_50[102]? = some (.ref qf102) := (hre_50 102 (by decide)).trans (hfk_49_102)
        have hfk_50_104 : z_50[104]? = some (.ref qf104) := (hre_50 104 (by decide)).trans (hfk_49_104)
        have hfk_50_105 : z_50[105]? = some (.ref qf105) := (hre_50 105 (by decide)).trans (hfk_49_105)
        have hfk_50_117 : z_50[117]? = some (.int u49_3) := (hre_50 117 (by decide)).trans (hch_49_117)
        have hfk_50_118 : z_50[118]? = some (.ref qf118) := (hre_50 118 (by decide)).trans (hfk_49_118)
        have hfk_50_119 : z_50[119]? = some (.ref qf119) := (hre_50 119 (by decide)).trans (hfk_49_119)
        have hfk_50_120 : z_50[120]? = some (.int u49_4) := (hre_50 120 (by decide)).trans (hch_49_120)
        have hfk_50_127 : z_50[127]? = some (.ref qf127) := (hre_50 127 (by decide)).trans (hfk_49_127)
        have hfk_50_128 : z_50[128]? = some (.ref qf128) := (hre_50 128 (by decide)).trans (hfk_49_128)
        have hfk_50_129 : z_50[129]? = some (.int v129) := (hre_50 129 (by decide)).trans (hfk_49_129)
        have hfk_50_130 : z_50[130]? = some (.int v130) := (hre_50 130 (by decide)).trans (hfk_49_130)
        have hfk_50_132 : z_50[132]? = some (.int v132) := (hre_50 132 (by decide)).trans (hfk_49_132)
        have hfk_50_134 : z_50[134]? = some (.int v134) := (hre_50 134 (by decide)).trans (hfk_49_134)
        have hfk_50_136 : z_50[136]? = some (.int v136) := (hre_50 136 (by decide)).trans (hfk_49_136)
        have hfk_50_137 : z_50[137]? = some (.ref qf137) := (hre_50 137 (by decide)).trans (hfk_49_137)
        have hrq_50 : ∀ j : Nat, j ≠ 117 → j ≠ 120 → j ≠ 131 → z_50[j]? = zs[j]? := fun j g117 g120 g131 => (hre_50 j g131).trans (hrq_49 j g117 g120 g131)
        obtain ⟨rfl, hz_50⟩ := hwa_50
        rcases hz_50 with rfl | rfl
        · rw [if_pos rfl] at hsp
          refine lv_if_eq (tgt := 1564) hx hb dX13_wanted_1557 (by decide) (fun c_328 => ?_) (fun c_328 => (show False by revert c_328; decide).elim)
          refine lv_iconst (v := 0) hx hb dX13_wanted_1564 (by decide) ?_
          have hr0 := Option.some.inj hsp
          clear hsp
          obtain ⟨hq0, hr1⟩ := Prod.mk.inj hr0
          clear hr0
          obtain ⟨hq1, hr2⟩ := Prod.mk.inj hr1
          clear hr1
          obtain ⟨hq2, hr3⟩ := Prod.mk.inj hr2
          clear hr2
          obtain ⟨hq3, hr4⟩ := Prod.mk.inj hr3
          clear hr3
          obtain ⟨hq4, hr5⟩ := Prod.mk.inj hr4
          clear hr4
          obtain ⟨hq5, hr6⟩ := Prod.mk.inj hr5
          clear hr5
          obtain ⟨hq6, hr7⟩ := Prod.mk.inj hr6
          clear hr6
          obtain ⟨hq7, hr8⟩ := Prod.mk.inj hr7
          clear hr7
          subst hq0
          subst hq1
          subst hq2
          subst hq3
          subst hq4
          subst hq5
          subst hq6
          subst hq7
          subst hr8
          have hP9 := hP.sub (ws' := [(h0, .inr (13, z_50)), (qf100, .inl (cf100, 48000, .inl f100)), (qf128, .inl (cf128, 31, .inl g950_1)), (qf127, .inl (cf127, 30, .inl g127_25)), (qf104, .inl (cf104, 8, .inl f104)), (qf102, .inl (cf102, 2048, .inl f102)), (qf118, .inl (cf118, 2100, .inl g949_1)), (qf119, .inl (cf119, 2100, .inl g949_2)), (qf105, .inl (cf105, 8, .inl f105)), (qf137, .inl (cf137, 6, .inl g137_25))]) [8, 4, 9, 0, 5, 3, 6, 7, 1, 2] rfl
          have hD9 := hD.sub (ws' := [(h0, .inr (13, z_50)), (qf100, .inl (cf100, 48000, .inl f100)), (qf128, .inl (cf128, 31, .inl g950_1)), (qf127, .inl (cf127, 30, .inl g127_25)), (qf104, .inl (cf104, 8, .inl f104)), (qf102, .inl (cf102, 2048, .inl f102)), (qf118, .inl (cf118, 2100, .inl g949_1)), (qf119, .inl (cf119, 2100, .inl g949_2)), (qf105, .inl (cf105, 8, .inl f105)), (qf137, .inl (cf137, 6, .inl g137_25))]) [8, 4, 9, 0, 5, 3, 6, 7, 1, 2] (by decide) rfl
          have hK9 := hK.sub (tys' := [(cf100, .int), (cf128, .int), (cf127, .int), (cf104, .int), (cf102, .int), (cf118, .int), (cf119, .int), (cf105, .int), (cf137, .int)]) [4, 8, 0, 5, 3, 6, 7, 1, 2] rfl
          exact W.zret hx hb hr (by decide) (fun t ht hW => ⟨⟨(0), (z_50), rfl, ⟨⟨rfl, Or.inl rfl⟩, hln_50, hrq_50, hfk_50_117, hfk_50_120, hch_50_131⟩, by rw [ht]; exact hP9, va_K.moved hW.alike hK9, hD9⟩, hS.F ht⟩) hS.2.2 dX13_wanted_1565
        · rw [if_neg (by decide)] at hsp
          refine lv_if_eq (tgt := 1564) hx hb dX13_wanted_1557 (by decide) (fun c_329 => (show False by revert c_329; decide).elim) (fun c_329 => ?_)
          refine lv_iconst (v := 1) hx hb dX13_wanted_1560 (by decide) ?_
          refine lv_goto (tgt := 1565) hx hb dX13_wanted_1561 (by decide) ?_
          have hr0 := Option.some.inj hsp
          clear hsp
          obtain ⟨hq0, hr1⟩ := Prod.mk.inj hr0
          clear hr0
          obtain ⟨hq1, hr2⟩ := Prod.mk.inj hr1
          clear hr1
          obtain ⟨hq2, hr3⟩ := Prod.mk.inj hr2
          clear hr2
          obtain ⟨hq3, hr4⟩ := Prod.mk.inj hr3
          clear hr3
          obtain ⟨hq4, hr5⟩ := Prod.mk.inj hr4
          clear hr4
          obtain ⟨hq5, hr6⟩ := Prod.mk.inj hr5
          clear hr5
          obtain ⟨hq6, hr7⟩ := Prod.mk.inj hr6
          clear hr6
          obtain ⟨hq7, hr8⟩ := Prod.mk.inj hr7
          clear hr7
          subst hq0
          subst hq1
          subst hq2
          subst hq3
          subst hq4
          subst hq5
          subst hq6
          subst hq7
          subst hr8
          have hP9 := hP.sub (ws' := [(h0, .inr (13, z_50)), (qf100, .inl (cf100, 48000, .inl f100)), (qf128, .inl (cf128, 31, .inl g950_1)), (qf127, .inl (cf127, 30, .inl g127_25)), (qf104, .inl (cf104, 8, .inl f104)), (qf102, .inl (cf102, 2048, .inl f102)), (qf118, .inl (cf118, 2100, .inl g949_1)), (qf119, .inl (cf119, 2100, .inl g949_2)), (qf105, .inl (cf105, 8, .inl f105)), (qf137, .inl (cf137, 6, .inl g137_25))]) [8, 4, 9, 0, 5, 3, 6, 7, 1, 2] rfl
          have hD9 := hD.sub (ws' := [(h0, .inr (13, z_50)), (qf100, .inl (cf100, 48000, .inl f100)), (qf128, .inl (cf128, 31, .inl g950_1)), (qf127, .inl (cf127, 30, .inl g127_25)), (qf104, .inl (cf104, 8, .inl f104)), (qf102, .inl (cf102, 2048, .inl f102)), (qf118, .inl (cf118, 2100, .inl g949_1)), (qf119, .inl (cf119, 2100, .inl g949_2)), (qf105, .inl (cf105, 8, .inl f105)), (qf137, .inl (cf137, 6, .inl g137_25))]) [8, 4, 9, 0, 5, 3, 6, 7, 1, 2] (by decide) rfl
          have hK9 := hK.sub (tys' := [(cf100, .int), (cf128, .int), (cf127, .int), (cf104, .int), (cf102, .int), (cf118, .int), (cf119, .int), (cf105, .int), (cf137, .int)]) [4, 8, 0, 5, 3, 6, 7, 1, 2] rfl
          exact W.zret hx hb hr (by decide) (fun t ht hW => ⟨⟨(1), (z_50), rfl, ⟨⟨rfl, Or.inr rfl⟩, hln_50, hrq_50, hfk_50_117, hfk_50_120, hch_50_131⟩, by rw [ht]; exact hP9, va_K.moved hW.alike hK9, hD9⟩, hS.F ht⟩) hS.2.2 dX13_wanted_1565
    rw [if_neg hs_322] at hsp
    by_cases hs_330 : l2_25 = 190
    · rw [if_pos hs_330] at hsp
      refine lv_tableIn (tgt := 1566) hx hb dX13_wanted_27 (by rw [hs_330]; decide) (by rw [hs_330]; decide) (off := 1539) (by rw [hs_330]; rfl) (by decide) ?_
      refine lv_aload_n hx hb dX13_wanted_1566 rfl (lv_at hl 1 rfl) ?_
      obtain ⟨⟨u51_0, u51_1⟩, hu_51, hsp⟩ := ox_bind hsp
      try dsimp only at hsp
      have hPc := hP.sub (ws' := [(h0, .inr (13, z25)), (qf128, .inl (cf128, 31, .inl g128_25))]) [0, 2] rfl
      have hDc := hD.sub (ws' := [(h0, .inr (13, z25)), (qf128, .inl (cf128, 31, .inl g128_25))]) [0, 2] (by decide) rfl
      have hKc := hK.sub (tys' := [(cf128, .int)]) [1] rfl
      have hFc := va_free (wc := [(h0, .inr (13, z25)), (qf128, .inl (cf128, 31, .inl g128_25))]) hD hS hA [0, 2] rfl
      refine va_calli (va_runV (As := []) (rest := []) ⟨hx, hb, hml, hown, hts⟩ (tm_pull l dC dI H.size h0 z25 qf128 x131_25 cf128 g128_25 nf u51_0 u51_1 hlh_25 hfh_25_128 hfh_25_131 hu_51) (cwV 0 hts gv_h9_68 rfl rfl rfl (by decide +kernel) ⟨Nat.le_of_ble_eq_true rfl, Nat.le_of_ble_eq_true rfl⟩) ⟨fun a U g mk q => by obtain ⟨q0, q1, qP, qK, qD⟩ := q; exact ⟨q0, q1, qP, va_K.moved (u := U) (U := U.calling g mk a) (Vm.Alike.refl U.vm) qK, qD⟩, va_recv hKc hPc (ci := 13) (q0 := 0) rfl rfl, fun U hU hW => ⟨rfl, by rw [hU], by rw [hU]; exact hPc, va_K.moved hW.alike hKc, hDc.weaken (fun _ _ _ _ => trivial)⟩⟩ rfl rfl hl.1 rfl (lv_room (Nat.le_of_ble_eq_true rfl)) dX13_wanted_1567 ⟨Nat.le_of_ble_eq_true rfl, Nat.le_of_ble_eq_true rfl⟩) hS (fun q _ h => hFc q h) hFc ?_
      clear hS
      intro r_331 u t H1 locs ht hvm hw hB hz1 hk1 hS
      obtain ⟨z_51, rfl⟩ : ∃ z, z = u := ⟨_, rfl⟩
      obtain ⟨hP1, hK1, hD1⟩ := hB
      rw [ht] at hP1
      have hK1 := va_K.moved hvm.symm hK1
      try dsimp only at hw
      have hPD := va_join (wr := [(qf100, .inl (cf100, 48000, .inl f100)), (qf127, .inl (cf127, 30, .inl g127_25)), (qf104, .inl (cf104, 8, .inl f104)), (qf102, .inl (cf102, 2048, .inl f102)), (qf118, .inl (cf118, 2100, .inl g118_25)), (qf119, .inl (cf119, 2100, .inl g119_25)), (qf105, .inl (cf105, 8, .inl f105)), (qf137, .inl (cf137, 6, .inl g137_25))]) (w1 := [(h0, .inr (13, z_51)), (qf128, .inl (cf128, 31, .inl g128_25))]) hP hD [0, 2] [1, 3, 4, 5, 6, 7, 8, 9] rfl rfl (by decide) (by decide) hk1 hFc hP1 hD1
      clear hP hD
      obtain ⟨hP, hD⟩ := hPD
      replace hK := (hK.sub (tys' := [(cf100, .int), (cf127, .int), (cf104, .int), (cf102, .int), (cf118, .int), (cf119, .int), (cf105, .int), (cf137, .int)]) [0, 2, 3, 4, 5, 6, 7, 8] rfl).app hK1
      clear hPc hDc hKc hFc hP1 hK1 hD1 hz1 hk1 ht hvm
      generalize H1 = H at hP hS ⊢
      replace hP : va_P (dC, dI) vwCl [(qf100, .inl (cf100, 48000, .inl f100)), (qf127, .inl (cf127, 30, .inl g127_25)), (qf104, .inl (cf104, 8, .inl f104)), (qf102, .inl (cf102, 2048, .inl f102)), (qf118, .inl (cf118, 2100, .inl g118_25)), (qf119, .inl (cf119, 2100, .inl g119_25)), (qf105, .inl (cf105, 8, .inl f105)), (qf137, .inl (cf137, 6, .inl g137_25)), (h0, .inr (13, z_51)), (qf128, .inl (cf128, 31, .inl g128_25))] H := hP
      replace hD : va_D A [(qf100, .inl (cf100, 48000, .inl f100)), (qf127, .inl (cf127, 30, .inl g127_25)), (qf104, .inl (cf104, 8, .inl f104)), (qf102, .inl (cf102, 2048, .inl f102)), (qf118, .inl (cf118, 2100, .inl g118_25)), (qf119, .inl (cf119, 2100, .inl g119_25)), (qf105, .inl (cf105, 8, .inl f105)), (qf137, .inl (cf137, 6, .inl g137_25)), (h0, .inr (13, z_51)), (qf128, .inl (cf128, 31, .inl g128_25))] := hD
      replace hK : va_K (dC, dI) vwCl [(cf100, .int), (cf127, .int), (cf104, .int), (cf102, .int), (cf118, .int), (cf119, .int), (cf105, .int), (cf137, .int), (cf128, .int)] s := hK
      obtain ⟨hwa_51, hln_51, hre_51, hch_51_131⟩ := hw
      have hfk_51_98 : z_51[98]? = some (.int v98) := (hre_51 98 (by decide)).trans (hfh_25_98)
      have hfk_51_100 : z_51[100]? = some (.ref qf100) := (hre_51 100 (by decide)).trans (hfh_25_100)
      have hfk_51_102 : z_51[102]? = some (.ref qf102) := (hre_51 102 (by decide)).trans (hfh_25_102)
      have hfk_51_104 : z_51[104]? = some (.ref qf104) := (hre_51 104 (by decide)).trans (hfh_25_104)
      have hfk_51_105 : z_51[105]? = some (.ref qf105) := (hre_51 105 (by decide)).trans (hfh_25_105)
      have hfk_51_117 : z_51[117]? = some (.int x117_25) := (hre_51 117 (by decide)).trans (hfh_25_117)
      have hfk_51_118 : z_51[118]? = some (.ref qf118) := (hre_51 118 (by decide)).trans (hfh_25_118)
      have hfk_51_119 : z_51[119]? = some (.ref qf119) := (hre_51 119 (by decide)).trans (hfh_25_119)
      have hfk_51_120 : z_51[120]? = some (.int x120_25) := (hre_51 120 (by decide)).trans (hfh_25_120)
      have hfk_51_127 : z_51[127]? = some (.ref qf127) := (hre_51 127 (by decide)).trans (hfh_25_127)
      have hfk_51_128 : z_51[128]? = some (.ref qf128) := (hre_51 128 (by decide)).trans (hfh_25_128)
      have hfk_51_129 : z_51[129]? = some (.int v129) := (hre_51 129 (by decide)).trans (hfh_25_129)
      have hfk_51_130 : z_51[130]? = some (.int v130) := (hre_51 130 (by decide)).trans (hfh_25_130)
      have hfk_51_132 : z_51[132]? = some (.int v132) := (hre_51 132 (by decide)).trans (hfh_25_132)
      have hfk_51_134 : z_51[134]? = some (.int v134) := (hre_51 134 (by decide)).trans (hfh_25_134)
      have hfk_51_136 : z_51[136]? = some (.int v136) := (hre_51 136 (by decide)).trans (hfh_25_136)
      have hfk_51_137 : z_51[137]? = some (.ref qf137) := (hre_51 137 (by decide)).trans (hfh_25_137)
      have hrq_51 : ∀ j : Nat, j ≠ 117 → j ≠ 120 → j ≠ 131 → z_51[j]? = zs[j]? := fun j g117 g120 g131 => (hre_51 j g131).trans (hrh_25 j g117 g120 g131)
      obtain rfl := hwa_51
      refine lv_istore (lv' := [(4, .int u51_0), (3, .int s0_25), (0, .ref h0), (2, .int l2_25)]) hx hb dX13_wanted_1570 hl (by decide) rfl (fun ls hl => ?_)
      refine lv_iload hx hb dX13_wanted_1572 (lv_at hl 0 rfl) ?_
      refine lv_iconst (v := 2) hx hb dX13_wanted_1574 (by decide) ?_
      refine lv_icmp_eq (tgt := 1592) hx hb dX13_wanted_1575 (by decide) (fun c_332 => ?_) (fun c_332 => ?_)
      · rw [if_pos c_332] at hsp
        refine lv_aload_n hx hb dX13_wanted_1592 rfl (lv_at hl 2 rfl) ?_
        refine lv_iconst (v := 1) hx hb dX13_wanted_1593 (by decide) ?_
        obtain ⟨⟨u52_0, g952_1, u52_2⟩, hu_52, hsp⟩ := ox_bind hsp
        try dsimp only at hsp
        have hPc := hP.sub (ws' := [(h0, .inr (13, z_51)), (qf128, .inl (cf128, 31, .inl g128_25))]) [8, 9] rfl
        have hDc := hD.sub (ws' := [(h0, .inr (13, z_51)), (qf128, .inl (cf128, 31, .inl g128_25))]) [8, 9] (by decide) rfl
        have hKc := hK.sub (tys' := [(cf128, .int)]) [8] rfl
        have hFc := va_free (wc := [(h0, .inr (13, z_51)), (qf128, .inl (cf128, 31, .inl g128_25))]) hD hS hA [8, 9] rfl
        refine va_calli (va_runV (As := [.int 1]) (rest := []) ⟨hx, hb, hml, hown, hts⟩ (tm_comesBack l dC dI H.size h0 z_51 1 qf128 v130 u51_1 cf128 g128_25 nf u52_0 g952_1 u52_2 hln_51 hfk_51_128 hfk_51_130 hch_51_131 hu_52) (cwV 1 hts gv_h9_69 rfl rfl rfl (by decide +kernel) ⟨Nat.le_of_ble_eq_true rfl, Nat.le_of_ble_eq_true rfl⟩) ⟨fun a U g mk q => by obtain ⟨q0, q1, qP, qK, qD⟩ := q; exact ⟨q0, q1, qP, va_K.moved (u := U) (U := U.calling g mk a) (Vm.Alike.refl U.vm) qK, qD⟩, va_recv hKc hPc (ci := 13) (q0 := 0) rfl rfl, fun U hU hW => ⟨rfl, by rw [hU], by rw [hU]; exact hPc, va_K.moved hW.alike hKc, hDc.weaken (fun _ _ _ _ => trivial)⟩⟩ rfl rfl hl.1 rfl (lv_room (Nat.le_of_ble_eq_true rfl)) dX13_wanted_1594 ⟨Nat.le_of_ble_eq_true rfl, Nat.le_of_ble_eq_true rfl⟩) hS (fun q _ h => hFc q h) hFc ?_
        clear hS
        intro r_333 u t H1 locs ht hvm hw hB hz1 hk1 hS
        obtain ⟨z_52, rfl⟩ : ∃ z, z = u := ⟨_, rfl⟩
        obtain ⟨hP1, hK1, hD1⟩ := hB
        rw [ht] at hP1
        have hK1 := va_K.moved hvm.symm hK1
        try dsimp only at hw
        have hPD := va_join (wr := [(qf100, .inl (cf100, 48000, .inl f100)), (qf127, .inl (cf127, 30, .inl g127_25)), (qf104, .inl (cf104, 8, .inl f104)), (qf102, .inl (cf102, 2048, .inl f102)), (qf118, .inl (cf118, 2100, .inl g118_25)), (qf119, .inl (cf119, 2100, .inl g119_25)), (qf105, .inl (cf105, 8, .inl f105)), (qf137, .inl (cf137, 6, .inl g137_25))]) (w1 := [(h0, .inr (13, z_52)), (qf128, .inl (cf128, 31, .inl g952_1))]) hP hD [8, 9] [0, 1, 2, 3, 4, 5, 6, 7] rfl rfl (by decide) (by decide) hk1 hFc hP1 hD1
        clear hP hD
        obtain ⟨hP, hD⟩ := hPD
        replace hK := (hK.sub (tys' := [(cf100, .int), (cf127, .int), (cf104, .int), (cf102, .int), (cf118, .int), (cf119, .int), (cf105, .int), (cf137, .int)]) [0, 1, 2, 3, 4, 5, 6, 7] rfl).app hK1
        clear hPc hDc hKc hFc hP1 hK1 hD1 hz1 hk1 ht hvm
        generalize H1 = H at hP hS ⊢
        replace hP : va_P (dC, dI) vwCl [(qf100, .inl (cf100, 48000, .inl f100)), (qf127, .inl (cf127, 30, .inl g127_25)), (qf104, .inl (cf104, 8, .inl f104)), (qf102, .inl (cf102, 2048, .inl f102)), (qf118, .inl (cf118, 2100, .inl g118_25)), (qf119, .inl (cf119, 2100, .inl g119_25)), (qf105, .inl (cf105, 8, .inl f105)), (qf137, .inl (cf137, 6, .inl g137_25)), (h0, .inr (13, z_52)), (qf128, .inl (cf128, 31, .inl g952_1))] H := hP
        replace hD : va_D A [(qf100, .inl (cf100, 48000, .inl f100)), (qf127, .inl (cf127, 30, .inl g127_25)), (qf104, .inl (cf104, 8, .inl f104)), (qf102, .inl (cf102, 2048, .inl f102)), (qf118, .inl (cf118, 2100, .inl g118_25)), (qf119, .inl (cf119, 2100, .inl g119_25)), (qf105, .inl (cf105, 8, .inl f105)), (qf137, .inl (cf137, 6, .inl g137_25)), (h0, .inr (13, z_52)), (qf128, .inl (cf128, 31, .inl g952_1))] := hD
        replace hK : va_K (dC, dI) vwCl [(cf100, .int), (cf127, .int), (cf104, .int), (cf102, .int), (cf118, .int), (cf119, .int), (cf105, .int), (cf137, .int), (cf128, .int)] s := hK
        obtain ⟨hwa_52, hln_52, hre_52, hch_52_131⟩ := hw
        have hfk_52_98 : z_52[98]? = some (.int v98) := (hre_52 98 (by decide)).trans (hfk_51_98)
        have hfk_52_100 : z_52[100]? = some (.ref qf100) := (hre_52 100 (by decide)).trans (hfk_51_100)
        have hfk_52_102 : z_52[102]? = some (.ref qf102) := (hre_52 102 (by decide)).trans (hfk_51_102)
        have hfk_52_104 : z_52[104]? = some (.ref qf104) := (hre_52 104 (by decide)).trans (hfk_51_104)
        have hfk_52_105 : z_52[105]? = some (.ref qf105) := (hre_52 105 (by decide)).trans (hfk_51_105)
        have hfk_52_117 : z_52[117]? = some (.int x117_25) := (hre_52 117 (by decide)).trans (hfk_51_117)
        have hfk_52_118 : z_52[118]? = some (.ref qf118) := (hre_52 118 (by decide)).trans (hfk_51_118)
        have hfk_52_119 : z_52[119]? = some (.ref qf119) := (hre_52 119 (by decide)).trans (hfk_51_119)
        have hfk_52_120 : z_52[120]? = some (.int x120_25) := (hre_52 120 (by decide)).trans (hfk_51_120)
        have hfk_52_127 : z_52[127]? = some (.ref qf127) := (hre_52 127 (by decide)).trans (hfk_51_127)
        have hfk_52_128 : z_52[128]? = some (.ref qf128) := (hre_52 128 (by decide)).trans (hfk_51_128)
        have hfk_52_129 : z_52[129]? = some (.int v129) := (hre_52 129 (by decide)).trans (hfk_51_129)
        have hfk_52_130 : z_52[130]? = some (.int v130) := (hre_52 130 (by decide)).trans (hfk_51_130)
        have hfk_52_132 : z_52[132]? = some (.int v132) := (hre_52 132 (by decide)).trans (hfk_51_132)
        have hfk_52_134 : z_52[134]? = some (.int v134) := (hre_52 134 (by decide)).trans (hfk_51_134)
        have hfk_52_136 : z_52[136]? = some (.int v136) := (hre_52 136 (by decide)).trans (hfk_51_136)
        have hfk_52_137 : z_52[137]? = some (.ref qf137) := (hre_52 137 (by decide)).trans (hfk_51_137)
        have hrq_52 : ∀ j : Nat, j ≠ 117 → j ≠ 120 → j ≠ 131 → z_52[j]? = zs[j]? := fun j g117 g120 g131 => (hre_52 j g131).trans (hrq_51 j g117 g120 g131)
        obtain ⟨rfl, hz_52⟩ := hwa_52
        rcases hz_52 with rfl | rfl
        · rw [if_pos rfl] at hsp
          refine lv_if_eq (tgt := 1604) hx hb dX13_wanted_1597 (by decide) (fun c_334 => ?_) (fun c_334 => (show False by revert c_334; decide).elim)
          refine lv_iconst (v := 0) hx hb dX13_wanted_1604 (by decide) ?_
          have hr0 := Option.some.inj hsp
          clear hsp
          obtain ⟨hq0, hr1⟩ := Prod.mk.inj hr0
          clear hr0
          obtain ⟨hq1, hr2⟩ := Prod.mk.inj hr1
          clear hr1
          obtain ⟨hq2, hr3⟩ := Prod.mk.inj hr2
          clear hr2
          obtain ⟨hq3, hr4⟩ := Prod.mk.inj hr3
          clear hr3
          obtain ⟨hq4, hr5⟩ := Prod.mk.inj hr4
          clear hr4
          obtain ⟨hq5, hr6⟩ := Prod.mk.inj hr5
          clear hr5
          obtain ⟨hq6, hr7⟩ := Prod.mk.inj hr6
          clear hr6
          obtain ⟨hq7, hr8⟩ := Prod.mk.inj hr7
          clear hr7
          subst hq0
          subst hq1
          subst hq2
          subst hq3
          subst hq4
          subst hq5
          subst hq6
          subst hq7
          subst hr8
          have hP9 := hP.sub (ws' := [(h0, .inr (13, z_52)), (qf100, .inl (cf100, 48000, .inl f100)), (qf128, .inl (cf128, 31, .inl g952_1)), (qf127, .inl (cf127, 30, .inl g127_25)), (qf104, .inl (cf104, 8, .inl f104)), (qf102, .inl (cf102, 2048, .inl f102)), (qf118, .inl (cf118, 2100, .inl g118_25)), (qf119, .inl (cf119, 2100, .inl g119_25)), (qf105, .inl (cf105, 8, .inl f105)), (qf137, .inl (cf137, 6, .inl g137_25))]) [8, 0, 9, 1, 2, 3, 4, 5, 6, 7] rfl
          have hD9 := hD.sub (ws' := [(h0, .inr (13, z_52)), (qf100, .inl (cf100, 48000, .inl f100)), (qf128, .inl (cf128, 31, .inl g952_1)), (qf127, .inl (cf127, 30, .inl g127_25)), (qf104, .inl (cf104, 8, .inl f104)), (qf102, .inl (cf102, 2048, .inl f102)), (qf118, .inl (cf118, 2100, .inl g118_25)), (qf119, .inl (cf119, 2100, .inl g119_25)), (qf105, .inl (cf105, 8, .inl f105)), (qf137, .inl (cf137, 6, .inl g137_25))]) [8, 0, 9, 1, 2, 3, 4, 5, 6, 7] (by decide) rfl
          have hK9 := hK.sub (tys' := [(cf100, .int), (cf128, .int), (cf127, .int), (cf104, .int), (cf102, .int), (cf118, .int), (cf119, .int), (cf105, .int), (cf137, .int)]) [0, 8, 1, 2, 3, 4, 5, 6, 7] rfl
          exact W.zret hx hb hr (by decide) (fun t ht hW => ⟨⟨(0), (z_52), rfl, ⟨⟨rfl, Or.inl rfl⟩, hln_52, hrq_52, hfk_52_117, hfk_52_120, hch_52_131⟩, by rw [ht]; exact hP9, va_K.moved hW.alike hK9, hD9⟩, hS.F ht⟩) hS.2.2 dX13_wanted_1605
        · rw [if_neg (by decide)] at hsp
          refine lv_if_eq (tgt := 1604) hx hb dX13_wanted_1597 (by decide) (fun c_335 => (show False by revert c_335; decide).elim) (fun c_335 => ?_)
          refine lv_iconst (v := 1) hx hb dX13_wanted_1600 (by decide) ?_
          refine lv_goto (tgt := 1605) hx hb dX13_wanted_1601 (by decide) ?_
          have hr0 := Option.some.inj hsp
          clear hsp
          obtain ⟨hq0, hr1⟩ := Prod.mk.inj hr0
          clear hr0
          obtain ⟨hq1, hr2⟩ := Prod.mk.inj hr1
          clear hr1
          obtain ⟨hq2, hr3⟩ := Prod.mk.inj hr2
          clear hr2
          obtain ⟨hq3, hr4⟩ := Prod.mk.inj hr3
          clear hr3
          obtain ⟨hq4, hr5⟩ := Prod.mk.inj hr4
          clear hr4
          obtain ⟨hq5, hr6⟩ := Prod.mk.inj hr5
          clear hr5
          obtain ⟨hq6, hr7⟩ := Prod.mk.inj hr6
          clear hr6
          obtain ⟨hq7, hr8⟩ := Prod.mk.inj hr7
          clear hr7
          subst hq0
          subst hq1
          subst hq2
          subst hq3
          subst hq4
          subst hq5
          subst hq6
          subst hq7
          subst hr8
          have hP9 := hP.sub (ws' := [(h0, .inr (13, z_52)), (qf100, .inl (cf100, 48000, .inl f100)), (qf128, .inl (cf128, 31, .inl g952_1)), (qf127, .inl (cf127, 30, .inl g127_25)), (qf104, .inl (cf104, 8, .inl f104)), (qf102, .inl (cf102, 2048, .inl f102)), (qf118, .inl (cf118, 2100, .inl g118_25)), (qf119, .inl (cf119, 2100, .inl g119_25)), (qf105, .inl (cf105, 8, .inl f105)), (qf137, .inl (cf137, 6, .inl g137_25))]) [8, 0, 9, 1, 2, 3, 4, 5, 6, 7] rfl
          have hD9 := hD.sub (ws' := [(h0, .inr (13, z_52)), (qf100, .inl (cf100, 48000, .inl f100)), (qf128, .inl (cf128, 31, .inl g952_1)), (qf127, .inl (cf127, 30, .inl g127_25)), (qf104, .inl (cf104, 8, .inl f104)), (qf102, .inl (cf102, 2048, .inl f102)), (qf118, .inl (cf118, 2100, .inl g118_25)), (qf119, .inl (cf119, 2100, .inl g119_25)), (qf105, .inl (cf105, 8, .inl f105)), (qf137, .inl (cf137, 6, .inl g137_25))]) [8, 0, 9, 1, 2, 3, 4, 5, 6, 7] (by decide) rfl
          have hK9 := hK.sub (tys' := [(cf100, .int), (cf128, .int), (cf127, .int), (cf104, .int), (cf102, .int), (cf118, .int), (cf119, .int), (cf105, .int), (cf137, .int)]) [0, 8, 1, 2, 3, 4, 5, 6, 7] rfl
          exact W.zret hx hb hr (by decide) (fun t ht hW => ⟨⟨(1), (z_52), rfl, ⟨⟨rfl, Or.inr rfl⟩, hln_52, hrq_52, hfk_52_117, hfk_52_120, hch_52_131⟩, by rw [ht]; exact hP9, va_K.moved hW.alike hK9, hD9⟩, hS.F ht⟩) hS.2.2 dX13_wanted_1605
      · rw [if_neg c_332] at hsp
        refine lv_iload hx hb dX13_wanted_1578 (lv_at hl 0 rfl) ?_
        refine lv_iconst (v := (-1)) hx hb dX13_wanted_1580 (by decide) ?_
        refine lv_icmp_eq (tgt := 1604) hx hb dX13_wanted_1581 (by decide) (fun c_336 => ?_) (fun c_336 => ?_)
        · rw [if_pos c_336] at hsp
          refine lv_iconst (v := 0) hx hb dX13_wanted_1604 (by decide) ?_
          have hr0 := Option.some.inj hsp
          clear hsp
          obtain ⟨hq0, hr1⟩ := Prod.mk.inj hr0
          clear hr0
          obtain ⟨hq1, hr2⟩ := Prod.mk.inj hr1
          clear hr1
          obtain ⟨hq2, hr3⟩ := Prod.mk.inj hr2
          clear hr2
          obtain ⟨hq3, hr4⟩ := Prod.mk.inj hr3
          clear hr3
          obtain ⟨hq4, hr5⟩ := Prod.mk.inj hr4
          clear hr4
          obtain ⟨hq5, hr6⟩ := Prod.mk.inj hr5
          clear hr5
          obtain ⟨hq6, hr7⟩ := Prod.mk.inj hr6
          clear hr6
          obtain ⟨hq7, hr8⟩ := Prod.mk.inj hr7
          clear hr7
          subst hq0
          subst hq1
          subst hq2
          subst hq3
          subst hq4
          subst hq5
          subst hq6
          subst hq7
          subst hr8
          have hP9 := hP.sub (ws' := [(h0, .inr (13, z_51)), (qf100, .inl (cf100, 48000, .inl f100)), (qf128, .inl (cf128, 31, .inl g128_25)), (qf127, .inl (cf127, 30, .inl g127_25)), (qf104, .inl (cf104, 8, .inl f104)), (qf102, .inl (cf102, 2048, .inl f102)), (qf118, .inl (cf118, 2100, .inl g118_25)), (qf119, .inl (cf119, 2100, .inl g119_25)), (qf105, .inl (cf105, 8, .inl f105)), (qf137, .inl (cf137, 6, .inl g137_25))]) [8, 0, 9, 1, 2, 3, 4, 5, 6, 7] rfl
          have hD9 := hD.sub (ws' := [(h0, .inr (13, z_51)), (qf100, .inl (cf100, 48000, .inl f100)), (qf128, .inl (cf128, 31, .inl g128_25)), (qf127, .inl (cf127, 30, .inl g127_25)), (qf104, .inl (cf104, 8, .inl f104)), (qf102, .inl (cf102, 2048, .inl f102)), (qf118, .inl (cf118, 2100, .inl g118_25)), (qf119, .inl (cf119, 2100, .inl g119_25)), (qf105, .inl (cf105, 8, .inl f105)), (qf137, .inl (cf137, 6, .inl g137_25))]) [8, 0, 9, 1, 2, 3, 4, 5, 6, 7] (by decide) rfl
          have hK9 := hK.sub (tys' := [(cf100, .int), (cf128, .int), (cf127, .int), (cf104, .int), (cf102, .int), (cf118, .int), (cf119, .int), (cf105, .int), (cf137, .int)]) [0, 8, 1, 2, 3, 4, 5, 6, 7] rfl
          exact W.zret hx hb hr (by decide) (fun t ht hW => ⟨⟨(0), (z_51), rfl, ⟨⟨rfl, Or.inl rfl⟩, hln_51, hrq_51, hfk_51_117, hfk_51_120, hch_51_131⟩, by rw [ht]; exact hP9, va_K.moved hW.alike hK9, hD9⟩, hS.F ht⟩) hS.2.2 dX13_wanted_1605
        · rw [if_neg c_336] at hsp
          refine lv_iload hx hb dX13_wanted_1584 (lv_at hl 0 rfl) ?_
          obtain ⟨u53_0, hu_53, hsp⟩ := ox_bind hsp
          try dsimp only at hsp
          have hPc := hP.sub (ws' := []) [] rfl
          have hDc := hD.sub (ws' := []) [] (by decide) rfl
          have hKc := hK.sub (tys' := []) [] rfl
          have hFc := va_free (wc := []) hD hS hA [] rfl
          refine va_calli (va_runS (As := [.int u51_0]) (rest := []) ⟨hx, hb, hml, hown, hts⟩ (tm_isRow l dC dI H.size u51_0 nf u53_0 hu_53) (va_cwS 1 hts gv_h9_56 rfl rfl rfl (by decide +kernel) ⟨Nat.le_of_ble_eq_true rfl, Nat.le_of_ble_eq_true rfl⟩) ⟨fun a U g mk q => by obtain ⟨q0, q1, qP, qK, qD⟩ := q; exact ⟨q0, q1, qP, va_K.moved (u := U) (U := U.calling g mk a) (Vm.Alike.refl U.vm) qK, qD⟩, fun U hU hW => ⟨rfl, by rw [hU], by rw [hU]; exact hPc, va_K.moved hW.alike hKc, hDc.weaken (fun _ _ _ _ => trivial)⟩⟩ rfl rfl hl.1 rfl (lv_room (Nat.le_of_ble_eq_true rfl)) dX13_wanted_1586 ⟨Nat.le_of_ble_eq_true rfl, Nat.le_of_ble_eq_true rfl⟩) hS (fun q _ h => hFc q h) hFc ?_
          clear hS
          intro r_337 u t H1 locs ht hvm hw hB hz1 hk1 hS
          obtain ⟨⟩ := u
          obtain ⟨hP1, hK1, hD1⟩ := hB
          rw [ht] at hP1
          have hK1 := va_K.moved hvm.symm hK1
          try dsimp only at hw
          have hPD := va_join (wr := [(qf100, .inl (cf100, 48000, .inl f100)), (qf127, .inl (cf127, 30, .inl g127_25)), (qf104, .inl (cf104, 8, .inl f104)), (qf102, .inl (cf102, 2048, .inl f102)), (qf118, .inl (cf118, 2100, .inl g118_25)), (qf119, .inl (cf119, 2100, .inl g119_25)), (qf105, .inl (cf105, 8, .inl f105)), (qf137, .inl (cf137, 6, .inl g137_25)), (h0, .inr (13, z_51)), (qf128, .inl (cf128, 31, .inl g128_25))]) (w1 := []) hP hD [] [0, 1, 2, 3, 4, 5, 6, 7, 8, 9] rfl rfl (by decide) (by decide) hk1 hFc hP1 hD1
          clear hP hD
          obtain ⟨hP, hD⟩ := hPD
          replace hK := (hK.sub (tys' := [(cf100, .int), (cf127, .int), (cf104, .int), (cf102, .int), (cf118, .int), (cf119, .int), (cf105, .int), (cf137, .int), (cf128, .int)]) [0, 1, 2, 3, 4, 5, 6, 7, 8] rfl).app hK1
          clear hPc hDc hKc hFc hP1 hK1 hD1 hz1 hk1 ht hvm
          generalize H1 = H at hP hS ⊢
          replace hP : va_P (dC, dI) vwCl [(qf100, .inl (cf100, 48000, .inl f100)), (qf127, .inl (cf127, 30, .inl g127_25)), (qf104, .inl (cf104, 8, .inl f104)), (qf102, .inl (cf102, 2048, .inl f102)), (qf118, .inl (cf118, 2100, .inl g118_25)), (qf119, .inl (cf119, 2100, .inl g119_25)), (qf105, .inl (cf105, 8, .inl f105)), (qf137, .inl (cf137, 6, .inl g137_25)), (h0, .inr (13, z_51)), (qf128, .inl (cf128, 31, .inl g128_25))] H := hP
          replace hD : va_D A [(qf100, .inl (cf100, 48000, .inl f100)), (qf127, .inl (cf127, 30, .inl g127_25)), (qf104, .inl (cf104, 8, .inl f104)), (qf102, .inl (cf102, 2048, .inl f102)), (qf118, .inl (cf118, 2100, .inl g118_25)), (qf119, .inl (cf119, 2100, .inl g119_25)), (qf105, .inl (cf105, 8, .inl f105)), (qf137, .inl (cf137, 6, .inl g137_25)), (h0, .inr (13, z_51)), (qf128, .inl (cf128, 31, .inl g128_25))] := hD
          replace hK : va_K (dC, dI) vwCl [(cf100, .int), (cf127, .int), (cf104, .int), (cf102, .int), (cf118, .int), (cf119, .int), (cf105, .int), (cf137, .int), (cf128, .int)] s := hK
          obtain ⟨rfl, hz_53⟩ := hw
          rcases hz_53 with rfl | rfl
          · rw [if_pos rfl] at hsp
            refine lv_if_eq (tgt := 1604) hx hb dX13_wanted_1589 (by decide) (fun c_338 => ?_) (fun c_338 => (show False by revert c_338; decide).elim)
            refine lv_iconst (v := 0) hx hb dX13_wanted_1604 (by decide) ?_
            have hr0 := Option.some.inj hsp
            clear hsp
            obtain ⟨hq0, hr1⟩ := Prod.mk.inj hr0
            clear hr0
            obtain ⟨hq1, hr2⟩ := Prod.mk.inj hr1
            clear hr1
            obtain ⟨hq2, hr3⟩ := Prod.mk.inj hr2
            clear hr2
            obtain ⟨hq3, hr4⟩ := Prod.mk.inj hr3
            clear hr3
            obtain ⟨hq4, hr5⟩ := Prod.mk.inj hr4
            clear hr4
            obtain ⟨hq5, hr6⟩ := Prod.mk.inj hr5
            clear hr5
            obtain ⟨hq6, hr7⟩ := Prod.mk.inj hr6
            clear hr6
            obtain ⟨hq7, hr8⟩ := Prod.mk.inj hr7
            clear hr7
            subst hq0
            subst hq1
            subst hq2
            subst hq3
            subst hq4
            subst hq5
            subst hq6
            subst hq7
            subst hr8
            have hP9 := hP.sub (ws' := [(h0, .inr (13, z_51)), (qf100, .inl (cf100, 48000, .inl f100)), (qf128, .inl (cf128, 31, .inl g128_25)), (qf127, .inl (cf127, 30, .inl g127_25)), (qf104, .inl (cf104, 8, .inl f104)), (qf102, .inl (cf102, 2048, .inl f102)), (qf118, .inl (cf118, 2100, .inl g118_25)), (qf119, .inl (cf119, 2100, .inl g119_25)), (qf105, .inl (cf105, 8, .inl f105)), (qf137, .inl (cf137, 6, .inl g137_25))]) [8, 0, 9, 1, 2, 3, 4, 5, 6, 7] rfl
            have hD9 := hD.sub (ws' := [(h0, .inr (13, z_51)), (qf100, .inl (cf100, 48000, .inl f100)), (qf128, .inl (cf128, 31, .inl g128_25)), (qf127, .inl (cf127, 30, .inl g127_25)), (qf104, .inl (cf104, 8, .inl f104)), (qf102, .inl (cf102, 2048, .inl f102)), (qf118, .inl (cf118, 2100, .inl g118_25)), (qf119, .inl (cf119, 2100, .inl g119_25)), (qf105, .inl (cf105, 8, .inl f105)), (qf137, .inl (cf137, 6, .inl g137_25))]) [8, 0, 9, 1, 2, 3, 4, 5, 6, 7] (by decide) rfl
            have hK9 := hK.sub (tys' := [(cf100, .int), (cf128, .int), (cf127, .int), (cf104, .int), (cf102, .int), (cf118, .int), (cf119, .int), (cf105, .int), (cf137, .int)]) [0, 8, 1, 2, 3, 4, 5, 6, 7] rfl
            exact W.zret hx hb hr (by decide) (fun t ht hW => ⟨⟨(0), (z_51), rfl, ⟨⟨rfl, Or.inl rfl⟩, hln_51, hrq_51, hfk_51_117, hfk_51_120, hch_51_131⟩, by rw [ht]; exact hP9, va_K.moved hW.alike hK9, hD9⟩, hS.F ht⟩) hS.2.2 dX13_wanted_1605
          · rw [if_neg (by decide)] at hsp
            refine lv_if_eq (tgt := 1604) hx hb dX13_wanted_1589 (by decide) (fun c_339 => (show False by revert c_339; decide).elim) (fun c_339 => ?_)
            refine lv_aload_n hx hb dX13_wanted_1592 rfl (lv_at hl 2 rfl) ?_
            refine lv_iconst (v := 1) hx hb dX13_wanted_1593 (by decide) ?_
            obtain ⟨⟨u54_0, g954_1, u54_2⟩, hu_54, hsp⟩ := ox_bind hsp
            try dsimp only at hsp
            have hPc := hP.sub (ws' := [(h0, .inr (13, z_51)), (qf128, .inl (cf128, 31, .inl g128_25))]) [8, 9] rfl
            have hDc := hD.sub (ws' := [(h0, .inr (13, z_51)), (qf128, .inl (cf128, 31, .inl g128_25))]) [8, 9] (by decide) rfl
            have hKc := hK.sub (tys' := [(cf128, .int)]) [8] rfl
            have hFc := va_free (wc := [(h0, .inr (13, z_51)), (qf128, .inl (cf128, 31, .inl g128_25))]) hD hS hA [8, 9] rfl
            refine va_calli (va_runV (As := [.int 1]) (rest := []) ⟨hx, hb, hml, hown, hts⟩ (tm_comesBack l dC dI H.size h0 z_51 1 qf128 v130 u51_1 cf128 g128_25 nf u54_0 g954_1 u54_2 hln_51 hfk_51_128 hfk_51_130 hch_51_131 hu_54) (cwV 1 hts gv_h9_69 rfl rfl rfl (by decide +kernel) ⟨Nat.le_of_ble_eq_true rfl, Nat.le_of_ble_eq_true rfl⟩) ⟨fun a U g mk q => by obtain ⟨q0, q1, qP, qK, qD⟩ := q; exact ⟨q0, q1, qP, va_K.moved (u := U) (U := U.calling g mk a) (Vm.Alike.refl U.vm) qK, qD⟩, va_recv hKc hPc (ci := 13) (q0 := 0) rfl rfl, fun U hU hW => ⟨rfl, by rw [hU], by rw [hU]; exact hPc, va_K.moved hW.alike hKc, hDc.weaken (fun _ _ _ _ => trivial)⟩⟩ rfl rfl hl.1 rfl (lv_room (Nat.le_of_ble_eq_true rfl)) dX13_wanted_1594 ⟨Nat.le_of_ble_eq_true rfl, Nat.le_of_ble_eq_true rfl⟩) hS (fun q _ h => hFc q h) hFc ?_
            clear hS
            intro r_340 u t H1 locs ht hvm hw hB hz1 hk1 hS
            obtain ⟨z_54, rfl⟩ : ∃ z, z = u := ⟨_, rfl⟩
            obtain ⟨hP1, hK1, hD1⟩ := hB
            rw [ht] at hP1
            have hK1 := va_K.moved hvm.symm hK1
            try dsimp only at hw
            have hPD := va_join (wr := [(qf100, .inl (cf100, 48000, .inl f100)), (qf127, .inl (cf127, 30, .inl g127_25)), (qf104, .inl (cf104, 8, .inl f104)), (qf102, .inl (cf102, 2048, .inl f102)), (qf118, .inl (cf118, 2100, .inl g118_25)), (qf119, .inl (cf119, 2100, .inl g119_25)), (qf105, .inl (cf105, 8, .inl f105)), (qf137, .inl (cf137, 6, .inl g137_25))]) (w1 := [(h0, .inr (13, z_54)), (qf128, .inl (cf128, 31, .inl g954_1))]) hP hD [8, 9] [0, 1, 2, 3, 4, 5, 6, 7] rfl rfl (by decide) (by decide) hk1 hFc hP1 hD1
            clear hP hD
            obtain ⟨hP, hD⟩ := hPD
            replace hK := (hK.sub (tys' := [(cf100, .int), (cf127, .int), (cf104, .int), (cf102, .int), (cf118, .int), (cf119, .int), (cf105, .int), (cf137, .int)]) [0, 1, 2, 3, 4, 5, 6, 7] rfl).app hK1
            clear hPc hDc hKc hFc hP1 hK1 hD1 hz1 hk1 ht hvm
            generalize H1 = H at hP hS ⊢
            replace hP : va_P (dC, dI) vwCl [(qf100, .inl (cf100, 48000, .inl f100)), (qf127, .inl (cf127, 30, .inl g127_25)), (qf104, .inl (cf104, 8, .inl f104)), (qf102, .inl (cf102, 2048, .inl f102)), (qf118, .inl (cf118, 2100, .inl g118_25)), (qf119, .inl (cf119, 2100, .inl g119_25)), (qf105, .inl (cf105, 8, .inl f105)), (qf137, .inl (cf137, 6, .inl g137_25)), (h0, .inr (13, z_54)), (qf128, .inl (cf128, 31, .inl g954_1))] H := hP
            replace hD : va_D A [(qf100, .inl (cf100, 48000, .inl f100)), (qf127, .inl (cf127, 30, .inl g127_25)), (qf104, .inl (cf104, 8, .inl f104)), (qf102, .inl (cf102, 2048, .inl f102)), (qf118, .inl (cf118, 2100, .inl g118_25)), (qf119, .inl (cf119, 2100, .inl g119_25)), (qf105, .inl (cf105, 8, .inl f105)), (qf137, .inl (cf137, 6, .inl g137_25)), (h0, .inr (13, z_54)), (qf128, .inl (cf128, 31, .inl g954_1))] := hD
            replace hK : va_K (dC, dI) vwCl [(cf100, .int), (cf127, .int), (cf104, .int), (cf102, .int), (cf118, .int), (cf119, .int), (cf105, .int), (cf137, .int), (cf128, .int)] s := hK
            obtain ⟨hwa_54, hln_54, hre_54, hch_54_131⟩ := hw
            have hfk_54_98 : z_54[98]? = some (.int v98) := (hre_54 98 (by decide)).trans (hfk_51_98)
            have hfk_54_100 : z_54[100]? = some (.ref qf100) := (hre_54 100 (by decide)).trans (hfk_51_100)
            have hfk_54_102 : z_54[102]? = some (.ref qf102) := (hre_54 102 (by decide)).trans (hfk_51_102)
            have hfk_54_104 : z_54[104]? = some (.ref qf104) := (hre_54 104 (by decide)).trans (hfk_51_104)
            have hfk_54_105 : z_54[105]? = some (.ref qf105) := (hre_54 105 (by decide)).trans (hfk_51_105)
            have hfk_54_117 : z_54[117]? = some (.int x117_25) := (hre_54 117 (by decide)).trans (hfk_51_117)
            have hfk_54_118 : z_54[118]? = some (.ref qf118) := (hre_54 118 (by decide)).trans (hfk_51_118)
            have hfk_54_119 : z_54[119]? = some (.ref qf119) := (hre_54 119 (by decide)).trans (hfk_51_119)
            have hfk_54_120 : z_54[120]? = some (.int x120_25) := (hre_54 120 (by decide)).trans (hfk_51_120)
            have hfk_54_127 : z_54[127]? = some (.ref qf127) := (hre_54 127 (by decide)).trans (hfk_51_127)
            have hfk_54_128 : z_54[128]? = some (.ref qf128) := (hre_54 128 (by decide)).trans (hfk_51_128)
            have hfk_54_129 : z_54[129]? = some (.int v129) := (hre_54 129 (by decide)).trans (hfk_51_129)
            have hfk_54_130 : z_54[130]? = some (.int v130) := (hre_54 130 (by decide)).trans (hfk_51_130)
            have hfk_54_132 : z_54[132]? = some (.int v132) := (hre_54 132 (by decide)).trans (hfk_51_132)
            have hfk_54_134 : z_54[134]? = some (.int v134) := (hre_54 134 (by decide)).trans (hfk_51_134)
            have hfk_54_136 : z_54[136]? = some (.int v136) := (hre_54 136 (by decide)).trans (hfk_51_136)
            have hfk_54_137 : z_54[137]? = some (.ref qf137) := (hre_54 137 (by decide)).trans (hfk_51_137)
            have hrq_54 : ∀ j : Nat, j ≠ 117 → j ≠ 120 → j ≠ 131 → z_54[j]? = zs[j]? := fun j g117 g120 g131 => (hre_54 j g131).trans (hrq_51 j g117 g120 g131)
            obtain ⟨rfl, hz_54⟩ := hwa_54
            rcases hz_54 with rfl | rfl
            · rw [if_pos rfl] at hsp
              refine lv_if_eq (tgt := 1604) hx hb dX13_wanted_1597 (by decide) (fun c_341 => ?_) (fun c_341 => (show False by revert c_341; decide).elim)
              refine lv_iconst (v := 0) hx hb dX13_wanted_1604 (by decide) ?_
              have hr0 := Option.some.inj hsp
              clear hsp
              obtain ⟨hq0, hr1⟩ := Prod.mk.inj hr0
              clear hr0
              obtain ⟨hq1, hr2⟩ := Prod.mk.inj hr1
              clear hr1
              obtain ⟨hq2, hr3⟩ := Prod.mk.inj hr2
              clear hr2
              obtain ⟨hq3, hr4⟩ := Prod.mk.inj hr3
              clear hr3
              obtain ⟨hq4, hr5⟩ := Prod.mk.inj hr4
              clear hr4
              obtain ⟨hq5, hr6⟩ := Prod.mk.inj hr5
              clear hr5
              obtain ⟨hq6, hr7⟩ := Prod.mk.inj hr6
              clear hr6
              obtain ⟨hq7, hr8⟩ := Prod.mk.inj hr7
              clear hr7
              subst hq0
              subst hq1
              subst hq2
              subst hq3
              subst hq4
              subst hq5
              subst hq6
              subst hq7
              subst hr8
              have hP9 := hP.sub (ws' := [(h0, .inr (13, z_54)), (qf100, .inl (cf100, 48000, .inl f100)), (qf128, .inl (cf128, 31, .inl g954_1)), (qf127, .inl (cf127, 30, .inl g127_25)), (qf104, .inl (cf104, 8, .inl f104)), (qf102, .inl (cf102, 2048, .inl f102)), (qf118, .inl (cf118, 2100, .inl g118_25)), (qf119, .inl (cf119, 2100, .inl g119_25)), (qf105, .inl (cf105, 8, .inl f105)), (qf137, .inl (cf137, 6, .inl g137_25))]) [8, 0, 9, 1, 2, 3, 4, 5, 6, 7] rfl
              have hD9 := hD.sub (ws' := [(h0, .inr (13, z_54)), (qf100, .inl (cf100, 48000, .inl f100)), (qf128, .inl (cf128, 31, .inl g954_1)), (qf127, .inl (cf127, 30, .inl g127_25)), (qf104, .inl (cf104, 8, .inl f104)), (qf102, .inl (cf102, 2048, .inl f102)), (qf118, .inl (cf118, 2100, .inl g118_25)), (qf119, .inl (cf119, 2100, .inl g119_25)), (qf105, .inl (cf105, 8, .inl f105)), (qf137, .inl (cf137, 6, .inl g137_25))]) [8, 0, 9, 1, 2, 3, 4, 5, 6, 7] (by decide) rfl
              have hK9 := hK.sub (tys' := [(cf100, .int), (cf128, .int), (cf127, .int), (cf104, .int), (cf102, .int), (cf118, .int), (cf119, .int), (cf105, .int), (cf137, .int)]) [0, 8, 1, 2, 3, 4, 5, 6, 7] rfl
              exact W.zret hx hb hr (by decide) (fun t ht hW => ⟨⟨(0), (z_54), rfl, ⟨⟨rfl, Or.inl rfl⟩, hln_54, hrq_54, hfk_54_117, hfk_54_120, hch_54_131⟩, by rw [ht]; exact hP9, va_K.moved hW.alike hK9, hD9⟩, hS.F ht⟩) hS.2.2 dX13_wanted_1605
            · rw [if_neg (by decide)] at hsp
              refine lv_if_eq (tgt := 1604) hx hb dX13_wanted_1597 (by decide) (fun c_342 => (show False by revert c_342; decide).elim) (fun c_342 => ?_)
              refine lv_iconst (v := 1) hx hb dX13_wanted_1600 (by decide) ?_
              refine lv_goto (tgt := 1605) hx hb dX13_wanted_1601 (by decide) ?_
              have hr0 := Option.some.inj hsp
              clear hsp
              obtain ⟨hq0, hr1⟩ := Prod.mk.inj hr0
              clear hr0
              obtain ⟨hq1, hr2⟩ := Prod.mk.inj hr1
              clear hr1
              obtain ⟨hq2, hr3⟩ := Prod.mk.inj hr2
              clear hr2
              obtain ⟨hq3, hr4⟩ := Prod.mk.inj hr3
              clear hr3
              obtain ⟨hq4, hr5⟩ := Prod.mk.inj hr4
              clear hr4
              obtain ⟨hq5, hr6⟩ := Prod.mk.inj hr5
              clear hr5
              obtain ⟨hq6, hr7⟩ := Prod.mk.inj hr6
              clear hr6
              obtain ⟨hq7, hr8⟩ := Prod.mk.inj hr7
              clear hr7
              subst hq0
              subst hq1
              subst hq2
              subst hq3
              subst hq4
              subst hq5
              subst hq6
              subst hq7
              subst hr8
              have hP9 := hP.sub (ws' := [(h0, .inr (13, z_54)), (qf100, .inl (cf100, 48000, .inl f100)), (qf128, .inl (cf128, 31, .inl g954_1)), (qf127, .inl (cf127, 30, .inl g127_25)), (qf104, .inl (cf104, 8, .inl f104)), (qf102, .inl (cf102, 2048, .inl f102)), (qf118, .inl (cf118, 2100, .inl g118_25)), (qf119, .inl (cf119, 2100, .inl g119_25)), (qf105, .inl (cf105, 8, .inl f105)), (qf137, .inl (cf137, 6, .inl g137_25))]) [8, 0, 9, 1, 2, 3, 4, 5, 6, 7] rfl
              have hD9 := hD.sub (ws' := [(h0, .inr (13, z_54)), (qf100, .inl (cf100, 48000, .inl f100)), (qf128, .inl (cf128, 31, .inl g954_1)), (qf127, .inl (cf127, 30, .inl g127_25)), (qf104, .inl (cf104, 8, .inl f104)), (qf102, .inl (cf102, 2048, .inl f102)), (qf118, .inl (cf118, 2100, .inl g118_25)), (qf119, .inl (cf119, 2100, .inl g119_25)), (qf105, .inl (cf105, 8, .inl f105)), (qf137, .inl (cf137, 6, .inl g137_25))]) [8, 0, 9, 1, 2, 3, 4, 5, 6, 7] (by decide) rfl
              have hK9 := hK.sub (tys' := [(cf100, .int), (cf128, .int), (cf127, .int), (cf104, .int), (cf102, .int), (cf118, .int), (cf119, .int), (cf105, .int), (cf137, .int)]) [0, 8, 1, 2, 3, 4, 5, 6, 7] rfl
              exact W.zret hx hb hr (by decide) (fun t ht hW => ⟨⟨(1), (z_54), rfl, ⟨⟨rfl, Or.inr rfl⟩, hln_54, hrq_54, hfk_54_117, hfk_54_120, hch_54_131⟩, by rw [ht]; exact hP9, va_K.moved hW.alike hK9, hD9⟩, hS.F ht⟩) hS.2.2 dX13_wanted_1605
    rw [if_neg hs_330] at hsp
    by_cases hs_343 : l2_25 = 191
    · rw [if_pos hs_343] at hsp
      refine lv_tableIn (tgt := 1606) hx hb dX13_wanted_27 (by rw [hs_343]; decide) (by rw [hs_343]; decide) (off := 1579) (by rw [hs_343]; rfl) (by decide) ?_
      refine lv_aload_n hx hb dX13_wanted_1606 rfl (lv_at hl 1 rfl) ?_
      refine lv_bipush (v := 6) hx hb dX13_wanted_1607 (by decide) ?_
      obtain ⟨⟨u55_0, u55_1⟩, hu_55, hsp⟩ := ox_bind hsp
      try dsimp only at hsp
      have hPc := hP.sub (ws' := [(h0, .inr (13, z25)), (qf128, .inl (cf128, 31, .inl g128_25)), (qf105, .inl (cf105, 8, .inl f105)), (qf102, .inl (cf102, 2048, .inl f102)), (qf100, .inl (cf100, 48000, .inl f100)), (qf104, .inl (cf104, 8, .inl f104))]) [0, 2, 8, 5, 1, 4] rfl
      have hDc := hD.sub (ws' := [(h0, .inr (13, z25)), (qf128, .inl (cf128, 31, .inl g128_25)), (qf105, .inl (cf105, 8, .inl f105)), (qf102, .inl (cf102, 2048, .inl f102)), (qf100, .inl (cf100, 48000, .inl f100)), (qf104, .inl (cf104, 8, .inl f104))]) [0, 2, 8, 5, 1, 4] (by decide) rfl
      have hKc := hK.sub (tys' := [(cf128, .int), (cf105, .int), (cf102, .int), (cf100, .int), (cf104, .int)]) [1, 7, 4, 0, 3] rfl
      have hFc := va_free (wc := [(h0, .inr (13, z25)), (qf128, .inl (cf128, 31, .inl g128_25)), (qf105, .inl (cf105, 8, .inl f105)), (qf102, .inl (cf102, 2048, .inl f102)), (qf100, .inl (cf100, 48000, .inl f100)), (qf104, .inl (cf104, 8, .inl f104))]) hD hS hA [0, 2, 8, 5, 1, 4] rfl
      refine va_calli (va_runV (As := [.int 6]) (rest := []) ⟨hx, hb, hml, hown, hts⟩ (vm_pullFit l dC dI H.size h0 z25 6 v98 qf100 qf102 qf104 qf105 qf128 x131_25 cf128 g128_25 cf105 f105 cf102 f102 cf100 f100 cf104 f104 nS477 fS477 hS477 qS477 tS477 nf u55_0 u55_1 hlh_25 hfh_25_98 hfh_25_100 hfh_25_102 hfh_25_104 hfh_25_105 hfh_25_128 hfh_25_131 hu_55) (cwV 1 hts gv_h9_118 rfl rfl rfl (by decide +kernel) ⟨Nat.le_of_ble_eq_true rfl, Nat.le_of_ble_eq_true rfl⟩) ⟨fun a U g mk q => by obtain ⟨q0, q1, qP, qK, qD, qhZWS477, qhZRS477⟩ := q; exact ⟨q0, q1, qP, va_K.moved (u := U) (U := U.calling g mk a) (Vm.Alike.refl U.vm) qK, qD, pz_W.moved (u := U) (U := U.calling g mk a) (Vm.Alike.refl U.vm) qhZWS477, vk_R.same rfl qhZRS477⟩, va_recv hKc hPc (ci := 13) (q0 := 0) rfl rfl, fun U hU hW => ⟨rfl, by rw [hU], by rw [hU]; exact hPc, va_K.moved hW.alike hKc, hDc.weaken (fun _ _ _ _ => trivial), by rw [hU]; exact ((pz_W.moved hW.alike hZWS477).kept hS.2.1).narrow hFc, vk_R.warm hW hZRS477⟩⟩ rfl rfl hl.1 rfl (lv_room (Nat.le_of_ble_eq_true rfl)) dX13_wanted_1609 ⟨Nat.le_of_ble_eq_true rfl, Nat.le_of_ble_eq_true rfl⟩) hS (fun q _ h => hFc q h) hFc ?_
      clear hS
      intro r_344 u t H1 locs ht hvm hw hB hz1 hk1 hS
      obtain ⟨z_55, rfl⟩ : ∃ z, z = u := ⟨_, rfl⟩
      obtain ⟨hP1, hK1, hD1⟩ := hB
      rw [ht] at hP1
      have hK1 := va_K.moved hvm.symm hK1
      try dsimp only at hw
      have hPD := va_join (wr := [(qf127, .inl (cf127, 30, .inl g127_25)), (qf118, .inl (cf118, 2100, .inl g118_25)), (qf119, .inl (cf119, 2100, .inl g119_25)), (qf137, .inl (cf137, 6, .inl g137_25))]) (w1 := [(h0, .inr (13, z_55)), (qf128, .inl (cf128, 31, .inl g128_25)), (qf105, .inl (cf105, 8, .inl f105)), (qf102, .inl (cf102, 2048, .inl f102)), (qf100, .inl (cf100, 48000, .inl f100)), (qf104, .inl (cf104, 8, .inl f104))]) hP hD [0, 2, 8, 5, 1, 4] [3, 6, 7, 9] rfl rfl (by decide) (by decide) hk1 hFc hP1 hD1
      clear hP hD
      obtain ⟨hP, hD⟩ := hPD
      replace hK := (hK.sub (tys' := [(cf127, .int), (cf118, .int), (cf119, .int), (cf137, .int)]) [2, 5, 6, 8] rfl).app hK1
      clear hPc hDc hKc hFc hP1 hK1 hD1 hz1 hk1 ht hvm
      generalize H1 = H at hP hS ⊢
      replace hP : va_P (dC, dI) vwCl [(qf127, .inl (cf127, 30, .inl g127_25)), (qf118, .inl (cf118, 2100, .inl g118_25)), (qf119, .inl (cf119, 2100, .inl g119_25)), (qf137, .inl (cf137, 6, .inl g137_25)), (h0, .inr (13, z_55)), (qf128, .inl (cf128, 31, .inl g128_25)), (qf105, .inl (cf105, 8, .inl f105)), (qf102, .inl (cf102, 2048, .inl f102)), (qf100, .inl (cf100, 48000, .inl f100)), (qf104, .inl (cf104, 8, .inl f104))] H := hP
      replace hD : va_D A [(qf127, .inl (cf127, 30, .inl g127_25)), (qf118, .inl (cf118, 2100, .inl g118_25)), (qf119, .inl (cf119, 2100, .inl g119_25)), (qf137, .inl (cf137, 6, .inl g137_25)), (h0, .inr (13, z_55)), (qf128, .inl (cf128, 31, .inl g128_25)), (qf105, .inl (cf105, 8, .inl f105)), (qf102, .inl (cf102, 2048, .inl f102)), (qf100, .inl (cf100, 48000, .inl f100)), (qf104, .inl (cf104, 8, .inl f104))] := hD
      replace hK : va_K (dC, dI) vwCl [(cf127, .int), (cf118, .int), (cf119, .int), (cf137, .int), (cf128, .int), (cf105, .int), (cf102, .int), (cf100, .int), (cf104, .int)] s := hK
      obtain ⟨hwa_55, hln_55, hre_55, hch_55_131⟩ := hw
      have hfk_55_98 : z_55[98]? = some (.int v98) := (hre_55 98 (by decide)).trans (hfh_25_98)
      have hfk_55_100 : z_55[100]? = some (.ref qf100) := (hre_55 100 (by decide)).trans (hfh_25_100)
      have hfk_55_102 : z_55[102]? = some (.ref qf102) := (hre_55 102 (by decide)).trans (hfh_25_102)
      have hfk_55_104 : z_55[104]? = some (.ref qf104) := (hre_55 104 (by decide)).trans (hfh_25_104)
      have hfk_55_105 : z_55[105]? = some (.ref qf105) := (hre_55 105 (by decide)).trans (hfh_25_105)
      have hfk_55_117 : z_55[117]? = some (.int x117_25) := (hre_55 117 (by decide)).trans (hfh_25_117)
      have hfk_55_118 : z_55[118]? = some (.ref qf118) := (hre_55 118 (by decide)).trans (hfh_25_118)
      have hfk_55_119 : z_55[119]? = some (.ref qf119) := (hre_55 119 (by decide)).trans (hfh_25_119)
      have hfk_55_120 : z_55[120]? = some (.int x120_25) := (hre_55 120 (by decide)).trans (hfh_25_120)
      have hfk_55_127 : z_55[127]? = some (.ref qf127) := (hre_55 127 (by decide)).trans (hfh_25_127)
      have hfk_55_128 : z_55[128]? = some (.ref qf128) := (hre_55 128 (by decide)).trans (hfh_25_128)
      have hfk_55_129 : z_55[129]? = some (.int v129) := (hre_55 129 (by decide)).trans (hfh_25_129)
      have hfk_55_130 : z_55[130]? = some (.int v130) := (hre_55 130 (by decide)).trans (hfh_25_130)
      have hfk_55_132 : z_55[132]? = some (.int v132) := (hre_55 132 (by decide)).trans (hfh_25_132)
      have hfk_55_134 : z_55[134]? = some (.int v134) := (hre_55 134 (by decide)).trans (hfh_25_134)
      have hfk_55_136 : z_55[136]? = some (.int v136) := (hre_55 136 (by decide)).trans (hfh_25_136)
      have hfk_55_137 : z_55[137]? = some (.ref qf137) := (hre_55 137 (by decide)).trans (hfh_25_137)
      have hrq_55 : ∀ j : Nat, j ≠ 117 → j ≠ 120 → j ≠ 131 → z_55[j]? = zs[j]? := fun j g117 g120 g131 => (hre_55 j g131).trans (hrh_25 j g117 g120 g131)
      obtain ⟨rfl, hz_55⟩ := hwa_55
      rcases hz_55 with rfl | rfl
      · rw [if_pos rfl] at hsp
        have hr0 := Option.some.inj hsp
        clear hsp
        obtain ⟨hq0, hr1⟩ := Prod.mk.inj hr0
        clear hr0
        obtain ⟨hq1, hr2⟩ := Prod.mk.inj hr1
        clear hr1
        obtain ⟨hq2, hr3⟩ := Prod.mk.inj hr2
        clear hr2
        obtain ⟨hq3, hr4⟩ := Prod.mk.inj hr3
        clear hr3
        obtain ⟨hq4, hr5⟩ := Prod.mk.inj hr4
        clear hr4
        obtain ⟨hq5, hr6⟩ := Prod.mk.inj hr5
        clear hr5
        obtain ⟨hq6, hr7⟩ := Prod.mk.inj hr6
        clear hr6
        obtain ⟨hq7, hr8⟩ := Prod.mk.inj hr7
        clear hr7
        subst hq0
        subst hq1
        subst hq2
        subst hq3
        subst hq4
        subst hq5
        subst hq6
        subst hq7
        subst hr8
        have hP9 := hP.sub (ws' := [(h0, .inr (13, z_55)), (qf100, .inl (cf100, 48000, .inl f100)), (qf128, .inl (cf128, 31, .inl g128_25)), (qf127, .inl (cf127, 30, .inl g127_25)), (qf104, .inl (cf104, 8, .inl f104)), (qf102, .inl (cf102, 2048, .inl f102)), (qf118, .inl (cf118, 2100, .inl g118_25)), (qf119, .inl (cf119, 2100, .inl g119_25)), (qf105, .inl (cf105, 8, .inl f105)), (qf137, .inl (cf137, 6, .inl g137_25))]) [4, 8, 5, 0, 9, 7, 1, 2, 6, 3] rfl
        have hD9 := hD.sub (ws' := [(h0, .inr (13, z_55)), (qf100, .inl (cf100, 48000, .inl f100)), (qf128, .inl (cf128, 31, .inl g128_25)), (qf127, .inl (cf127, 30, .inl g127_25)), (qf104, .inl (cf104, 8, .inl f104)), (qf102, .inl (cf102, 2048, .inl f102)), (qf118, .inl (cf118, 2100, .inl g118_25)), (qf119, .inl (cf119, 2100, .inl g119_25)), (qf105, .inl (cf105, 8, .inl f105)), (qf137, .inl (cf137, 6, .inl g137_25))]) [4, 8, 5, 0, 9, 7, 1, 2, 6, 3] (by decide) rfl
        have hK9 := hK.sub (tys' := [(cf100, .int), (cf128, .int), (cf127, .int), (cf104, .int), (cf102, .int), (cf118, .int), (cf119, .int), (cf105, .int), (cf137, .int)]) [7, 4, 0, 8, 6, 1, 2, 5, 3] rfl
        exact W.zret hx hb hr (by decide) (fun t ht hW => ⟨⟨(0), (z_55), rfl, ⟨⟨rfl, Or.inl rfl⟩, hln_55, hrq_55, hfk_55_117, hfk_55_120, hch_55_131⟩, by rw [ht]; exact hP9, va_K.moved hW.alike hK9, hD9⟩, hS.F ht⟩) hS.2.2 dX13_wanted_1612
      · rw [if_neg (by decide)] at hsp
        have hr0 := Option.some.inj hsp
        clear hsp
        obtain ⟨hq0, hr1⟩ := Prod.mk.inj hr0
        clear hr0
        obtain ⟨hq1, hr2⟩ := Prod.mk.inj hr1
        clear hr1
        obtain ⟨hq2, hr3⟩ := Prod.mk.inj hr2
        clear hr2
        obtain ⟨hq3, hr4⟩ := Prod.mk.inj hr3
        clear hr3
        obtain ⟨hq4, hr5⟩ := Prod.mk.inj hr4
        clear hr4
        obtain ⟨hq5, hr6⟩ := Prod.mk.inj hr5
        clear hr5
        obtain ⟨hq6, hr7⟩ := Prod.mk.inj hr6
        clear hr6
        obtain ⟨hq7, hr8⟩ := Prod.mk.inj hr7
        clear hr7
        subst hq0
        subst hq1
        subst hq2
        subst hq3
        subst hq4
        subst hq5
        subst hq6
        subst hq7
        subst hr8
        have hP9 := hP.sub (ws' := [(h0, .inr (13, z_55)), (qf100, .inl (cf100, 48000, .inl f100)), (qf128, .inl (cf128, 31, .inl g128_25)), (qf127, .inl (cf127, 30, .inl g127_25)), (qf104, .inl (cf104, 8, .inl f104)), (qf102, .inl (cf102, 2048, .inl f102)), (qf118, .inl (cf118, 2100, .inl g118_25)), (qf119, .inl (cf119, 2100, .inl g119_25)), (qf105, .inl (cf105, 8, .inl f105)), (qf137, .inl (cf137, 6, .inl g137_25))]) [4, 8, 5, 0, 9, 7, 1, 2, 6, 3] rfl
        have hD9 := hD.sub (ws' := [(h0, .inr (13, z_55)), (qf100, .inl (cf100, 48000, .inl f100)), (qf128, .inl (cf128, 31, .inl g128_25)), (qf127, .inl (cf127, 30, .inl g127_25)), (qf104, .inl (cf104, 8, .inl f104)), (qf102, .inl (cf102, 2048, .inl f102)), (qf118, .inl (cf118, 2100, .inl g118_25)), (qf119, .inl (cf119, 2100, .inl g119_25)), (qf105, .inl (cf105, 8, .inl f105)), (qf137, .inl (cf137, 6, .inl g137_25))]) [4, 8, 5, 0, 9, 7, 1, 2, 6, 3] (by decide) rfl
        have hK9 := hK.sub (tys' := [(cf100, .int), (cf128, .int), (cf127, .int), (cf104, .int), (cf102, .int), (cf118, .int), (cf119, .int), (cf105, .int), (cf137, .int)]) [7, 4, 0, 8, 6, 1, 2, 5, 3] rfl
        exact W.zret hx hb hr (by decide) (fun t ht hW => ⟨⟨(1), (z_55), rfl, ⟨⟨rfl, Or.inr rfl⟩, hln_55, hrq_55, hfk_55_117, hfk_55_120, hch_55_131⟩, by rw [ht]; exact hP9, va_K.moved hW.alike hK9, hD9⟩, hS.F ht⟩) hS.2.2 dX13_wanted_1612
    rw [if_neg hs_343] at hsp
    by_cases hs_345 : l2_25 = 192
    · rw [if_pos hs_345] at hsp
      refine lv_tableIn (tgt := 1613) hx hb dX13_wanted_27 (by rw [hs_345]; decide) (by rw [hs_345]; decide) (off := 1586) (by rw [hs_345]; rfl) (by decide) ?_
      refine lv_aload_n hx hb dX13_wanted_1613 rfl (lv_at hl 1 rfl) ?_
      obtain ⟨⟨u56_0, u56_1⟩, hu_56, hsp⟩ := ox_bind hsp
      try dsimp only at hsp
      have hPc := hP.sub (ws' := [(h0, .inr (13, z25)), (qf128, .inl (cf128, 31, .inl g128_25))]) [0, 2] rfl
      have hDc := hD.sub (ws' := [(h0, .inr (13, z25)), (qf128, .inl (cf128, 31, .inl g128_25))]) [0, 2] (by decide) rfl
      have hKc := hK.sub (tys' := [(cf128, .int)]) [1] rfl
      have hFc := va_free (wc := [(h0, .inr (13, z25)), (qf128, .inl (cf128, 31, .inl g128_25))]) hD hS hA [0, 2] rfl
      refine va_calli (va_runV (As := []) (rest := []) ⟨hx, hb, hml, hown, hts⟩ (tm_pullThing l dC dI H.size h0 z25 qf128 x131_25 cf128 g128_25 nf u56_0 u56_1 hlh_25 hfh_25_128 hfh_25_131 hu_56) (cwV 0 hts gv_h9_71 rfl rfl rfl (by decide +kernel) ⟨Nat.le_of_ble_eq_true rfl, Nat.le_of_ble_eq_true rfl⟩) ⟨fun a U g mk q => by obtain ⟨q0, q1, qP, qK, qD⟩ := q; exact ⟨q0, q1, qP, va_K.moved (u := U) (U := U.calling g mk a) (Vm.Alike.refl U.vm) qK, qD⟩, va_recv hKc hPc (ci := 13) (q0 := 0) rfl rfl, fun U hU hW => ⟨rfl, by rw [hU], by rw [hU]; exact hPc, va_K.moved hW.alike hKc, hDc.weaken (fun _ _ _ _ => trivial)⟩⟩ rfl rfl hl.1 rfl (lv_room (Nat.le_of_ble_eq_true rfl)) dX13_wanted_1614 ⟨Nat.le_of_ble_eq_true rfl, Nat.le_of_ble_eq_true rfl⟩) hS (fun q _ h => hFc q h) hFc ?_
      clear hS
      intro r_346 u t H1 locs ht hvm hw hB hz1 hk1 hS
      obtain ⟨z_56, rfl⟩ : ∃ z, z = u := ⟨_, rfl⟩
      obtain ⟨hP1, hK1, hD1⟩ := hB
      rw [ht] at hP1
      have hK1 := va_K.moved hvm.symm hK1
      try dsimp only at hw
      have hPD := va_join (wr := [(qf100, .inl (cf100, 48000, .inl f100)), (qf127, .inl (cf127, 30, .inl g127_25)), (qf104, .inl (cf104, 8, .inl f104)), (qf102, .inl (cf102, 2048, .inl f102)), (qf118, .inl (cf118, 2100, .inl g118_25)), (qf119, .inl (cf119, 2100, .inl g119_25)), (qf105, .inl (cf105, 8, .inl f105)), (qf137, .inl (cf137, 6, .inl g137_25))]) (w1 := [(h0, .inr (13, z_56)), (qf128, .inl (cf128, 31, .inl g128_25))]) hP hD [0, 2] [1, 3, 4, 5, 6, 7, 8, 9] rfl rfl (by decide) (by decide) hk1 hFc hP1 hD1
      clear hP hD
      obtain ⟨hP, hD⟩ := hPD
      replace hK := (hK.sub (tys' := [(cf100, .int), (cf127, .int), (cf104, .int), (cf102, .int), (cf118, .int), (cf119, .int), (cf105, .int), (cf137, .int)]) [0, 2, 3, 4, 5, 6, 7, 8] rfl).app hK1
      clear hPc hDc hKc hFc hP1 hK1 hD1 hz1 hk1 ht hvm
      generalize H1 = H at hP hS ⊢
      replace hP : va_P (dC, dI) vwCl [(qf100, .inl (cf100, 48000, .inl f100)), (qf127, .inl (cf127, 30, .inl g127_25)), (qf104, .inl (cf104, 8, .inl f104)), (qf102, .inl (cf102, 2048, .inl f102)), (qf118, .inl (cf118, 2100, .inl g118_25)), (qf119, .inl (cf119, 2100, .inl g119_25)), (qf105, .inl (cf105, 8, .inl f105)), (qf137, .inl (cf137, 6, .inl g137_25)), (h0, .inr (13, z_56)), (qf128, .inl (cf128, 31, .inl g128_25))] H := hP
      replace hD : va_D A [(qf100, .inl (cf100, 48000, .inl f100)), (qf127, .inl (cf127, 30, .inl g127_25)), (qf104, .inl (cf104, 8, .inl f104)), (qf102, .inl (cf102, 2048, .inl f102)), (qf118, .inl (cf118, 2100, .inl g118_25)), (qf119, .inl (cf119, 2100, .inl g119_25)), (qf105, .inl (cf105, 8, .inl f105)), (qf137, .inl (cf137, 6, .inl g137_25)), (h0, .inr (13, z_56)), (qf128, .inl (cf128, 31, .inl g128_25))] := hD
      replace hK : va_K (dC, dI) vwCl [(cf100, .int), (cf127, .int), (cf104, .int), (cf102, .int), (cf118, .int), (cf119, .int), (cf105, .int), (cf137, .int), (cf128, .int)] s := hK
      obtain ⟨hwa_56, hln_56, hre_56, hch_56_131⟩ := hw
      have hfk_56_98 : z_56[98]? = some (.int v98) := (hre_56 98 (by decide)).trans (hfh_25_98)
      have hfk_56_100 : z_56[100]? = some (.ref qf100) := (hre_56 100 (by decide)).trans (hfh_25_100)
      have hfk_56_102 : z_56[102]? = some (.ref qf102) := (hre_56 102 (by decide)).trans (hfh_25_102)
      have hfk_56_104 : z_56[104]? = some (.ref qf104) := (hre_56 104 (by decide)).trans (hfh_25_104)
      have hfk_56_105 : z_56[105]? = some (.ref qf105) := (hre_56 105 (by decide)).trans (hfh_25_105)
      have hfk_56_117 : z_56[117]? = some (.int x117_25) := (hre_56 117 (by decide)).trans (hfh_25_117)
      have hfk_56_118 : z_56[118]? = some (.ref qf118) := (hre_56 118 (by decide)).trans (hfh_25_118)
      have hfk_56_119 : z_56[119]? = some (.ref qf119) := (hre_56 119 (by decide)).trans (hfh_25_119)
      have hfk_56_120 : z_56[120]? = some (.int x120_25) := (hre_56 120 (by decide)).trans (hfh_25_120)
      have hfk_56_127 : z_56[127]? = some (.ref qf127) := (hre_56 127 (by decide)).trans (hfh_25_127)
      have hfk_56_128 : z_56[128]? = some (.ref qf128) := (hre_56 128 (by decide)).trans (hfh_25_128)
      have hfk_56_129 : z_56[129]? = some (.int v129) := (hre_56 129 (by decide)).trans (hfh_25_129)
      have hfk_56_130 : z_56[130]? = some (.int v130) := (hre_56 130 (by decide)).trans (hfh_25_130)
      have hfk_56_132 : z_56[132]? = some (.int v132) := (hre_56 132 (by decide)).trans (hfh_25_132)
      have hfk_56_134 : z_56[134]? = some (.int v134) := (hre_56 134 (by decide)).trans (hfh_25_134)
      have hfk_56_136 : z_56[136]? = some (.int v136) := (hre_56 136 (by decide)).trans (hfh_25_136)
      have hfk_56_137 : z_56[137]? = some (.ref qf137) := (hre_56 137 (by decide)).trans (hfh_25_137)
      have hrq_56 : ∀ j : Nat, j ≠ 117 → j ≠ 120 → j ≠ 131 → z_56[j]? = zs[j]? := fun j g117 g120 g131 => (hre_56 j g131).trans (hrh_25 j g117 g120 g131)
      obtain ⟨rfl, hz_56⟩ := hwa_56
      rcases hz_56 with rfl | rfl
      · rw [if_pos rfl] at hsp
        refine lv_if_eq (tgt := 1640) hx hb dX13_wanted_1617 (by decide) (fun c_347 => ?_) (fun c_347 => (show False by revert c_347; decide).elim)
        refine lv_iconst (v := 0) hx hb dX13_wanted_1640 (by decide) ?_
        have hr0 := Option.some.inj hsp
        clear hsp
        obtain ⟨hq0, hr1⟩ := Prod.mk.inj hr0
        clear hr0
        obtain ⟨hq1, hr2⟩ := Prod.mk.inj hr1
        clear hr1
        obtain ⟨hq2, hr3⟩ := Prod.mk.inj hr2
        clear hr2
        obtain ⟨hq3, hr4⟩ := Prod.mk.inj hr3
        clear hr3
        obtain ⟨hq4, hr5⟩ := Prod.mk.inj hr4
        clear hr4
        obtain ⟨hq5, hr6⟩ := Prod.mk.inj hr5
        clear hr5
        obtain ⟨hq6, hr7⟩ := Prod.mk.inj hr6
        clear hr6
        obtain ⟨hq7, hr8⟩ := Prod.mk.inj hr7
        clear hr7
        subst hq0
        subst hq1
        subst hq2
        subst hq3
        subst hq4
        subst hq5
        subst hq6
        subst hq7
        subst hr8
        have hP9 := hP.sub (ws' := [(h0, .inr (13, z_56)), (qf100, .inl (cf100, 48000, .inl f100)), (qf128, .inl (cf128, 31, .inl g128_25)), (qf127, .inl (cf127, 30, .inl g127_25)), (qf104, .inl (cf104, 8, .inl f104)), (qf102, .inl (cf102, 2048, .inl f102)), (qf118, .inl (cf118, 2100, .inl g118_25)), (qf119, .inl (cf119, 2100, .inl g119_25)), (qf105, .inl (cf105, 8, .inl f105)), (qf137, .inl (cf137, 6, .inl g137_25))]) [8, 0, 9, 1, 2, 3, 4, 5, 6, 7] rfl
        have hD9 := hD.sub (ws' := [(h0, .inr (13, z_56)), (qf100, .inl (cf100, 48000, .inl f100)), (qf128, .inl (cf128, 31, .inl g128_25)), (qf127, .inl (cf127, 30, .inl g127_25)), (qf104, .inl (cf104, 8, .inl f104)), (qf102, .inl (cf102, 2048, .inl f102)), (qf118, .inl (cf118, 2100, .inl g118_25)), (qf119, .inl (cf119, 2100, .inl g119_25)), (qf105, .inl (cf105, 8, .inl f105)), (qf137, .inl (cf137, 6, .inl g137_25))]) [8, 0, 9, 1, 2, 3, 4, 5, 6, 7] (by decide) rfl
        have hK9 := hK.sub (tys' := [(cf100, .int), (cf128, .int), (cf127, .int), (cf104, .int), (cf102, .int), (cf118, .int), (cf119, .int), (cf105, .int), (cf137, .int)]) [0, 8, 1, 2, 3, 4, 5, 6, 7] rfl
        exact W.zret hx hb hr (by decide) (fun t ht hW => ⟨⟨(0), (z_56), rfl, ⟨⟨rfl, Or.inl rfl⟩, hln_56, hrq_56, hfk_56_117, hfk_56_120, hch_56_131⟩, by rw [ht]; exact hP9, va_K.moved hW.alike hK9, hD9⟩, hS.F ht⟩) hS.2.2 dX13_wanted_1641
      · rw [if_neg (by decide)] at hsp
        refine lv_if_eq (tgt := 1640) hx hb dX13_wanted_1617 (by decide) (fun c_348 => (show False by revert c_348; decide).elim) (fun c_348 => ?_)
        refine lv_aload_n hx hb dX13_wanted_1620 rfl (lv_at hl 1 rfl) ?_
        refine lv_aload_n hx hb dX13_wanted_1621 rfl (lv_at hl 1 rfl) ?_
        refine lv_aload_n hx hb dX13_wanted_1622 rfl (lv_at hl 1 rfl) ?_
        refine va_get (D := (dC, dI)) (ci := 13) (v := .int v132) (C := RX13) (T := TX13) (N := 155) hx hb hts uV_h9_X13 hown hK hP 8 rfl rfl 132 (by decide) (hts (.fieldLink RX13 932 "ClassMillModel" "inClass" "I") mw_h9_549) (fun _ h9 => h9) hfk_56_132 dX13_wanted_1623 ?_
        refine lv_iload_n hx hb dX13_wanted_1626 rfl (lv_at hl 0 rfl) ?_
        obtain ⟨⟨u57_0, g957_1, g957_2, u57_3, u57_4⟩, hu_57, hsp⟩ := ox_bind hsp
        try dsimp only at hsp
        have hPc := hP.sub (ws' := [(h0, .inr (13, z_56)), (qf102, .inl (cf102, 2048, .inl f102)), (qf100, .inl (cf100, 48000, .inl f100)), (qf104, .inl (cf104, 8, .inl f104)), (qf118, .inl (cf118, 2100, .inl g118_25)), (qf119, .inl (cf119, 2100, .inl g119_25))]) [8, 3, 0, 2, 4, 5] rfl
        have hDc := hD.sub (ws' := [(h0, .inr (13, z_56)), (qf102, .inl (cf102, 2048, .inl f102)), (qf100, .inl (cf100, 48000, .inl f100)), (qf104, .inl (cf104, 8, .inl f104)), (qf118, .inl (cf118, 2100, .inl g118_25)), (qf119, .inl (cf119, 2100, .inl g119_25))]) [8, 3, 0, 2, 4, 5] (by decide) rfl
        have hKc := hK.sub (tys' := [(cf102, .int), (cf100, .int), (cf104, .int), (cf118, .int), (cf119, .int)]) [3, 0, 2, 4, 5] rfl
        have hFc := va_free (wc := [(h0, .inr (13, z_56)), (qf102, .inl (cf102, 2048, .inl f102)), (qf100, .inl (cf100, 48000, .inl f100)), (qf104, .inl (cf104, 8, .inl f104)), (qf118, .inl (cf118, 2100, .inl g118_25)), (qf119, .inl (cf119, 2100, .inl g119_25))]) hD hS hA [8, 3, 0, 2, 4, 5] rfl
        refine va_calli (va_runV (As := [.int v132, .int s0_25]) (rest := [.ref h0]) ⟨hx, hb, hml, hown, hts⟩ (vm_typeOfClass l dC dI H.size h0 z_56 v132 s0_25 v98 qf100 qf102 qf104 x117_25 qf118 qf119 x120_25 cf102 f102 cf100 f100 cf104 f104 cf118 g118_25 cf119 g119_25 nS477 fS477 hS477 qS477 tS477 nf u57_0 g957_1 g957_2 u57_3 u57_4 hln_56 hfk_56_98 hfk_56_100 hfk_56_102 hfk_56_104 hfk_56_117 hfk_56_118 hfk_56_119 hfk_56_120 hu_57) (cwV 2 hts gv_h9_112 rfl rfl rfl (by decide +kernel) ⟨Nat.le_of_ble_eq_true rfl, Nat.le_of_ble_eq_true rfl⟩) ⟨fun a U g mk q => by obtain ⟨q0, q1, qP, qK, qD, qhZWS477, qhZRS477⟩ := q; exact ⟨q0, q1, qP, va_K.moved (u := U) (U := U.calling g mk a) (Vm.Alike.refl U.vm) qK, qD, pz_W.moved (u := U) (U := U.calling g mk a) (Vm.Alike.refl U.vm) qhZWS477, vk_R.same rfl qhZRS477⟩, va_recv hKc hPc (ci := 13) (q0 := 0) rfl rfl, fun U hU hW => ⟨rfl, by rw [hU], by rw [hU]; exact hPc, va_K.moved hW.alike hKc, hDc.weaken (fun _ _ _ _ => trivial), by rw [hU]; exact ((pz_W.moved hW.alike hZWS477).kept hS.2.1).narrow hFc, vk_R.warm hW hZRS477⟩⟩ rfl rfl hl.1 rfl (lv_room (Nat.le_of_ble_eq_true rfl)) dX13_wanted_1627 ⟨Nat.le_of_ble_eq_true rfl, Nat.le_of_ble_eq_true rfl⟩) hS (fun q _ h => hFc q h) hFc ?_
        clear hS
        intro r_349 u t H1 locs ht hvm hw hB hz1 hk1 hS
        obtain ⟨z_57, rfl⟩ : ∃ z, z = u := ⟨_, rfl⟩
        obtain ⟨hP1, hK1, hD1⟩ := hB
        rw [ht] at hP1
        have hK1 := va_K.moved hvm.symm hK1
        try dsimp only at hw
        have hPD := va_join (wr := [(qf127, .inl (cf127, 30, .inl g127_25)), (qf105, .inl (cf105, 8, .inl f105)), (qf137, .inl (cf137, 6, .inl g137_25)), (qf128, .inl (cf128, 31, .inl g128_25))]) (w1 := [(h0, .inr (13, z_57)), (qf102, .inl (cf102, 2048, .inl f102)), (qf100, .inl (cf100, 48000, .inl f100)), (qf104, .inl (cf104, 8, .inl f104)), (qf118, .inl (cf118, 2100, .inl g957_1)), (qf119, .inl (cf119, 2100, .inl g957_2))]) hP hD [8, 3, 0, 2, 4, 5] [1, 6, 7, 9] rfl rfl (by decide) (by decide) hk1 hFc hP1 hD1
        clear hP hD
        obtain ⟨hP, hD⟩ := hPD
        replace hK := (hK.sub (tys' := [(cf127, .int), (cf105, .int), (cf137, .int), (cf128, .int)]) [1, 6, 7, 8] rfl).app hK1
        clear hPc hDc hKc hFc hP1 hK1 hD1 hz1 hk1 ht hvm
        generalize H1 = H at hP hS ⊢
        replace hP : va_P (dC, dI) vwCl [(qf127, .inl (cf127, 30, .inl g127_25)), (qf105, .inl (cf105, 8, .inl f105)), (qf137, .inl (cf137, 6, .inl g137_25)), (qf128, .inl (cf128, 31, .inl g128_25)), (h0, .inr (13, z_57)), (qf102, .inl (cf102, 2048, .inl f102)), (qf100, .inl (cf100, 48000, .inl f100)), (qf104, .inl (cf104, 8, .inl f104)), (qf118, .inl (cf118, 2100, .inl g957_1)), (qf119, .inl (cf119, 2100, .inl g957_2))] H := hP
        replace hD : va_D A [(qf127, .inl (cf127, 30, .inl g127_25)), (qf105, .inl (cf105, 8, .inl f105)), (qf137, .inl (cf137, 6, .inl g137_25)), (qf128, .inl (cf128, 31, .inl g128_25)), (h0, .inr (13, z_57)), (qf102, .inl (cf102, 2048, .inl f102)), (qf100, .inl (cf100, 48000, .inl f100)), (qf104, .inl (cf104, 8, .inl f104)), (qf118, .inl (cf118, 2100, .inl g957_1)), (qf119, .inl (cf119, 2100, .inl g957_2))] := hD
        replace hK : va_K (dC, dI) vwCl [(cf127, .int), (cf105, .int), (cf137, .int), (cf128, .int), (cf102, .int), (cf100, .int), (cf104, .int), (cf118, .int), (cf119, .int)] s := hK
        obtain ⟨hwa_57, hln_57, hre_57, hch_57_117, hch_57_120⟩ := hw
        have hfk_57_98 : z_57[98]? = some (.int v98) := (hre_57 98 (by decide) (by decide)).trans (hfk_56_98)
        have hfk_57_100 : z_57[100]? = some (.ref qf100) := (hre_57 100 (by decide) (by decide)).trans (hfk_56_100)
        have hfk_57_102 : z_57[102]? = some (.ref qf102) := (hre_57 102 (by decide) (by decide)).trans (hfk_56_102)
        have hfk_57_104 : z_57[104]? = some (.ref qf104) := (hre_57 104 (by decide) (by decide)).trans (hfk_56_104)
        have hfk_57_105 : z_57[105]? = some (.ref qf105) := (hre_57 105 (by decide) (by decide)).trans (hfk_56_105)
        have hfk_57_118 : z_57[118]? = some (.ref qf118) := (hre_57 118 (by decide) (by decide)).trans (hfk_56_118)
        have hfk_57_119 : z_57[119]? = some (.ref qf119) := (hre_57 119 (by decide) (by decide)).trans (hfk_56_119)
        have hfk_57_127 : z_57[127]? = some (.ref qf127) := (hre_57 127 (by decide) (by decide)).trans (hfk_56_127)
        have hfk_57_128 : z_57[128]? = some (.ref qf128) := (hre_57 128 (by decide) (by decide)).trans (hfk_56_128)
        have hfk_57_129 : z_57[129]? = some (.int v129) := (hre_57 129 (by decide) (by decide)).trans (hfk_56_129)
        have hfk_57_130 : z_57[130]? = some (.int v130) := (hre_57 130 (by decide) (by decide)).trans (hfk_56_130)
        have hfk_57_131 : z_57[131]? = some (.int u56_1) := (hre_57 131 (by decide) (by decide)).trans (hch_56_131)
        have hfk_57_132 : z_57[132]? = some (.int v132) := (hre_57 132 (by decide) (by decide)).trans (hfk_56_132)
        have hfk_57_134 : z_57[134]? = some (.int v134) := (hre_57 134 (by decide) (by decide)).trans (hfk_56_134)
        have hfk_57_136 : z_57[136]? = some (.int v136) := (hre_57 136 (by decide) (by decide)).trans (hfk_56_136)
        have hfk_57_137 : z_57[137]? = some (.ref qf137) := (hre_57 137 (by decide) (by decide)).trans (hfk_56_137)
        have hrq_57 : ∀ j : Nat, j ≠ 117 → j ≠ 120 → j ≠ 131 → z_57[j]? = zs[j]? := fun j g117 g120 g131 => (hre_57 j g117 g120).trans (hrq_56 j g117 g120 g131)
        obtain rfl := hwa_57
        obtain ⟨⟨u58_0, g958_1, u58_2⟩, hu_58, hsp⟩ := ox_bind hsp
        try dsimp only at hsp
        have hPc := hP.sub (ws' := [(h0, .inr (13, z_57)), (qf128, .inl (cf128, 31, .inl g128_25))]) [4, 3] rfl
        have hDc := hD.sub (ws' := [(h0, .inr (13, z_57)), (qf128, .inl (cf128, 31, .inl g128_25))]) [4, 3] (by decide) rfl
        have hKc := hK.sub (tys' := [(cf128, .int)]) [3] rfl
        have hFc := va_free (wc := [(h0, .inr (13, z_57)), (qf128, .inl (cf128, 31, .inl g128_25))]) hD hS hA [4, 3] rfl
        refine va_calli (va_runV (As := [.int u57_0]) (rest := []) ⟨hx, hb, hml, hown, hts⟩ (tm_comesBack l dC dI H.size h0 z_57 u57_0 qf128 v130 u56_1 cf128 g128_25 nf u58_0 g958_1 u58_2 hln_57 hfk_57_128 hfk_57_130 hfk_57_131 hu_58) (cwV 1 hts gv_h9_69 rfl rfl rfl (by decide +kernel) ⟨Nat.le_of_ble_eq_true rfl, Nat.le_of_ble_eq_true rfl⟩) ⟨fun a U g mk q => by obtain ⟨q0, q1, qP, qK, qD⟩ := q; exact ⟨q0, q1, qP, va_K.moved (u := U) (U := U.calling g mk a) (Vm.Alike.refl U.vm) qK, qD⟩, va_recv hKc hPc (ci := 13) (q0 := 0) rfl rfl, fun U hU hW => ⟨rfl, by rw [hU], by rw [hU]; exact hPc, va_K.moved hW.alike hKc, hDc.weaken (fun _ _ _ _ => trivial)⟩⟩ rfl rfl hl.1 rfl (lv_room (Nat.le_of_ble_eq_true rfl)) dX13_wanted_1630 ⟨Nat.le_of_ble_eq_true rfl, Nat.le_of_ble_eq_true rfl⟩) hS (fun q _ h => hFc q h) hFc ?_
        clear hS
        intro r_350 u t H1 locs ht hvm hw hB hz1 hk1 hS
        obtain ⟨z_58, rfl⟩ : ∃ z, z = u := ⟨_, rfl⟩
        obtain ⟨hP1, hK1, hD1⟩ := hB
        rw [ht] at hP1
        have hK1 := va_K.moved hvm.symm hK1
        try dsimp only at hw
        have hPD := va_join (wr := [(qf127, .inl (cf127, 30, .inl g127_25)), (qf105, .inl (cf105, 8, .inl f105)), (qf137, .inl (cf137, 6, .inl g137_25)), (qf102, .inl (cf102, 2048, .inl f102)), (qf100, .inl (cf100, 48000, .inl f100)), (qf104, .inl (cf104, 8, .inl f104)), (qf118, .inl (cf118, 2100, .inl g957_1)), (qf119, .inl (cf119, 2100, .inl g957_2))]) (w1 := [(h0, .inr (13, z_58)), (qf128, .inl (cf128, 31, .inl g958_1))]) hP hD [4, 3] [0, 1, 2, 5, 6, 7, 8, 9] rfl rfl (by decide) (by decide) hk1 hFc hP1 hD1
        clear hP hD
        obtain ⟨hP, hD⟩ := hPD
        replace hK := (hK.sub (tys' := [(cf127, .int), (cf105, .int), (cf137, .int), (cf102, .int), (cf100, .int), (cf104, .int), (cf118, .int), (cf119, .int)]) [0, 1, 2, 4, 5, 6, 7, 8] rfl).app hK1
        clear hPc hDc hKc hFc hP1 hK1 hD1 hz1 hk1 ht hvm
        generalize H1 = H at hP hS ⊢
        replace hP : va_P (dC, dI) vwCl [(qf127, .inl (cf127, 30, .inl g127_25)), (qf105, .inl (cf105, 8, .inl f105)), (qf137, .inl (cf137, 6, .inl g137_25)), (qf102, .inl (cf102, 2048, .inl f102)), (qf100, .inl (cf100, 48000, .inl f100)), (qf104, .inl (cf104, 8, .inl f104)), (qf118, .inl (cf118, 2100, .inl g957_1)), (qf119, .inl (cf119, 2100, .inl g957_2)), (h0, .inr (13, z_58)), (qf128, .inl (cf128, 31, .inl g958_1))] H := hP
        replace hD : va_D A [(qf127, .inl (cf127, 30, .inl g127_25)), (qf105, .inl (cf105, 8, .inl f105)), (qf137, .inl (cf137, 6, .inl g137_25)), (qf102, .inl (cf102, 2048, .inl f102)), (qf100, .inl (cf100, 48000, .inl f100)), (qf104, .inl (cf104, 8, .inl f104)), (qf118, .inl (cf118, 2100, .inl g957_1)), (qf119, .inl (cf119, 2100, .inl g957_2)), (h0, .inr (13, z_58)), (qf128, .inl (cf128, 31, .inl g958_1))] := hD
        replace hK : va_K (dC, dI) vwCl [(cf127, .int), (cf105, .int), (cf137, .int), (cf102, .int), (cf100, .int), (cf104, .int), (cf118, .int), (cf119, .int), (cf128, .int)] s := hK
        obtain ⟨hwa_58, hln_58, hre_58, hch_58_131⟩ := hw
        have hfk_58_98 : z_58[98]? = some (.int v98) := (hre_58 98 (by decide)).trans (hfk_57_98)
        have hfk_58_100 : z_58[100]? = some (.ref qf100) := (hre_58 100 (by decide)).trans (hfk_57_100)
        have hfk_58_102 : z_58[102]? = some (.ref qf102) := (hre_58 102 (by decide)).trans (hfk_57_102)
        have hfk_58_104 : z_58[104]? = some (.ref qf104) := (hre_58 104 (by decide)).trans (hfk_57_104)
        have hfk_58_105 : z_58[105]? = some (.ref qf105) := (hre_58 105 (by decide)).trans (hfk_57_105)
        have hfk_58_117 : z_58[117]? = some (.int u57_3) := (hre_58 117 (by decide)).trans (hch_57_117)
        have hfk_58_118 : z_58[118]? = some (.ref qf118) := (hre_58 118 (by decide)).trans (hfk_57_118)
        have hfk_58_119 : z_58[119]? = some (.ref qf119) := (hre_58 119 (by decide)).trans (hfk_57_119)
        have hfk_58_120 : z_58[120]? = some (.int u57_4) := (hre_58 120 (by decide)).trans (hch_57_120)
        have hfk_58_127 : z_58[127]? = some (.ref qf127) := (hre_58 127 (by decide)).trans (hfk_57_127)
        have hfk_58_128 : z_58[128]? = some (.ref qf128) := (hre_58 128 (by decide)).trans (hfk_57_128)
        have hfk_58_129 : z_58[129]? = some (.int v129) := (hre_58 129 (by decide)).trans (hfk_57_129)
        have hfk_58_130 : z_58[130]? = some (.int v130) := (hre_58 130 (by decide)).trans (hfk_57_130)
        have hfk_58_132 : z_58[132]? = some (.int v132) := (hre_58 132 (by decide)).trans (hfk_57_132)
        have hfk_58_134 : z_58[134]? = some (.int v134) := (hre_58 134 (by decide)).trans (hfk_57_134)
        have hfk_58_136 : z_58[136]? = some (.int v136) := (hre_58 136 (by decide)).trans (hfk_57_136)
        have hfk_58_137 : z_58[137]? = some (.ref qf137) := (hre_58 137 (by decide)).trans (hfk_57_137)
        have hrq_58 : ∀ j : Nat, j ≠ 117 → j ≠ 120 → j ≠ 131 → z_58[j]? = zs[j]? := fun j g117 g120 g131 => (hre_58 j g131).trans (hrq_57 j g117 g120 g131)
        obtain ⟨rfl, hz_58⟩ := hwa_58
        rcases hz_58 with rfl | rfl
        · rw [if_pos rfl] at hsp
          refine lv_if_eq (tgt := 1640) hx hb dX13_wanted_1633 (by decide) (fun c_351 => ?_) (fun c_351 => (show False by revert c_351; decide).elim)
          refine lv_iconst (v := 0) hx hb dX13_wanted_1640 (by decide) ?_
          have hr0 := Option.some.inj hsp
          clear hsp
          obtain ⟨hq0, hr1⟩ := Prod.mk.inj hr0
          clear hr0
          obtain ⟨hq1, hr2⟩ := Prod.mk.inj hr1
          clear hr1
          obtain ⟨hq2, hr3⟩ := Prod.mk.inj hr2
          clear hr2
          obtain ⟨hq3, hr4⟩ := Prod.mk.inj hr3
          clear hr3
          obtain ⟨hq4, hr5⟩ := Prod.mk.inj hr4
          clear hr4
          obtain ⟨hq5, hr6⟩ := Prod.mk.inj hr5
          clear hr5
          obtain ⟨hq6, hr7⟩ := Prod.mk.inj hr6
          clear hr6
          obtain ⟨hq7, hr8⟩ := Prod.mk.inj hr7
          clear hr7
          subst hq0
          subst hq1
          subst hq2
          subst hq3
          subst hq4
          subst hq5
          subst hq6
          subst hq7
          subst hr8
          have hP9 := hP.sub (ws' := [(h0, .inr (13, z_58)), (qf100, .inl (cf100, 48000, .inl f100)), (qf128, .inl (cf128, 31, .inl g958_1)), (qf127, .inl (cf127, 30, .inl g127_25)), (qf104, .inl (cf104, 8, .inl f104)), (qf102, .inl (cf102, 2048, .inl f102)), (qf118, .inl (cf118, 2100, .inl g957_1)), (qf119, .inl (cf119, 2100, .inl g957_2)), (qf105, .inl (cf105, 8, .inl f105)), (qf137, .inl (cf137, 6, .inl g137_25))]) [8, 4, 9, 0, 5, 3, 6, 7, 1, 2] rfl
          have hD9 := hD.sub (ws' := [(h0, .inr (13, z_58)), (qf100, .inl (cf100, 48000, .inl f100)), (qf128, .inl (cf128, 31, .inl g958_1)), (qf127, .inl (cf127, 30, .inl g127_25)), (qf104, .inl (cf104, 8, .inl f104)), (qf102, .inl (cf102, 2048, .inl f102)), (qf118, .inl (cf118, 2100, .inl g957_1)), (qf119, .inl (cf119, 2100, .inl g957_2)), (qf105, .inl (cf105, 8, .inl f105)), (qf137, .inl (cf137, 6, .inl g137_25))]) [8, 4, 9, 0, 5, 3, 6, 7, 1, 2] (by decide) rfl
          have hK9 := hK.sub (tys' := [(cf100, .int), (cf128, .int), (cf127, .int), (cf104, .int), (cf102, .int), (cf118, .int), (cf119, .int), (cf105, .int), (cf137, .int)]) [4, 8, 0, 5, 3, 6, 7, 1, 2] rfl
          exact W.zret hx hb hr (by decide) (fun t ht hW => ⟨⟨(0), (z_58), rfl, ⟨⟨rfl, Or.inl rfl⟩, hln_58, hrq_58, hfk_58_117, hfk_58_120, hch_58_131⟩, by rw [ht]; exact hP9, va_K.moved hW.alike hK9, hD9⟩, hS.F ht⟩) hS.2.2 dX13_wanted_1641
        · rw [if_neg (by decide)] at hsp
          refine lv_if_eq (tgt := 1640) hx hb dX13_wanted_1633 (by decide) (fun c_352 => (show False by revert c_352; decide).elim) (fun c_352 => ?_)
          refine lv_iconst (v := 1) hx hb dX13_wanted_1636 (by decide) ?_
          refine lv_goto (tgt := 1641) hx hb dX13_wanted_1637 (by decide) ?_
          have hr0 := Option.some.inj hsp
          clear hsp
          obtain ⟨hq0, hr1⟩ := Prod.mk.inj hr0
          clear hr0
          obtain ⟨hq1, hr2⟩ := Prod.mk.inj hr1
          clear hr1
          obtain ⟨hq2, hr3⟩ := Prod.mk.inj hr2
          clear hr2
          obtain ⟨hq3, hr4⟩ := Prod.mk.inj hr3
          clear hr3
          obtain ⟨hq4, hr5⟩ := Prod.mk.inj hr4
          clear hr4
          obtain ⟨hq5, hr6⟩ := Prod.mk.inj hr5
          clear hr5
          obtain ⟨hq6, hr7⟩ := Prod.mk.inj hr6
          clear hr6
          obtain ⟨hq7, hr8⟩ := Prod.mk.inj hr7
          clear hr7
          subst hq0
          subst hq1
          subst hq2
          subst hq3
          subst hq4
          subst hq5
          subst hq6
          subst hq7
          subst hr8
          have hP9 := hP.sub (ws' := [(h0, .inr (13, z_58)), (qf100, .inl (cf100, 48000, .inl f100)), (qf128, .inl (cf128, 31, .inl g958_1)), (qf127, .inl (cf127, 30, .inl g127_25)), (qf104, .inl (cf104, 8, .inl f104)), (qf102, .inl (cf102, 2048, .inl f102)), (qf118, .inl (cf118, 2100, .inl g957_1)), (qf119, .inl (cf119, 2100, .inl g957_2)), (qf105, .inl (cf105, 8, .inl f105)), (qf137, .inl (cf137, 6, .inl g137_25))]) [8, 4, 9, 0, 5, 3, 6, 7, 1, 2] rfl
          have hD9 := hD.sub (ws' := [(h0, .inr (13, z_58)), (qf100, .inl (cf100, 48000, .inl f100)), (qf128, .inl (cf128, 31, .inl g958_1)), (qf127, .inl (cf127, 30, .inl g127_25)), (qf104, .inl (cf104, 8, .inl f104)), (qf102, .inl (cf102, 2048, .inl f102)), (qf118, .inl (cf118, 2100, .inl g957_1)), (qf119, .inl (cf119, 2100, .inl g957_2)), (qf105, .inl (cf105, 8, .inl f105)), (qf137, .inl (cf137, 6, .inl g137_25))]) [8, 4, 9, 0, 5, 3, 6, 7, 1, 2] (by decide) rfl
          have hK9 := hK.sub (tys' := [(cf100, .int), (cf128, .int), (cf127, .int), (cf104, .int), (cf102, .int), (cf118, .int), (cf119, .int), (cf105, .int), (cf137, .int)]) [4, 8, 0, 5, 3, 6, 7, 1, 2] rfl
          exact W.zret hx hb hr (by decide) (fun t ht hW => ⟨⟨(1), (z_58), rfl, ⟨⟨rfl, Or.inr rfl⟩, hln_58, hrq_58, hfk_58_117, hfk_58_120, hch_58_131⟩, by rw [ht]; exact hP9, va_K.moved hW.alike hK9, hD9⟩, hS.F ht⟩) hS.2.2 dX13_wanted_1641
    rw [if_neg hs_345] at hsp
    refine lv_tableOut (tgt := 1642) hx hb dX13_wanted_27 (by have a0 := lv_neT hs_5 (a := 0) rfl; have a1 := lv_neT hs_6 (a := 1) rfl; have a2 := lv_neT hs_8 (a := 2) rfl; have a3 := lv_neT hs_9 (a := 3) rfl; have a4 := lv_neT hs_10 (a := 4) rfl; have a5 := lv_neT hs_11 (a := 5) rfl; have a6 := lv_neT hs_12 (a := 6) rfl; have a7 := lv_neT hs_13 (a := 7) rfl; have a8 := lv_neT hs_14 (a := 8) rfl; have a9 := lv_neT hs_15 (a := 9) rfl; have a10 := lv_neT hs_16 (a := 10) rfl; have a11 := lv_neT hs_17 (a := 11) rfl; have a12 := lv_neT hs_18 (a := 12) rfl; have a13 := lv_neT hs_19 (a := 13) rfl; have a14 := lv_neT hs_20 (a := 14) rfl; have a15 := lv_neT hs_21 (a := 15) rfl; have a16 := lv_neT hs_22 (a := 16) rfl; have a17 := lv_neT hs_23 (a := 17) rfl; have a18 := lv_neT hs_24 (a := 18) rfl; have a19 := lv_neT hs_25 (a := 19) rfl; have a20 := lv_neT hs_26 (a := 20) rfl; have a21 := lv_neT hs_27 (a := 21) rfl; have a22 := lv_neT hs_34 (a := 22) rfl; have a23 := lv_neT hs_35 (a := 23) rfl; have a24 := lv_neT hs_36 (a := 24) rfl; have a25 := lv_neT hs_37 (a := 25) rfl; have a26 := lv_neT hs_45 (a := 26) rfl; have a27 := lv_neT hs_46 (a := 27) rfl; have a28 := lv_neT hs_47 (a := 28) rfl; have a29 := lv_neT hs_48 (a := 29) rfl; have a30 := lv_neT hs_49 (a := 30) rfl; have a31 := lv_neT hs_50 (a := 31) rfl; have a32 := lv_neT hs_51 (a := 32) rfl; have a33 := lv_neT hs_52 (a := 33) rfl; have a34 := lv_neT hs_53 (a := 34) rfl; have a35 := lv_neT hs_54 (a := 35) rfl; have a36 := lv_neT hs_55 (a := 36) rfl; have a37 := lv_neT hs_56 (a := 37) rfl; have a38 := lv_neT hs_57 (a := 38) rfl; have a39 := lv_neT hs_58 (a := 39) rfl; have a40 := lv_neT hs_59 (a := 40) rfl; have a41 := lv_neT hs_60 (a := 41) rfl; have a42 := lv_neT hs_61 (a := 42) rfl; have a43 := lv_neT hs_62 (a := 43) rfl; have a44 := lv_neT hs_63 (a := 44) rfl; have a45 := lv_neT hs_64 (a := 45) rfl; have a46 := lv_neT hs_65 (a := 46) rfl; have a47 := lv_neT hs_78 (a := 47) rfl; have a48 := lv_neT hs_79 (a := 48) rfl; have a49 := lv_neT hs_80 (a := 49) rfl; have a50 := lv_neT hs_81 (a := 50) rfl; have a51 := lv_neT hs_95 (a := 51) rfl; have a52 := lv_neT hs_96 (a := 52) rfl; have a53 := lv_neT hs_97 (a := 53) rfl; have a54 := lv_neT hs_98 (a := 54) rfl; have a55 := lv_neT hs_103 (a := 55) rfl; have a56 := lv_neT hs_104 (a := 56) rfl; have a57 := lv_neT hs_105 (a := 57) rfl; have a58 := lv_neT hs_106 (a := 58) rfl; have a59 := lv_neT hs_111 (a := 59) rfl; have a60 := lv_neT hs_112 (a := 60) rfl; have a61 := lv_neT hs_113 (a := 61) rfl; have a62 := lv_neT hs_114 (a := 62) rfl; have a63 := lv_neT hs_115 (a := 63) rfl; have a64 := lv_neT hs_116 (a := 64) rfl; have a65 := lv_neT hs_117 (a := 65) rfl; have a66 := lv_neT hs_118 (a := 66) rfl; have a67 := lv_neT hs_119 (a := 67) rfl; have a68 := lv_neT hs_120 (a := 68) rfl; have a69 := lv_neT hs_121 (a := 69) rfl; have a70 := lv_neT hs_122 (a := 70) rfl; have a71 := lv_neT hs_123 (a := 71) rfl; have a72 := lv_neT hs_124 (a := 72) rfl; have a73 := lv_neT hs_125 (a := 73) rfl; have a74 := lv_neT hs_126 (a := 74) rfl; have a75 := lv_neT hs_127 (a := 75) rfl; have a76 := lv_neT hs_128 (a := 76) rfl; have a77 := lv_neT hs_129 (a := 77) rfl; have a78 := lv_neT hs_130 (a := 78) rfl; have a79 := lv_neT hs_131 (a := 79) rfl; have a80 := lv_neT hs_138 (a := 80) rfl; have a81 := lv_neT hs_139 (a := 81) rfl; have a82 := lv_neT hs_140 (a := 82) rfl; have a83 := lv_neT hs_141 (a := 83) rfl; have a84 := lv_neT hs_154 (a := 84) rfl; have a85 := lv_neT hs_155 (a := 85) rfl; have a86 := lv_neT hs_156 (a := 86) rfl; have a87 := lv_neT hs_157 (a := 87) rfl; have a88 := lv_neT hs_160 (a := 88) rfl; have a89 := lv_neT hs_161 (a := 89) rfl; have a90 := lv_neT hs_167 (a := 90) rfl; have a91 := lv_neT hs_168 (a := 91) rfl; have a92 := lv_neT hs_169 (a := 92) rfl; have a93 := lv_neT hs_170 (a := 93) rfl; have a94 := lv_neT hs_171 (a := 94) rfl; have a95 := lv_neT hs_172 (a := 95) rfl; have a96 := lv_neT hs_173 (a := 96) rfl; have a97 := lv_neT hs_174 (a := 97) rfl; have a98 := lv_neT hs_175 (a := 98) rfl; have a99 := lv_neT hs_176 (a := 99) rfl; have a100 := lv_neT hs_177 (a := 100) rfl; have a101 := lv_neT hs_178 (a := 101) rfl; have a102 := lv_neT hs_179 (a := 102) rfl; have a103 := lv_neT hs_180 (a := 103) rfl; have a104 := lv_neT hs_181 (a := 104) rfl; have a105 := lv_neT hs_182 (a := 105) rfl; have a106 := lv_neT hs_183 (a := 106) rfl; have a107 := lv_neT hs_184 (a := 107) rfl; have a108 := lv_neT hs_185 (a := 108) rfl; have a109 := lv_neT hs_186 (a := 109) rfl; have a110 := lv_neT hs_187 (a := 110) rfl; have a111 := lv_neT hs_188 (a := 111) rfl; have a112 := lv_neT hs_189 (a := 112) rfl; have a113 := lv_neT hs_190 (a := 113) rfl; have a114 := lv_neT hs_191 (a := 114) rfl; have a115 := lv_neT hs_192 (a := 115) rfl; have a116 := lv_neT hs_193 (a := 116) rfl; have a117 := lv_neT hs_200 (a := 117) rfl; have a118 := lv_neT hs_201 (a := 118) rfl; have a119 := lv_neT hs_202 (a := 119) rfl; have a120 := lv_neT hs_203 (a := 120) rfl; have a121 := lv_neT hs_204 (a := 121) rfl; have a122 := lv_neT hs_205 (a := 122) rfl; have a123 := lv_neT hs_206 (a := 123) rfl; have a124 := lv_neT hs_207 (a := 124) rfl; have a125 := lv_neT hs_208 (a := 125) rfl; have a126 := lv_neT hs_209 (a := 126) rfl; have a127 := lv_neT hs_210 (a := 127) rfl; have a128 := lv_neT hs_211 (a := 128) rfl; have a129 := lv_neT hs_212 (a := 129) rfl; have a130 := lv_neT hs_213 (a := 130) rfl; have a131 := lv_neT hs_214 (a := 131) rfl; have a132 := lv_neT hs_215 (a := 132) rfl; have a133 := lv_neT hs_216 (a := 133) rfl; have a134 := lv_neT hs_217 (a := 134) rfl; have a135 := lv_neT hs_218 (a := 135) rfl; have a136 := lv_neT hs_219 (a := 136) rfl; have a137 := lv_neT hs_220 (a := 137) rfl; have a138 := lv_neT hs_221 (a := 138) rfl; have a139 := lv_neT hs_222 (a := 139) rfl; have a140 := lv_neT hs_223 (a := 140) rfl; have a141 := lv_neT hs_224 (a := 141) rfl; have a142 := lv_neT hs_225 (a := 142) rfl; have a143 := lv_neT hs_226 (a := 143) rfl; have a144 := lv_neT hs_227 (a := 144) rfl; have a145 := lv_neT hs_228 (a := 145) rfl; have a146 := lv_neT hs_229 (a := 146) rfl; have a147 := lv_neT hs_230 (a := 147) rfl; have a148 := lv_neT hs_231 (a := 148) rfl; have a149 := lv_neT hs_232 (a := 149) rfl; have a150 := lv_neT hs_233 (a := 150) rfl; have a151 := lv_neT hs_234 (a := 151) rfl; have a152 := lv_neT hs_235 (a := 152) rfl; have a153 := lv_neT hs_236 (a := 153) rfl; have a154 := lv_neT hs_237 (a := 154) rfl; have a155 := lv_neT hs_238 (a := 155) rfl; have a156 := lv_neT hs_239 (a := 156) rfl; have a157 := lv_neT hs_240 (a := 157) rfl; have a158 := lv_neT hs_241 (a := 158) rfl; have a159 := lv_neT hs_242 (a := 159) rfl; have a160 := lv_neT hs_243 (a := 160) rfl; have a161 := lv_neT hs_244 (a := 161) rfl; have a162 := lv_neT hs_245 (a := 162) rfl; have a163 := lv_neT hs_246 (a := 163) rfl; have a164 := lv_neT hs_247 (a := 164) rfl; have a165 := lv_neT hs_248 (a := 165) rfl; have a166 := lv_neT hs_249 (a := 166) rfl; have a167 := lv_neT hs_250 (a := 167) rfl; have a168 := lv_neT hs_251 (a := 168) rfl; have a169 := lv_neT hs_252 (a := 169) rfl; have a170 := lv_neT hs_253 (a := 170) rfl; have a171 := lv_neT hs_254 (a := 171) rfl; have a172 := lv_neT hs_255 (a := 172) rfl; have a173 := lv_neT hs_266 (a := 173) rfl; have a174 := lv_neT hs_267 (a := 174) rfl; have a175 := lv_neT hs_268 (a := 175) rfl; have a176 := lv_neT hs_269 (a := 176) rfl; have a177 := lv_neT hs_280 (a := 177) rfl; have a178 := lv_neT hs_283 (a := 178) rfl; have a179 := lv_neT hs_284 (a := 179) rfl; have a180 := lv_neT hs_285 (a := 180) rfl; have a181 := lv_neT hs_296 (a := 181) rfl; have a182 := lv_neT hs_307 (a := 182) rfl; have a183 := lv_neT hs_308 (a := 183) rfl; have a184 := lv_neT hs_309 (a := 184) rfl; have a185 := lv_neT hs_310 (a := 185) rfl; have a186 := lv_neT hs_311 (a := 186) rfl; have a187 := lv_neT hs_312 (a := 187) rfl; have a188 := lv_neT hs_315 (a := 188) rfl; have a189 := lv_neT hs_322 (a := 189) rfl; have a190 := lv_neT hs_330 (a := 190) rfl; have a191 := lv_neT hs_343 (a := 191) rfl; have a192 := lv_neT hs_345 (a := 192) rfl; omega) (by decide) ?_
    exact hj_1642 (H, locs, ls, z25, g118_25, g119_25, g127_25, g128_25, g137_25, x117_25, x120_25, x131_25) ⟨lv_sub hl [1] rfl, hS, hD.sub (ws' := [(h0, .inr (13, z25)), (qf100, .inl (cf100, 48000, .inl f100)), (qf128, .inl (cf128, 31, .inl g128_25)), (qf127, .inl (cf127, 30, .inl g127_25)), (qf104, .inl (cf104, 8, .inl f104)), (qf102, .inl (cf102, 2048, .inl f102)), (qf118, .inl (cf118, 2100, .inl g118_25)), (qf119, .inl (cf119, 2100, .inl g119_25)), (qf105, .inl (cf105, 8, .inl f105)), (qf137, .inl (cf137, 6, .inl g137_25))]) [0, 1, 2, 3, 4, 5, 6, 7, 8, 9] (by decide) rfl, hP.sub (ws' := [(h0, .inr (13, z25)), (qf100, .inl (cf100, 48000, .inl f100)), (qf128, .inl (cf128, 31, .inl g128_25)), (qf127, .inl (cf127, 30, .inl g127_25)), (qf104, .inl (cf104, 8, .inl f104)), (qf102, .inl (cf102, 2048, .inl f102)), (qf118, .inl (cf118, 2100, .inl g118_25)), (qf119, .inl (cf119, 2100, .inl g119_25)), (qf105, .inl (cf105, 8, .inl f105)), (qf137, .inl (cf137, 6, .inl g137_25))]) [0, 1, 2, 3, 4, 5, 6, 7, 8, 9] rfl, hfh_25_98, hfh_25_100, hfh_25_102, hfh_25_104, hfh_25_105, hfh_25_117, hfh_25_118, hfh_25_119, hfh_25_120, hfh_25_127, hfh_25_128, hfh_25_129, hfh_25_130, hfh_25_131, hfh_25_132, hfh_25_134, hfh_25_136, hfh_25_137, hlh_25, hrh_25, hsp⟩
  intro hj_25
  refine lv_aload_n hx hb dX13_wanted_0 rfl (lv_at hl 0 rfl) ?_
  refine lv_iload_n hx hb dX13_wanted_1 rfl (lv_at hl 1 rfl) ?_
  obtain ⟨u1_0, hu_1, hsp⟩ := ox_bind hsp
  try dsimp only at hsp
  have hPc := hP.sub (ws' := [(h0, .inr (13, zs)), (qf100, .inl (cf100, 48000, .inl f100))]) [0, 1] rfl
  have hDc := hD.sub (ws' := [(h0, .inr (13, zs)), (qf100, .inl (cf100, 48000, .inl f100))]) [0, 1] (by decide) rfl
  have hKc := hK.sub (tys' := [(cf100, .int)]) [0] rfl
  have hFc := va_free (wc := [(h0, .inr (13, zs)), (qf100, .inl (cf100, 48000, .inl f100))]) hD hS hA [0, 1] rfl
  refine va_calli (va_runV (As := [.int a1]) (rest := []) ⟨hx, hb, hml, hown, hts⟩ (tm_code l dC dI H.size h0 zs a1 qf100 v132 v134 cf100 f100 nf u1_0 hlen hf100 hf132 hf134 hu_1) (cwV 1 hts gv_h9_65 rfl rfl rfl (by decide +kernel) ⟨Nat.le_of_ble_eq_true rfl, Nat.le_of_ble_eq_true rfl⟩) ⟨fun a U g mk q => by obtain ⟨q0, q1, qP, qK, qD⟩ := q; exact ⟨q0, q1, qP, va_K.moved (u := U) (U := U.calling g mk a) (Vm.Alike.refl U.vm) qK, qD⟩, va_recv hKc hPc (ci := 13) (q0 := 0) rfl rfl, fun U hU hW => ⟨rfl, by rw [hU], by rw [hU]; exact hPc, va_K.moved hW.alike hKc, hDc.weaken (fun _ _ _ _ => trivial)⟩⟩ rfl rfl hl.1 rfl (lv_room (Nat.le_of_ble_eq_true rfl)) dX13_wanted_2 ⟨Nat.le_of_ble_eq_true rfl, Nat.le_of_ble_eq_true rfl⟩) hS (fun q _ h => hFc q h) hFc ?_
  clear hS
  intro r_1 u t H1 locs ht hvm hw hB hz1 hk1 hS
  obtain ⟨z_1, rfl⟩ : ∃ z, z = u := ⟨_, rfl⟩
  obtain ⟨hP1, hK1, hD1⟩ := hB
  rw [ht] at hP1
  have hK1 := va_K.moved hvm.symm hK1
  try dsimp only at hw
  have hPD := va_join (wr := [(qf128, .inl (cf128, 31, .inl f128)), (qf127, .inl (cf127, 30, .inl f127)), (qf104, .inl (cf104, 8, .inl f104)), (qf102, .inl (cf102, 2048, .inl f102)), (qf118, .inl (cf118, 2100, .inl f118)), (qf119, .inl (cf119, 2100, .inl f119)), (qf105, .inl (cf105, 8, .inl f105)), (qf137, .inl (cf137, 6, .inl f137))]) (w1 := [(h0, .inr (13, z_1)), (qf100, .inl (cf100, 48000, .inl f100))]) hP hD [0, 1] [2, 3, 4, 5, 6, 7, 8, 9] rfl rfl (by decide) (by decide) hk1 hFc hP1 hD1
  clear hP hD
  obtain ⟨hP, hD⟩ := hPD
  replace hK := (hK.sub (tys' := [(cf128, .int), (cf127, .int), (cf104, .int), (cf102, .int), (cf118, .int), (cf119, .int), (cf105, .int), (cf137, .int)]) [1, 2, 3, 4, 5, 6, 7, 8] rfl).app hK1
  clear hPc hDc hKc hFc hP1 hK1 hD1 hz1 hk1 ht hvm
  generalize H1 = H at hP hS ⊢
  replace hP : va_P (dC, dI) vwCl [(qf128, .inl (cf128, 31, .inl f128)), (qf127, .inl (cf127, 30, .inl f127)), (qf104, .inl (cf104, 8, .inl f104)), (qf102, .inl (cf102, 2048, .inl f102)), (qf118, .inl (cf118, 2100, .inl f118)), (qf119, .inl (cf119, 2100, .inl f119)), (qf105, .inl (cf105, 8, .inl f105)), (qf137, .inl (cf137, 6, .inl f137)), (h0, .inr (13, z_1)), (qf100, .inl (cf100, 48000, .inl f100))] H := hP
  replace hD : va_D A [(qf128, .inl (cf128, 31, .inl f128)), (qf127, .inl (cf127, 30, .inl f127)), (qf104, .inl (cf104, 8, .inl f104)), (qf102, .inl (cf102, 2048, .inl f102)), (qf118, .inl (cf118, 2100, .inl f118)), (qf119, .inl (cf119, 2100, .inl f119)), (qf105, .inl (cf105, 8, .inl f105)), (qf137, .inl (cf137, 6, .inl f137)), (h0, .inr (13, z_1)), (qf100, .inl (cf100, 48000, .inl f100))] := hD
  replace hK : va_K (dC, dI) vwCl [(cf128, .int), (cf127, .int), (cf104, .int), (cf102, .int), (cf118, .int), (cf119, .int), (cf105, .int), (cf137, .int), (cf100, .int)] s := hK
  obtain ⟨hwa_1, hln_1, hre_1⟩ := hw
  have hfk_1_98 : z_1[98]? = some (.int v98) := (hre_1 98 ).trans (hf98)
  have hfk_1_100 : z_1[100]? = some (.ref qf100) := (hre_1 100 ).trans (hf100)
  have hfk_1_102 : z_1[102]? = some (.ref qf102) := (hre_1 102 ).trans (hf102)
  have hfk_1_104 : z_1[104]? = some (.ref qf104) := (hre_1 104 ).trans (hf104)
  have hfk_1_105 : z_1[105]? = some (.ref qf105) := (hre_1 105 ).trans (hf105)
  have hfk_1_117 : z_1[117]? = some (.int v117) := (hre_1 117 ).trans (hf117)
  have hfk_1_118 : z_1[118]? = some (.ref qf118) := (hre_1 118 ).trans (hf118)
  have hfk_1_119 : z_1[119]? = some (.ref qf119) := (hre_1 119 ).trans (hf119)
  have hfk_1_120 : z_1[120]? = some (.int v120) := (hre_1 120 ).trans (hf120)
  have hfk_1_127 : z_1[127]? = some (.ref qf127) := (hre_1 127 ).trans (hf127)
  have hfk_1_128 : z_1[128]? = some (.ref qf128) := (hre_1 128 ).trans (hf128)
  have hfk_1_129 : z_1[129]? = some (.int v129) := (hre_1 129 ).trans (hf129)
  have hfk_1_130 : z_1[130]? = some (.int v130) := (hre_1 130 ).trans (hf130)
  have hfk_1_131 : z_1[131]? = some (.int v131) := (hre_1 131 ).trans (hf131)
  have hfk_1_132 : z_1[132]? = some (.int v132) := (hre_1 132 ).trans (hf132)
  have hfk_1_134 : z_1[134]? = some (.int v134) := (hre_1 134 ).trans (hf134)
  have hfk_1_136 : z_1[136]? = some (.int v136) := (hre_1 136 ).trans (hf136)
  have hfk_1_137 : z_1[137]? = some (.ref qf137) := (hre_1 137 ).trans (hf137)
  have hrq_1 : ∀ j : Nat, j ≠ 117 → j ≠ 120 → j ≠ 131 → z_1[j]? = zs[j]? := fun j g117 g120 g131 => (hre_1 j ).trans (hrs0 j g117 g120 g131)
  obtain rfl := hwa_1
  refine lv_istore_n (lv' := [(2, .int u1_0), (0, .ref h0), (1, .int a1)]) hx hb dX13_wanted_5 rfl hl (by decide) rfl (fun ls hl => ?_)
  refine lv_iload_n hx hb dX13_wanted_6 rfl (lv_at hl 0 rfl) ?_
  obtain ⟨u2_0, hu_2, hsp⟩ := ox_bind hsp
  try dsimp only at hsp
  have hPc := hP.sub (ws' := []) [] rfl
  have hDc := hD.sub (ws' := []) [] (by decide) rfl
  have hKc := hK.sub (tys' := []) [] rfl
  have hFc := va_free (wc := []) hD hS hA [] rfl
  refine va_calli (va_runS (As := [.int u1_0]) (rest := []) ⟨hx, hb, hml, hown, hts⟩ (tm_widthOf l dC dI H.size u1_0 nf u2_0 hu_2) (va_cwS 1 hts gv_h9_66 rfl rfl rfl (by decide +kernel) ⟨Nat.le_of_ble_eq_true rfl, Nat.le_of_ble_eq_true rfl⟩) ⟨fun a U g mk q => by obtain ⟨q0, q1, qP, qK, qD⟩ := q; exact ⟨q0, q1, qP, va_K.moved (u := U) (U := U.calling g mk a) (Vm.Alike.refl U.vm) qK, qD⟩, fun U hU hW => ⟨rfl, by rw [hU], by rw [hU]; exact hPc, va_K.moved hW.alike hKc, hDc.weaken (fun _ _ _ _ => trivial)⟩⟩ rfl rfl hl.1 rfl (lv_room (Nat.le_of_ble_eq_true rfl)) dX13_wanted_7 ⟨Nat.le_of_ble_eq_true rfl, Nat.le_of_ble_eq_true rfl⟩) hS (fun q _ h => hFc q h) hFc ?_
  clear hS
  intro r_2 u t H1 locs ht hvm hw hB hz1 hk1 hS
  obtain ⟨⟩ := u
  obtain ⟨hP1, hK1, hD1⟩ := hB
  rw [ht] at hP1
  have hK1 := va_K.moved hvm.symm hK1
  try dsimp only at hw
  have hPD := va_join (wr := [(qf128, .inl (cf128, 31, .inl f128)), (qf127, .inl (cf127, 30, .inl f127)), (qf104, .inl (cf104, 8, .inl f104)), (qf102, .inl (cf102, 2048, .inl f102)), (qf118, .inl (cf118, 2100, .inl f118)), (qf119, .inl (cf119, 2100, .inl f119)), (qf105, .inl (cf105, 8, .inl f105)), (qf137, .inl (cf137, 6, .inl f137)), (h0, .inr (13, z_1)), (qf100, .inl (cf100, 48000, .inl f100))]) (w1 := []) hP hD [] [0, 1, 2, 3, 4, 5, 6, 7, 8, 9] rfl rfl (by decide) (by decide) hk1 hFc hP1 hD1
  clear hP hD
  obtain ⟨hP, hD⟩ := hPD
  replace hK := (hK.sub (tys' := [(cf128, .int), (cf127, .int), (cf104, .int), (cf102, .int), (cf118, .int), (cf119, .int), (cf105, .int), (cf137, .int), (cf100, .int)]) [0, 1, 2, 3, 4, 5, 6, 7, 8] rfl).app hK1
  clear hPc hDc hKc hFc hP1 hK1 hD1 hz1 hk1 ht hvm
  generalize H1 = H at hP hS ⊢
  replace hP : va_P (dC, dI) vwCl [(qf128, .inl (cf128, 31, .inl f128)), (qf127, .inl (cf127, 30, .inl f127)), (qf104, .inl (cf104, 8, .inl f104)), (qf102, .inl (cf102, 2048, .inl f102)), (qf118, .inl (cf118, 2100, .inl f118)), (qf119, .inl (cf119, 2100, .inl f119)), (qf105, .inl (cf105, 8, .inl f105)), (qf137, .inl (cf137, 6, .inl f137)), (h0, .inr (13, z_1)), (qf100, .inl (cf100, 48000, .inl f100))] H := hP
  replace hD : va_D A [(qf128, .inl (cf128, 31, .inl f128)), (qf127, .inl (cf127, 30, .inl f127)), (qf104, .inl (cf104, 8, .inl f104)), (qf102, .inl (cf102, 2048, .inl f102)), (qf118, .inl (cf118, 2100, .inl f118)), (qf119, .inl (cf119, 2100, .inl f119)), (qf105, .inl (cf105, 8, .inl f105)), (qf137, .inl (cf137, 6, .inl f137)), (h0, .inr (13, z_1)), (qf100, .inl (cf100, 48000, .inl f100))] := hD
  replace hK : va_K (dC, dI) vwCl [(cf128, .int), (cf127, .int), (cf104, .int), (cf102, .int), (cf118, .int), (cf119, .int), (cf105, .int), (cf137, .int), (cf100, .int)] s := hK
  obtain rfl := hw
  refine lv_iconst (v := 1) hx hb dX13_wanted_10 (by decide) ?_
  refine lv_icmp_le (tgt := 24) hx hb dX13_wanted_11 (by decide) (fun c_3 => ?_) (fun c_3 => ?_)
  · rw [if_pos c_3] at hsp
    refine lv_iconst (v := 0) hx hb dX13_wanted_24 (by decide) ?_
    exact hj_25 (H, locs, ls, z_1, u1_0, 0, f118, f119, f127, f128, f137, v117, v120, v131) ⟨lv_sub hl [1, 0] rfl, hS, hD.sub (ws' := [(h0, .inr (13, z_1)), (qf100, .inl (cf100, 48000, .inl f100)), (qf128, .inl (cf128, 31, .inl f128)), (qf127, .inl (cf127, 30, .inl f127)), (qf104, .inl (cf104, 8, .inl f104)), (qf102, .inl (cf102, 2048, .inl f102)), (qf118, .inl (cf118, 2100, .inl f118)), (qf119, .inl (cf119, 2100, .inl f119)), (qf105, .inl (cf105, 8, .inl f105)), (qf137, .inl (cf137, 6, .inl f137))]) [8, 9, 0, 1, 2, 3, 4, 5, 6, 7] (by decide) rfl, hP.sub (ws' := [(h0, .inr (13, z_1)), (qf100, .inl (cf100, 48000, .inl f100)), (qf128, .inl (cf128, 31, .inl f128)), (qf127, .inl (cf127, 30, .inl f127)), (qf104, .inl (cf104, 8, .inl f104)), (qf102, .inl (cf102, 2048, .inl f102)), (qf118, .inl (cf118, 2100, .inl f118)), (qf119, .inl (cf119, 2100, .inl f119)), (qf105, .inl (cf105, 8, .inl f105)), (qf137, .inl (cf137, 6, .inl f137))]) [8, 9, 0, 1, 2, 3, 4, 5, 6, 7] rfl, hfk_1_98, hfk_1_100, hfk_1_102, hfk_1_104, hfk_1_105, hfk_1_117, hfk_1_118, hfk_1_119, hfk_1_120, hfk_1_127, hfk_1_128, hfk_1_129, hfk_1_130, hfk_1_131, hfk_1_132, hfk_1_134, hfk_1_136, hfk_1_137, hln_1, hrq_1, hsp⟩
  · rw [if_neg c_3] at hsp
    refine lv_aload_n hx hb dX13_wanted_14 rfl (lv_at hl 1 rfl) ?_
    refine lv_iload_n hx hb dX13_wanted_15 rfl (lv_at hl 2 rfl) ?_
    refine lv_iconst (v := 1) hx hb dX13_wanted_16 (by decide) ?_
    refine lv_iadd hx hb dX13_wanted_17 ?_
    obtain ⟨u3_0, hu_3, hsp⟩ := ox_bind hsp
    try dsimp only at hsp
    have hPc := hP.sub (ws' := [(h0, .inr (13, z_1)), (qf100, .inl (cf100, 48000, .inl f100))]) [8, 9] rfl
    have hDc := hD.sub (ws' := [(h0, .inr (13, z_1)), (qf100, .inl (cf100, 48000, .inl f100))]) [8, 9] (by decide) rfl
    have hKc := hK.sub (tys' := [(cf100, .int)]) [8] rfl
    have hFc := va_free (wc := [(h0, .inr (13, z_1)), (qf100, .inl (cf100, 48000, .inl f100))]) hD hS hA [8, 9] rfl
    refine va_calli (va_runV (As := [.int (a1 + 1)]) (rest := []) ⟨hx, hb, hml, hown, hts⟩ (tm_code l dC dI H.size h0 z_1 ((a1 + 1)) qf100 v132 v134 cf100 f100 nf u3_0 hln_1 hfk_1_100 hfk_1_132 hfk_1_134 hu_3) (cwV 1 hts gv_h9_65 rfl rfl rfl (by decide +kernel) ⟨Nat.le_of_ble_eq_true rfl, Nat.le_of_ble_eq_true rfl⟩) ⟨fun a U g mk q => by obtain ⟨q0, q1, qP, qK, qD⟩ := q; exact ⟨q0, q1, qP, va_K.moved (u := U) (U := U.calling g mk a) (Vm.Alike.refl U.vm) qK, qD⟩, va_recv hKc hPc (ci := 13) (q0 := 0) rfl rfl, fun U hU hW => ⟨rfl, by rw [hU], by rw [hU]; exact hPc, va_K.moved hW.alike hKc, hDc.weaken (fun _ _ _ _ => trivial)⟩⟩ rfl rfl hl.1 rfl (lv_room (Nat.le_of_ble_eq_true rfl)) dX13_wanted_18 ⟨Nat.le_of_ble_eq_true rfl, Nat.le_of_ble_eq_true rfl⟩) hS (fun q _ h => hFc q h) hFc ?_
    clear hS
    intro r_4 u t H1 locs ht hvm hw hB hz1 hk1 hS
    obtain ⟨z_3, rfl⟩ : ∃ z, z = u := ⟨_, rfl⟩
    obtain ⟨hP1, hK1, hD1⟩ := hB
    rw [ht] at hP1
    have hK1 := va_K.moved hvm.symm hK1
    try dsimp only at hw
    have hPD := va_join (wr := [(qf128, .inl (cf128, 31, .inl f128)), (qf127, .inl (cf127, 30, .inl f127)), (qf104, .inl (cf104, 8, .inl f104)), (qf102, .inl (cf102, 2048, .inl f102)), (qf118, .inl (cf118, 2100, .inl f118)), (qf119, .inl (cf119, 2100, .inl f119)), (qf105, .inl (cf105, 8, .inl f105)), (qf137, .inl (cf137, 6, .inl f137))]) (w1 := [(h0, .inr (13, z_3)), (qf100, .inl (cf100, 48000, .inl f100))]) hP hD [8, 9] [0, 1, 2, 3, 4, 5, 6, 7] rfl rfl (by decide) (by decide) hk1 hFc hP1 hD1
    clear hP hD
    obtain ⟨hP, hD⟩ := hPD
    replace hK := (hK.sub (tys' := [(cf128, .int), (cf127, .int), (cf104, .int), (cf102, .int), (cf118, .int), (cf119, .int), (cf105, .int), (cf137, .int)]) [0, 1, 2, 3, 4, 5, 6, 7] rfl).app hK1
    clear hPc hDc hKc hFc hP1 hK1 hD1 hz1 hk1 ht hvm
    generalize H1 = H at hP hS ⊢
    replace hP : va_P (dC, dI) vwCl [(qf128, .inl (cf128, 31, .inl f128)), (qf127, .inl (cf127, 30, .inl f127)), (qf104, .inl (cf104, 8, .inl f104)), (qf102, .inl (cf102, 2048, .inl f102)), (qf118, .inl (cf118, 2100, .inl f118)), (qf119, .inl (cf119, 2100, .inl f119)), (qf105, .inl (cf105, 8, .inl f105)), (qf137, .inl (cf137, 6, .inl f137)), (h0, .inr (13, z_3)), (qf100, .inl (cf100, 48000, .inl f100))] H := hP
    replace hD : va_D A [(qf128, .inl (cf128, 31, .inl f128)), (qf127, .inl (cf127, 30, .inl f127)), (qf104, .inl (cf104, 8, .inl f104)), (qf102, .inl (cf102, 2048, .inl f102)), (qf118, .inl (cf118, 2100, .inl f118)), (qf119, .inl (cf119, 2100, .inl f119)), (qf105, .inl (cf105, 8, .inl f105)), (qf137, .inl (cf137, 6, .inl f137)), (h0, .inr (13, z_3)), (qf100, .inl (cf100, 48000, .inl f100))] := hD
    replace hK : va_K (dC, dI) vwCl [(cf128, .int), (cf127, .int), (cf104, .int), (cf102, .int), (cf118, .int), (cf119, .int), (cf105, .int), (cf137, .int), (cf100, .int)] s := hK
    obtain ⟨hwa_3, hln_3, hre_3⟩ := hw
    have hfk_3_98 : z_3[98]? = some (.int v98) := (hre_3 98 ).trans (hfk_1_98)
    have hfk_3_100 : z_3[100]? = some (.ref qf100) := (hre_3 100 ).trans (hfk_1_100)
    have hfk_3_102 : z_3[102]? = some (.ref qf102) := (hre_3 102 ).trans (hfk_1_102)
    have hfk_3_104 : z_3[104]? = some (.ref qf104) := (hre_3 104 ).trans (hfk_1_104)
    have hfk_3_105 : z_3[105]? = some (.ref qf105) := (hre_3 105 ).trans (hfk_1_105)
    have hfk_3_117 : z_3[117]? = some (.int v117) := (hre_3 117 ).trans (hfk_1_117)
    have hfk_3_118 : z_3[118]? = some (.ref qf118) := (hre_3 118 ).trans (hfk_1_118)
    have hfk_3_119 : z_3[119]? = some (.ref qf119) := (hre_3 119 ).trans (hfk_1_119)
    have hfk_3_120 : z_3[120]? = some (.int v120) := (hre_3 120 ).trans (hfk_1_120)
    have hfk_3_127 : z_3[127]? = some (.ref qf127) := (hre_3 127 ).trans (hfk_1_127)
    have hfk_3_128 : z_3[128]? = some (.ref qf128) := (hre_3 128 ).trans (hfk_1_128)
    have hfk_3_129 : z_3[129]? = some (.int v129) := (hre_3 129 ).trans (hfk_1_129)
    have hfk_3_130 : z_3[130]? = some (.int v130) := (hre_3 130 ).trans (hfk_1_130)
    have hfk_3_131 : z_3[131]? = some (.int v131) := (hre_3 131 ).trans (hfk_1_131)
    have hfk_3_132 : z_3[132]? = some (.int v132) := (hre_3 132 ).trans (hfk_1_132)
    have hfk_3_134 : z_3[134]? = some (.int v134) := (hre_3 134 ).trans (hfk_1_134)
    have hfk_3_136 : z_3[136]? = some (.int v136) := (hre_3 136 ).trans (hfk_1_136)
    have hfk_3_137 : z_3[137]? = some (.ref qf137) := (hre_3 137 ).trans (hfk_1_137)
    have hrq_3 : ∀ j : Nat, j ≠ 117 → j ≠ 120 → j ≠ 131 → z_3[j]? = zs[j]? := fun j g117 g120 g131 => (hre_3 j ).trans (hrq_1 j g117 g120 g131)
    obtain rfl := hwa_3
    refine lv_goto (tgt := 25) hx hb dX13_wanted_21 (by decide) ?_
    exact hj_25 (H, locs, ls, z_3, u1_0, u3_0, f118, f119, f127, f128, f137, v117, v120, v131) ⟨lv_sub hl [1, 0] rfl, hS, hD.sub (ws' := [(h0, .inr (13, z_3)), (qf100, .inl (cf100, 48000, .inl f100)), (qf128, .inl (cf128, 31, .inl f128)), (qf127, .inl (cf127, 30, .inl f127)), (qf104, .inl (cf104, 8, .inl f104)), (qf102, .inl (cf102, 2048, .inl f102)), (qf118, .inl (cf118, 2100, .inl f118)), (qf119, .inl (cf119, 2100, .inl f119)), (qf105, .inl (cf105, 8, .inl f105)), (qf137, .inl (cf137, 6, .inl f137))]) [8, 9, 0, 1, 2, 3, 4, 5, 6, 7] (by decide) rfl, hP.sub (ws' := [(h0, .inr (13, z_3)), (qf100, .inl (cf100, 48000, .inl f100)), (qf128, .inl (cf128, 31, .inl f128)), (qf127, .inl (cf127, 30, .inl f127)), (qf104, .inl (cf104, 8, .inl f104)), (qf102, .inl (cf102, 2048, .inl f102)), (qf118, .inl (cf118, 2100, .inl f118)), (qf119, .inl (cf119, 2100, .inl f119)), (qf105, .inl (cf105, 8, .inl f105)), (qf137, .inl (cf137, 6, .inl f137))]) [8, 9, 0, 1, 2, 3, 4, 5, 6, 7] rfl, hfk_3_98, hfk_3_100, hfk_3_102, hfk_3_104, hfk_3_105, hfk_3_117, hfk_3_118, hfk_3_119, hfk_3_120, hfk_3_127, hfk_3_128, hfk_3_129, hfk_3_130, hfk_3_131, hfk_3_132, hfk_3_134, hfk_3_136, hfk_3_137, hln_3, hrq_3, hsp⟩
def sp_vm_fails (nf : Nat) (a1 : Int32) (v98 : Int32) (v138 : Int32) (v139 : Int32) (v141 : Int32) (v142 : Int32) (v149 : Int32) (f144 : Nat → Int32) (f145 : Nat → Int32) (f146 : Nat → Int32) (f147 : Nat → Int32) (f150 : Nat → Int32) (f151 : Nat → Int32) (f110 : Nat → Int32) (f100 : Nat → Int32) (f152 : Nat → Int32) (f102 : Nat → Int32) (f104 : Nat → Int32) (f105 : Nat → Int32) (f153 : Nat → Int32) (f154 : Nat → Int32) (nS477 : Nat) (fS477 : Nat → Int32) : Option ((Nat → Int32) × (Nat → Int32) × (Nat → Int32) × (Nat → Int32) × (Nat → Int32) × (Nat → Int32) × (Nat → Int32) × Int32 × Int32 × Int32 × Int32 × Int32) := ((sp_vm_make_ nf a1 0 v138 v141 v142 f144 f145 f146 f147).bind (fun p1 => (if p1.1 ≤ 0 then (some (p1.2.1, p1.2.2.1, p1.2.2.2.1, p1.2.2.2.2.1, f152, f153, f154, p1.2.2.2.2.2.1, v139, p1.2.2.2.2.2.2.1, p1.2.2.2.2.2.2.2, v149)) else ((sp_vm_thrown nf p1.1 v98 p1.2.2.2.2.2.1 v139 v149 p1.2.1 f150 f151 f110 f100 f152 f102 f104 f105 f153 f154 nS477 fS477).bind (fun p2 => (some (p1.2.1, p1.2.2.1, p1.2.2.2.1, p1.2.2.2.2.1, p2.1, p2.2.1, p2.2.2.1, p2.2.2.2.1, p2.2.2.2.2.1, p1.2.2.2.2.2.2.1, p1.2.2.2.2.2.2.2, p2.2.2.2.2.2)))))))

set_option maxHeartbeats 4000000 in
set_option maxRecDepth 100000 in
/-- ClassMillModel.right -/
theorem vm_right (l : Launch) (dC : Nat → ClassId) (dI : Nat → Nat → Nat) (sz : Nat) (h0 : Nat) (zs : (List Value)) (a1 : Int32) (v98 : Int32) (qf100 : Nat) (qf102 : Nat) (qf103 : Nat) (qf104 : Nat) (qf105 : Nat) (qf106 : Nat) (qf107 : Nat) (qf108 : Nat) (qf109 : Nat) (v117 : Int32) (qf118 : Nat) (qf119 : Nat) (v120 : Int32) (v121 : Int32) (v132 : Int32) (v134 : Int32) (cf100 : ClassId) (f100 : (Nat → Int32)) (cf103 : ClassId) (f103 : (Nat → Int32)) (cf102 : ClassId) (f102 : (Nat → Int32)) (cf104 : ClassId) (f104 : (Nat → Int32)) (cf118 : ClassId) (f118 : (Nat → Int32)) (cf119 : ClassId) (f119 : (Nat → Int32)) (cf105 : ClassId) (f105 : (Nat → Int32)) (cf106 : ClassId) (f106 : (Nat → Int32)) (cf108 : ClassId) (f108 : (Nat → Int32)) (cf107 : ClassId) (f107 : (Nat → Int32)) (cf109 : ClassId) (f109 : (Nat → Int32)) (nS477 : Nat) (fS477 : (Nat → Int32)) (hS477 : Nat) (qS477 : Nat) (tS477 : String) (nf : Nat) (r0 : Int32) (o118 : (Nat → Int32)) (o119 : (Nat → Int32)) (w117 : Int32) (w120 : Int32) (w121 : Int32) (hlen : zs.length = 155) (hf98 : zs[98]? = some (.int v98)) (hf100 : zs[100]? = some (.ref qf100)) (hf102 : zs[102]? = some (.ref qf102)) (hf103 : zs[103]? = some (.ref qf103)) (hf104 : zs[104]? = some (.ref qf104)) (hf105 : zs[105]? = some (.ref qf105)) (hf106 : zs[106]? = some (.ref qf106)) (hf107 : zs[107]? = some (.ref qf107)) (hf108 : zs[108]? = some (.ref qf108)) (hf109 : zs[109]? = some (.ref qf109)) (hf117 : zs[117]? = some (.int v117)) (hf118 : zs[118]? = some (.ref qf118)) (hf119 : zs[119]? = some (.ref qf119)) (hf120 : zs[120]? = some (.int v120)) (hf121 : zs[121]? = some (.int v121)) (hf132 : zs[132]? = some (.int v132)) (hf134 : zs[134]? = some (.int v134)) (hsp : sp_vm_right nf a1 v98 v117 v120 v121 v132 v134 f100 f103 f102 f104 f118 f119 f105 f106 f108 f107 f109 nS477 fS477 = some (r0, o118, o119, w117, w120, w121)) : Met l yX13_right (.code yX13_right cX13_right 9 (some .boolean) :: VS_h9) ({ frames := 9, cells := 0, slots := 0, locals := 211 }) (va_Pc [.ref h0, .int a1] (fun U => U.heap.size = sz ∧ va_P (dC, dI) vwCl [(h0, .inr (13, zs)), (qf100, .inl (cf100, 48000, .inl f100)), (qf103, .inl (cf103, 8, .inl f103)), (qf102, .inl (cf102, 2048, .inl f102)), (qf104, .inl (cf104, 8, .inl f104)), (qf118, .inl (cf118, 2100, .inl f118)), (qf119, .inl (cf119, 2100, .inl f119)), (qf105, .inl (cf105, 8, .inl f105)), (qf106, .inl (cf106, 8, .inl f106)), (qf108, .inl (cf108, 8, .inl f108)), (qf107, .inl (cf107, 96, .inl f107)), (qf109, .inl (cf109, 96, .inl f109))] U.heap ∧ va_K (dC, dI) vwCl [(cf100, .int), (cf103, .int), (cf102, .int), (cf104, .int), (cf118, .int), (cf119, .int), (cf105, .int), (cf106, .int), (cf108, .int), (cf107, .int), (cf109, .int)] U ∧ va_D (fun _ => True) [(h0, .inr (13, zs)), (qf100, .inl (cf100, 48000, .inl f100)), (qf103, .inl (cf103, 8, .inl f103)), (qf102, .inl (cf102, 2048, .inl f102)), (qf104, .inl (cf104, 8, .inl f104)), (qf118, .inl (cf118, 2100, .inl f118)), (qf119, .inl (cf119, 2100, .inl f119)), (qf105, .inl (cf105, 8, .inl f105)), (qf106, .inl (cf106, 8, .inl f106)), (qf108, .inl (cf108, 8, .inl f108)), (qf107, .inl (cf107, 96, .inl f107)), (qf109, .inl (cf109, 96, .inl f109))] ∧ pz_W nS477 fS477 hS477 qS477 (va_A [(h0, .inr (13, zs)), (qf100, .inl (cf100, 48000, .inl f100)), (qf103, .inl (cf103, 8, .inl f103)), (qf102, .inl (cf102, 2048, .inl f102)), (qf104, .inl (cf104, 8, .inl f104)), (qf118, .inl (cf118, 2100, .inl f118)), (qf119, .inl (cf119, 2100, .inl f119)), (qf105, .inl (cf105, 8, .inl f105)), (qf106, .inl (cf106, 8, .inl f106)), (qf108, .inl (cf108, 8, .inl f108)), (qf107, .inl (cf107, 96, .inl f107)), (qf109, .inl (cf109, 96, .inl f109))] sz) U U.heap ∧ vk_R RX13 477 tS477 hS477 U)) (va_Qi (fun (r : Int32) (u : (List Value)) => match u with | (zo1) => (r0 = r ∧ (r0 = 0 ∨ r0 = 1)) ∧ zo1.length = 155 ∧ (∀ j : Nat, j ≠ 117 → j ≠ 120 → j ≠ 121 → zo1[j]? = zs[j]?) ∧ zo1[117]? = some (.int w117) ∧ zo1[120]? = some (.int w120) ∧ zo1[121]? = some (.int w121)) (fun (u : (List Value)) (t : State) => match u with | (zo1) => va_P (dC, dI) vwCl [(h0, .inr (13, zo1)), (qf100, .inl (cf100, 48000, .inl f100)), (qf103, .inl (cf103, 8, .inl f103)), (qf102, .inl (cf102, 2048, .inl f102)), (qf104, .inl (cf104, 8, .inl f104)), (qf118, .inl (cf118, 2100, .inl o118)), (qf119, .inl (cf119, 2100, .inl o119)), (qf105, .inl (cf105, 8, .inl f105)), (qf106, .inl (cf106, 8, .inl f106)), (qf108, .inl (cf108, 8, .inl f108)), (qf107, .inl (cf107, 96, .inl f107)), (qf109, .inl (cf109, 96, .inl f109))] t.heap ∧ va_K (dC, dI) vwCl [(cf100, .int), (cf103, .int), (cf102, .int), (cf104, .int), (cf118, .int), (cf119, .int), (cf105, .int), (cf106, .int), (cf108, .int), (cf107, .int), (cf109, .int)] t ∧ va_D (va_A [(h0, .inr (13, zs)), (qf100, .inl (cf100, 48000, .inl f100)), (qf103, .inl (cf103, 8, .inl f103)), (qf102, .inl (cf102, 2048, .inl f102)), (qf104, .inl (cf104, 8, .inl f104)), (qf118, .inl (cf118, 2100, .inl f118)), (qf119, .inl (cf119, 2100, .inl f119)), (qf105, .inl (cf105, 8, .inl f105)), (qf106, .inl (cf106, 8, .inl f106)), (qf108, .inl (cf108, 8, .inl f108)), (qf107, .inl (cf107, 96, .inl f107)), (qf109, .inl (cf109, 96, .inl f109))] sz) [(h0, .inr (13, zo1)), (qf100, .inl (cf100, 48000, .inl f100)), (qf103, .inl (cf103, 8, .inl f103)), (qf102, .inl (cf102, 2048, .inl f102)), (qf104, .inl (cf104, 8, .inl f104)), (qf118, .inl (cf118, 2100, .inl o118)), (qf119, .inl (cf119, 2100, .inl o119)), (qf105, .inl (cf105, 8, .inl f105)), (qf106, .inl (cf106, 8, .inl f106)), (qf108, .inl (cf108, 8, .inl f108)), (qf107, .inl (cf107, 96, .inl f107)), (qf109, .inl (cf109, 96, .inl f109))]) (va_A [(h0, .inr (13, zs)), (qf100, .inl (cf100, 48000, .inl f100)), (qf103, .inl (cf103, 8, .inl f103)), (qf102, .inl (cf102, 2048, .inl f102)), (qf104, .inl (cf104, 8, .inl f104)), (qf118, .inl (cf118, 2100, .inl f118)), (qf119, .inl (cf119, 2100, .inl f119)), (qf105, .inl (cf105, 8, .inl f105)), (qf106, .inl (cf106, 8, .inl f106)), (qf108, .inl (cf108, 8, .inl f108)), (qf107, .inl (cf107, 96, .inl f107)), (qf109, .inl (cf109, 96, .inl f109))] sz)) 0 0 (va_A [(h0, .inr (13, zs)), (qf100, .inl (cf100, 48000, .inl f100)), (qf103, .inl (cf103, 8, .inl f103)), (qf102, .inl (cf102, 2048, .inl f102)), (qf104, .inl (cf104, 8, .inl f104)), (qf118, .inl (cf118, 2100, .inl f118)), (qf119, .inl (cf119, 2100, .inl f119)), (qf105, .inl (cf105, 8, .inl f105)), (qf106, .inl (cf106, 8, .inl f106)), (qf108, .inl (cf108, 8, .inl f108)), (qf107, .inl (cf107, 96, .inl f107)), (qf109, .inl (cf109, 96, .inl f109))] sz) := by
  refine Met.ofW (cc := cX13_right) (maxL := 9) (ret := (some .boolean)) (by decide) rfl ?_
  intro p e s m args below meth c s₁ B hml hv
  obtain ⟨rfl, hsz, hP, hK, hD0, hZWS477, hZRS477⟩ := hv
  have hx := B.exec
  have hb := B.bytes
  have hr := B.returns
  have hts := atoms_spec (ws := (.code yX13_right cX13_right 9 (some .boolean) :: VS_h9)) B.pre
  replace hts := fun w (h : w ∈ VS_h9) => hts w (List.mem_cons_of_mem _ h)
  have hown : s.vm.findClass RX13 = some m.cls := findClass_of_methodNamed B.named
  have hlocks := B.notSynchronized
  subst hsz
  have hD := hD0.self (sz := s.heap.size)
  generalize hAe : va_A [(h0, .inr (13, zs)), (qf100, .inl (cf100, 48000, .inl f100)), (qf103, .inl (cf103, 8, .inl f103)), (qf102, .inl (cf102, 2048, .inl f102)), (qf104, .inl (cf104, 8, .inl f104)), (qf118, .inl (cf118, 2100, .inl f118)), (qf119, .inl (cf119, 2100, .inl f119)), (qf105, .inl (cf105, 8, .inl f105)), (qf106, .inl (cf106, 8, .inl f106)), (qf108, .inl (cf108, 8, .inl f108)), (qf107, .inl (cf107, 96, .inl f107)), (qf109, .inl (cf109, 96, .inl f109))] s.heap.size = A at hD hZWS477 ⊢
  have hA : ∀ q : Nat, s.heap.size ≤ q → A q := fun q h => by rw [← hAe]; exact Or.inr h
  have hP : va_P (dC, dI) vwCl [(h0, .inr (13, zs)), (qf100, .inl (cf100, 48000, .inl f100)), (qf103, .inl (cf103, 8, .inl f103)), (qf102, .inl (cf102, 2048, .inl f102)), (qf104, .inl (cf104, 8, .inl f104)), (qf118, .inl (cf118, 2100, .inl f118)), (qf119, .inl (cf119, 2100, .inl f119)), (qf105, .inl (cf105, 8, .inl f105)), (qf106, .inl (cf106, 8, .inl f106)), (qf108, .inl (cf108, 8, .inl f108)), (qf107, .inl (cf107, 96, .inl f107)), (qf109, .inl (cf109, 96, .inl f109))] s.heap := hP
  have hl := lv_entry ([.ref h0, .int a1]) (n := 9) (Nat.le_of_ble_eq_true rfl)
  rw [lg_entry_eq]
  generalize (lg_sl ([.ref h0, .int a1]) ++ List.replicate (9 - (lg_sl ([.ref h0, .int a1])).length) Slot.unset).toArray = ls at hl ⊢
  have hl : lv_has ls 9 [(0, .ref h0), (1, .int a1)] := hl
  obtain ⟨H, hH⟩ : ∃ H : Heap, s.heap = H := ⟨_, rfl⟩
  rw [hH] at hP ⊢
  have hS : va_S A s.heap H [] := by rw [← hH]; exact va_S.rf
  obtain ⟨locs, hlo⟩ : ∃ locs : List Loc, locs = [] := ⟨_, rfl⟩
  rw [← hlo] at hS ⊢
  have hrs0 : ∀ j : Nat, j ≠ 117 → j ≠ 120 → j ≠ 121 → zs[j]? = zs[j]? := fun _ _ _ _  => rfl
  unfold sp_vm_right at hsp
  refine jn_use (α := Heap × List Loc × Array Slot × List Value × Int32 × Int32 × Int32 × Int32 × (Nat → Int32) × (Nat → Int32) × Int32 × Int32 × Int32) (fun x9 => x9.1) (fun x9 => x9.2.1) (fun x9 => F0 m 244 x9.2.2.1 [.int (x9.2.2.2.2.2.2.2.1)]) (fun x9 => match x9 with | (H, locs, ls, z244, l2_244, l3_244, l5_244, s0_244, g118_244, g119_244, x117_244, x120_244, x121_244) => lv_has ls 9 [(0, .ref h0), (2, .int l2_244), (3, .int l3_244), (5, .int l5_244)] ∧ va_S A s.heap H locs ∧ va_D A [(h0, .inr (13, z244)), (qf100, .inl (cf100, 48000, .inl f100)), (qf103, .inl (cf103, 8, .inl f103)), (qf102, .inl (cf102, 2048, .inl f102)), (qf104, .inl (cf104, 8, .inl f104)), (qf118, .inl (cf118, 2100, .inl g118_244)), (qf119, .inl (cf119, 2100, .inl g119_244)), (qf105, .inl (cf105, 8, .inl f105)), (qf106, .inl (cf106, 8, .inl f106)), (qf108, .inl (cf108, 8, .inl f108)), (qf107, .inl (cf107, 96, .inl f107)), (qf109, .inl (cf109, 96, .inl f109))] ∧ va_P (dC, dI) vwCl [(h0, .inr (13, z244)), (qf100, .inl (cf100, 48000, .inl f100)), (qf103, .inl (cf103, 8, .inl f103)), (qf102, .inl (cf102, 2048, .inl f102)), (qf104, .inl (cf104, 8, .inl f104)), (qf118, .inl (cf118, 2100, .inl g118_244)), (qf119, .inl (cf119, 2100, .inl g119_244)), (qf105, .inl (cf105, 8, .inl f105)), (qf106, .inl (cf106, 8, .inl f106)), (qf108, .inl (cf108, 8, .inl f108)), (qf107, .inl (cf107, 96, .inl f107)), (qf109, .inl (cf109, 96, .inl f109))] H ∧ z244[98]? = some (.int v98) ∧ z244[100]? = some (.ref qf100) ∧ z244[102]? = some (.ref qf102) ∧ z244[103]? = some (.ref qf103) ∧ z244[104]? = some (.ref qf104) ∧ z244[105]? = some (.ref qf105) ∧ z244[106]? = some (.ref qf106) ∧ z244[107]? = some (.ref qf107) ∧ z244[108]? = some (.ref qf108) ∧ z244[109]? = some (.ref qf109) ∧ z244[117]? = some (.int x117_244) ∧ z244[118]? = some (.ref qf118) ∧ z244[119]? = some (.ref qf119) ∧ z244[120]? = some (.int x120_244) ∧ z244[121]? = some (.int x121_244) ∧ z244[132]? = some (.int v132) ∧ z244[134]? = some (.int v134) ∧ z244.length = 155 ∧ (∀ j : Nat, j ≠ 117 → j ≠ 120 → j ≠ 121 → z244[j]? = zs[j]?) ∧ jn_vm_right_244 nf a1 v98 v117 v120 v121 v132 v134 f100 f103 f102 f104 f118 f119 f105 f106 f108 f107 f109 nS477 fS477 l2_244 l3_244 l5_244 s0_244 g118_244 g119_244 x117_244 x120_244 x121_244 = some (r0, o118, o119, w117, w120, w121)) ?_ ?_
  · intro x9 hJ9
    obtain ⟨H, locs, ls, z244, l2_244, l3_244, l5_244, s0_244, g118_244, g119_244, x117_244, x120_244, x121_244⟩ := x9
    obtain ⟨hl, hS, hD, hP, hfh_244_98, hfh_244_100, hfh_244_102, hfh_244_103, hfh_244_104, hfh_244_105, hfh_244_106, hfh_244_107, hfh_244_108, hfh_244_109, hfh_244_117, hfh_244_118, hfh_244_119, hfh_244_120, hfh_244_121, hfh_244_132, hfh_244_134, hlh_244, hrh_244, hsp⟩ := hJ9
    replace hl : lv_has ls 9 [(0, .ref h0), (2, .int l2_244), (3, .int l3_244), (5, .int l5_244)] := hl
    replace hS : va_S A s.heap H locs := hS
    replace hD : va_D A [(h0, .inr (13, z244)), (qf100, .inl (cf100, 48000, .inl f100)), (qf103, .inl (cf103, 8, .inl f103)), (qf102, .inl (cf102, 2048, .inl f102)), (qf104, .inl (cf104, 8, .inl f104)), (qf118, .inl (cf118, 2100, .inl g118_244)), (qf119, .inl (cf119, 2100, .inl g119_244)), (qf105, .inl (cf105, 8, .inl f105)), (qf106, .inl (cf106, 8, .inl f106)), (qf108, .inl (cf108, 8, .inl f108)), (qf107, .inl (cf107, 96, .inl f107)), (qf109, .inl (cf109, 96, .inl f109))] := hD
    replace hP : va_P (dC, dI) vwCl [(h0, .inr (13, z244)), (qf100, .inl (cf100, 48000, .inl f100)), (qf103, .inl (cf103, 8, .inl f103)), (qf102, .inl (cf102, 2048, .inl f102)), (qf104, .inl (cf104, 8, .inl f104)), (qf118, .inl (cf118, 2100, .inl g118_244)), (qf119, .inl (cf119, 2100, .inl g119_244)), (qf105, .inl (cf105, 8, .inl f105)), (qf106, .inl (cf106, 8, .inl f106)), (qf108, .inl (cf108, 8, .inl f108)), (qf107, .inl (cf107, 96, .inl f107)), (qf109, .inl (cf109, 96, .inl f109))] H := hP
    replace hsp : jn_vm_right_244 nf a1 v98 v117 v120 v121 v132 v134 f100 f103 f102 f104 f118 f119 f105 f106 f108 f107 f109 nS477 fS477 l2_244 l3_244 l5_244 s0_244 g118_244 g119_244 x117_244 x120_244 x121_244 = some (r0, o118, o119, w117, w120, w121) := hsp
    show W _ _ _ _ _ _ _ _ _ _ H locs _ _ _ (F0 m 244 ls [.int s0_244])
    unfold jn_vm_right_244 at hsp
    try dsimp only at hsp
    refine lv_istore (lv' := [(6, .int s0_244), (0, .ref h0), (2, .int l2_244), (3, .int l3_244), (5, .int l5_244)]) hx hb dX13_right_244 hl (by decide) rfl (fun ls hl => ?_)
    refine lv_aload_n hx hb dX13_right_246 rfl (lv_at hl 1 rfl) ?_
    refine lv_iload hx hb dX13_right_247 (lv_at hl 4 rfl) ?_
    refine lv_iconst (v := 4) hx hb dX13_right_249 (by decide) ?_
    refine lv_isub hx hb dX13_right_250 ?_
    refine lv_iconst (v := 2) hx hb dX13_right_251 (by decide) ?_
    refine lv_idiv hx hb dX13_right_252 (by decide) ?_
    refine lv_aload_n hx hb dX13_right_253 rfl (lv_at hl 1 rfl) ?_
    refine va_get (D := (dC, dI)) (ci := 13) (v := .int v132) (C := RX13) (T := TX13) (N := 155) hx hb hts uV_h9_X13 hown hK hP 0 rfl rfl 132 (by decide) (hts (.fieldLink RX13 932 "ClassMillModel" "inClass" "I") mw_h9_533) (fun _ h9 => h9) hfh_244_132 dX13_right_254 ?_
    refine lv_aload_n hx hb dX13_right_257 rfl (lv_at hl 1 rfl) ?_
    refine lv_iload_n hx hb dX13_right_258 rfl (lv_at hl 3 rfl) ?_
    refine lv_iconst (v := 1) hx hb dX13_right_259 (by decide) ?_
    obtain ⟨u14_0, hu_14, hsp⟩ := ox_bind hsp
    try dsimp only at hsp
    have hPc := hP.sub (ws' := [(h0, .inr (13, z244)), (qf102, .inl (cf102, 2048, .inl f102)), (qf100, .inl (cf100, 48000, .inl f100))]) [0, 3, 1] rfl
    have hDc := hD.sub (ws' := [(h0, .inr (13, z244)), (qf102, .inl (cf102, 2048, .inl f102)), (qf100, .inl (cf100, 48000, .inl f100))]) [0, 3, 1] (by decide) rfl
    have hKc := hK.sub (tys' := [(cf102, .int), (cf100, .int)]) [2, 0] rfl
    have hFc := va_free (wc := [(h0, .inr (13, z244)), (qf102, .inl (cf102, 2048, .inl f102)), (qf100, .inl (cf100, 48000, .inl f100))]) hD hS hA [0, 3, 1] rfl
    refine va_calli (va_runV (As := [.int l3_244, .int 1]) (rest := [.int v132, .int ((l5_244 - 4) / 2), .ref h0]) ⟨hx, hb, hml, hown, hts⟩ (tm_partOf l dC dI H.size h0 z244 l3_244 1 qf100 qf102 v132 cf102 f102 cf100 f100 nf u14_0 hlh_244 hfh_244_100 hfh_244_102 hfh_244_132 hu_14) (cwV 2 hts gv_h9_72 rfl rfl rfl (by decide +kernel) ⟨Nat.le_of_ble_eq_true rfl, Nat.le_of_ble_eq_true rfl⟩) ⟨fun a U g mk q => by obtain ⟨q0, q1, qP, qK, qD⟩ := q; exact ⟨q0, q1, qP, va_K.moved (u := U) (U := U.calling g mk a) (Vm.Alike.refl U.vm) qK, qD⟩, va_recv hKc hPc (ci := 13) (q0 := 0) rfl rfl, fun U hU hW => ⟨rfl, by rw [hU], by rw [hU]; exact hPc, va_K.moved hW.alike hKc, hDc.weaken (fun _ _ _ _ => trivial)⟩⟩ rfl rfl hl.1 rfl (lv_room (Nat.le_of_ble_eq_true rfl)) dX13_right_260 ⟨Nat.le_of_ble_eq_true rfl, Nat.le_of_ble_eq_true rfl⟩) hS (fun q _ h => hFc q h) hFc ?_
    clear hS
    intro r_38 u t H1 locs ht hvm hw hB hz1 hk1 hS
    obtain ⟨z_14, rfl⟩ : ∃ z, z = u := ⟨_, rfl⟩
    obtain ⟨hP1, hK1, hD1⟩ := hB
    rw [ht] at hP1
    have hK1 := va_K.moved hvm.symm hK1
    try dsimp only at hw
    have hPD := va_join (wr := [(qf103, .inl (cf103, 8, .inl f103)), (qf104, .inl (cf104, 8, .inl f104)), (qf118, .inl (cf118, 2100, .inl g118_244)), (qf119, .inl (cf119, 2100, .inl g119_244)), (qf105, .inl (cf105, 8, .inl f105)), (qf106, .inl (cf106, 8, .inl f106)), (qf108, .inl (cf108, 8, .inl f108)), (qf107, .inl (cf107, 96, .inl f107)), (qf109, .inl (cf109, 96, .inl f109))]) (w1 := [(h0, .inr (13, z_14)), (qf102, .inl (cf102, 2048, .inl f102)), (qf100, .inl (cf100, 48000, .inl f100))]) hP hD [0, 3, 1] [2, 4, 5, 6, 7, 8, 9, 10, 11] rfl rfl (by decide) (by decide) hk1 hFc hP1 hD1
    clear hP hD
    obtain ⟨hP, hD⟩ := hPD
    replace hK := (hK.sub (tys' := [(cf103, .int), (cf104, .int), (cf118, .int), (cf119, .int), (cf105, .int), (cf106, .int), (cf108, .int), (cf107, .int), (cf109, .int)]) [1, 3, 4, 5, 6, 7, 8, 9, 10] rfl).app hK1
    clear hPc hDc hKc hFc hP1 hK1 hD1 hz1 hk1 ht hvm
    generalize H1 = H at hP hS ⊢
    replace hP : va_P (dC, dI) vwCl [(qf103, .inl (cf103, 8, .inl f103)), (qf104, .inl (cf104, 8, .inl f104)), (qf118, .inl (cf118, 2100, .inl g118_244)), (qf119, .inl (cf119, 2100, .inl g119_244)), (qf105, .inl (cf105, 8, .inl f105)), (qf106, .inl (cf106, 8, .inl f106)), (qf108, .inl (cf108, 8, .inl f108)), (qf107, .inl (cf107, 96, .inl f107)), (qf109, .inl (cf109, 96, .inl f109)), (h0, .inr (13, z_14)), (qf102, .inl (cf102, 2048, .inl f102)), (qf100, .inl (cf100, 48000, .inl f100))] H := hP
    replace hD : va_D A [(qf103, .inl (cf103, 8, .inl f103)), (qf104, .inl (cf104, 8, .inl f104)), (qf118, .inl (cf118, 2100, .inl g118_244)), (qf119, .inl (cf119, 2100, .inl g119_244)), (qf105, .inl (cf105, 8, .inl f105)), (qf106, .inl (cf106, 8, .inl f106)), (qf108, .inl (cf108, 8, .inl f108)), (qf107, .inl (cf107, 96, .inl f107)), (qf109, .inl (cf109, 96, .inl f109)), (h0, .inr (13, z_14)), (qf102, .inl (cf102, 2048, .inl f102)), (qf100, .inl (cf100, 48000, .inl f100))] := hD
    replace hK : va_K (dC, dI) vwCl [(cf103, .int), (cf104, .int), (cf118, .int), (cf119, .int), (cf105, .int), (cf106, .int), (cf108, .int), (cf107, .int), (cf109, .int), (cf102, .int), (cf100, .int)] s := hK
    obtain ⟨hwa_14, hln_14, hre_14⟩ := hw
    have hfk_14_98 : z_14[98]? = some (.int v98) := (hre_14 98 ).trans (hfh_244_98)
    have hfk_14_100 : z_14[100]? = some (.ref qf100) := (hre_14 100 ).trans (hfh_244_100)
    have hfk_14_102 : z_14[102]? = some (.ref qf102) := (hre_14 102 ).trans (hfh_244_102)
    have hfk_14_103 : z_14[103]? = some (.ref qf103) := (hre_14 103 ).trans (hfh_244_103)
    have hfk_14_104 : z_14[104]? = some (.ref qf104) := (hre_14 104 ).trans (hfh_244_104)
    have hfk_14_105 : z_14[105]? = some (.ref qf105) := (hre_14 105 ).trans (hfh_244_105)
    have hfk_14_106 : z_14[106]? = some (.ref qf106) := (hre_14 106 ).trans (hfh_244_106)
    have hfk_14_107 : z_14[107]? = some (.ref qf107) := (hre_14 107 ).trans (hfh_244_107)
    have hfk_14_108 : z_14[108]? = some (.ref qf108) := (hre_14 108 ).trans (hfh_244_108)
    have hfk_14_109 : z_14[109]? = some (.ref qf109) := (hre_14 109 ).trans (hfh_244_109)
    have hfk_14_117 : z_14[117]? = some (.int x117_244) := (hre_14 117 ).trans (hfh_244_117)
    have hfk_14_118 : z_14[118]? = some (.ref qf118) := (hre_14 118 ).trans (hfh_244_118)
    have hfk_14_119 : z_14[119]? = some (.ref qf119) := (hre_14 119 ).trans (hfh_244_119)
    have hfk_14_120 : z_14[120]? = some (.int x120_244) := (hre_14 120 ).trans (hfh_244_120)
    have hfk_14_121 : z_14[121]? = some (.int x121_244) := (hre_14 121 ).trans (hfh_244_121)
    have hfk_14_132 : z_14[132]? = some (.int v132) := (hre_14 132 ).trans (hfh_244_132)
    have hfk_14_134 : z_14[134]? = some (.int v134) := (hre_14 134 ).trans (hfh_244_134)
    have hrq_14 : ∀ j : Nat, j ≠ 117 → j ≠ 120 → j ≠ 121 → z_14[j]? = zs[j]? := fun j g117 g120 g121 => (hre_14 j ).trans (hrh_244 j g117 g120 g121)
    obtain rfl := hwa_14
    refine lv_iload hx hb dX13_right_263 (lv_at hl 0 rfl) ?_
    obtain ⟨⟨u15_0, u15_1⟩, hu_15, hsp⟩ := ox_bind hsp
    try dsimp only at hsp
    have hPc := hP.sub (ws' := [(h0, .inr (13, z_14)), (qf105, .inl (cf105, 8, .inl f105)), (qf102, .inl (cf102, 2048, .inl f102)), (qf100, .inl (cf100, 48000, .inl f100)), (qf104, .inl (cf104, 8, .inl f104)), (qf106, .inl (cf106, 8, .inl f106)), (qf108, .inl (cf108, 8, .inl f108)), (qf107, .inl (cf107, 96, .inl f107)), (qf109, .inl (cf109, 96, .inl f109))]) [9, 4, 10, 11, 1, 5, 6, 7, 8] rfl
    have hDc := hD.sub (ws' := [(h0, .inr (13, z_14)), (qf105, .inl (cf105, 8, .inl f105)), (qf102, .inl (cf102, 2048, .inl f102)), (qf100, .inl (cf100, 48000, .inl f100)), (qf104, .inl (cf104, 8, .inl f104)), (qf106, .inl (cf106, 8, .inl f106)), (qf108, .inl (cf108, 8, .inl f108)), (qf107, .inl (cf107, 96, .inl f107)), (qf109, .inl (cf109, 96, .inl f109))]) [9, 4, 10, 11, 1, 5, 6, 7, 8] (by decide) rfl
    have hKc := hK.sub (tys' := [(cf105, .int), (cf102, .int), (cf100, .int), (cf104, .int), (cf106, .int), (cf108, .int), (cf107, .int), (cf109, .int)]) [4, 9, 10, 1, 5, 6, 7, 8] rfl
    have hFc := va_free (wc := [(h0, .inr (13, z_14)), (qf105, .inl (cf105, 8, .inl f105)), (qf102, .inl (cf102, 2048, .inl f102)), (qf100, .inl (cf100, 48000, .inl f100)), (qf104, .inl (cf104, 8, .inl f104)), (qf106, .inl (cf106, 8, .inl f106)), (qf108, .inl (cf108, 8, .inl f108)), (qf107, .inl (cf107, 96, .inl f107)), (qf109, .inl (cf109, 96, .inl f109))]) hD hS hA [9, 4, 10, 11, 1, 5, 6, 7, 8] rfl
    refine va_calli (va_runV (As := [.int ((l5_244 - 4) / 2), .int v132, .int u14_0, .int s0_244]) (rest := []) ⟨hx, hb, hml, hown, hts⟩ (vm_holder l dC dI H.size h0 z_14 (((l5_244 - 4) / 2)) v132 u14_0 s0_244 v98 qf100 qf102 qf104 qf105 qf106 qf107 qf108 qf109 x121_244 cf105 f105 cf102 f102 cf100 f100 cf104 f104 cf106 f106 cf108 f108 cf107 f107 cf109 f109 nS477 fS477 hS477 qS477 tS477 nf u15_0 u15_1 hln_14 hfk_14_98 hfk_14_100 hfk_14_102 hfk_14_104 hfk_14_105 hfk_14_106 hfk_14_107 hfk_14_108 hfk_14_109 hfk_14_121 hu_15) (cwV 4 hts gv_h9_107 rfl rfl rfl (by decide +kernel) ⟨Nat.le_of_ble_eq_true rfl, Nat.le_of_ble_eq_true rfl⟩) ⟨fun a U g mk q => by obtain ⟨q0, q1, qP, qK, qD, qhZWS477, qhZRS477⟩ := q; exact ⟨q0, q1, qP, va_K.moved (u := U) (U := U.calling g mk a) (Vm.Alike.refl U.vm) qK, qD, pz_W.moved (u := U) (U := U.calling g mk a) (Vm.Alike.refl U.vm) qhZWS477, vk_R.same rfl qhZRS477⟩, va_recv hKc hPc (ci := 13) (q0 := 0) rfl rfl, fun U hU hW => ⟨rfl, by rw [hU], by rw [hU]; exact hPc, va_K.moved hW.alike hKc, hDc.weaken (fun _ _ _ _ => trivial), by rw [hU]; exact ((pz_W.moved hW.alike hZWS477).kept hS.2.1).narrow hFc, vk_R.warm hW hZRS477⟩⟩ rfl rfl hl.1 rfl (lv_room (Nat.le_of_ble_eq_true rfl)) dX13_right_265 ⟨Nat.le_of_ble_eq_true rfl, Nat.le_of_ble_eq_true rfl⟩) hS (fun q _ h => hFc q h) hFc ?_
    clear hS
    intro r_39 u t H1 locs ht hvm hw hB hz1 hk1 hS
    obtain ⟨z_15, rfl⟩ : ∃ z, z = u := ⟨_, rfl⟩
    obtain ⟨hP1, hK1, hD1⟩ := hB
    rw [ht] at hP1
    have hK1 := va_K.moved hvm.symm hK1
    try dsimp only at hw
    have hPD := va_join (wr := [(qf103, .inl (cf103, 8, .inl f103)), (qf118, .inl (cf118, 2100, .inl g118_244)), (qf119, .inl (cf119, 2100, .inl g119_244))]) (w1 := [(h0, .inr (13, z_15)), (qf105, .inl (cf105, 8, .inl f105)), (qf102, .inl (cf102, 2048, .inl f102)), (qf100, .inl (cf100, 48000, .inl f100)), (qf104, .inl (cf104, 8, .inl f104)), (qf106, .inl (cf106, 8, .inl f106)), (qf108, .inl (cf108, 8, .inl f108)), (qf107, .inl (cf107, 96, .inl f107)), (qf109, .inl (cf109, 96, .inl f109))]) hP hD [9, 4, 10, 11, 1, 5, 6, 7, 8] [0, 2, 3] rfl rfl (by decide) (by decide) hk1 hFc hP1 hD1
    clear hP hD
    obtain ⟨hP, hD⟩ := hPD
    replace hK := (hK.sub (tys' := [(cf103, .int), (cf118, .int), (cf119, .int)]) [0, 2, 3] rfl).app hK1
    clear hPc hDc hKc hFc hP1 hK1 hD1 hz1 hk1 ht hvm
    generalize H1 = H at hP hS ⊢
    replace hP : va_P (dC, dI) vwCl [(qf103, .inl (cf103, 8, .inl f103)), (qf118, .inl (cf118, 2100, .inl g118_244)), (qf119, .inl (cf119, 2100, .inl g119_244)), (h0, .inr (13, z_15)), (qf105, .inl (cf105, 8, .inl f105)), (qf102, .inl (cf102, 2048, .inl f102)), (qf100, .inl (cf100, 48000, .inl f100)), (qf104, .inl (cf104, 8, .inl f104)), (qf106, .inl (cf106, 8, .inl f106)), (qf108, .inl (cf108, 8, .inl f108)), (qf107, .inl (cf107, 96, .inl f107)), (qf109, .inl (cf109, 96, .inl f109))] H := hP
    replace hD : va_D A [(qf103, .inl (cf103, 8, .inl f103)), (qf118, .inl (cf118, 2100, .inl g118_244)), (qf119, .inl (cf119, 2100, .inl g119_244)), (h0, .inr (13, z_15)), (qf105, .inl (cf105, 8, .inl f105)), (qf102, .inl (cf102, 2048, .inl f102)), (qf100, .inl (cf100, 48000, .inl f100)), (qf104, .inl (cf104, 8, .inl f104)), (qf106, .inl (cf106, 8, .inl f106)), (qf108, .inl (cf108, 8, .inl f108)), (qf107, .inl (cf107, 96, .inl f107)), (qf109, .inl (cf109, 96, .inl f109))] := hD
    replace hK : va_K (dC, dI) vwCl [(cf103, .int), (cf118, .int), (cf119, .int), (cf105, .int), (cf102, .int), (cf100, .int), (cf104, .int), (cf106, .int), (cf108, .int), (cf107, .int), (cf109, .int)] s := hK
    obtain ⟨hwa_15, hln_15, hre_15, hch_15_121⟩ := hw
    have hfk_15_98 : z_15[98]? = some (.int v98) := (hre_15 98 (by decide)).trans (hfk_14_98)
    have hfk_15_100 : z_15[100]? = some (.ref qf100) := (hre_15 100 (by decide)).trans (hfk_14_100)
    have hfk_15_102 : z_15[102]? = some (.ref qf102) := (hre_15 102 (by decide)).trans (hfk_14_102)
    have hfk_15_103 : z_15[103]? = some (.ref qf103) := (hre_15 103 (by decide)).trans (hfk_14_103)
    have hfk_15_104 : z_15[104]? = some (.ref qf104) := (hre_15 104 (by decide)).trans (hfk_14_104)
    have hfk_15_105 : z_15[105]? = some (.ref qf105) := (hre_15 105 (by decide)).trans (hfk_14_105)
    have hfk_15_106 : z_15[106]? = some (.ref qf106) := (hre_15 106 (by decide)).trans (hfk_14_106)
    have hfk_15_107 : z_15[107]? = some (.ref qf107) := (hre_15 107 (by decide)).trans (hfk_14_107)
    have hfk_15_108 : z_15[108]? = some (.ref qf108) := (hre_15 108 (by decide)).trans (hfk_14_108)
    have hfk_15_109 : z_15[109]? = some (.ref qf109) := (hre_15 109 (by decide)).trans (hfk_14_109)
    have hfk_15_117 : z_15[117]? = some (.int x117_244) := (hre_15 117 (by decide)).trans (hfk_14_117)
    have hfk_15_118 : z_15[118]? = some (.ref qf118) := (hre_15 118 (by decide)).trans (hfk_14_118)
    have hfk_15_119 : z_15[119]? = some (.ref qf119) := (hre_15 119 (by decide)).trans (hfk_14_119)
    have hfk_15_120 : z_15[120]? = some (.int x120_244) := (hre_15 120 (by decide)).trans (hfk_14_120)
    have hfk_15_132 : z_15[132]? = some (.int v132) := (hre_15 132 (by decide)).trans (hfk_14_132)
    have hfk_15_134 : z_15[134]? = some (.int v134) := (hre_15 134 (by decide)).trans (hfk_14_134)
    have hrq_15 : ∀ j : Nat, j ≠ 117 → j ≠ 120 → j ≠ 121 → z_15[j]? = zs[j]? := fun j g117 g120 g121 => (hre_15 j g121).trans (hrq_14 j g117 g120 g121)
    obtain rfl := hwa_15
    refine lv_istore (lv' := [(7, .int u15_0), (6, .int s0_244), (0, .ref h0), (2, .int l2_244), (3, .int l3_244), (5, .int l5_244)]) hx hb dX13_right_268 hl (by decide) rfl (fun ls hl => ?_)
    refine lv_iload hx hb dX13_right_270 (lv_at hl 0 rfl) ?_
    refine lv_iconst (v := (-1)) hx hb dX13_right_272 (by decide) ?_
    refine lv_icmp_ne (tgt := 278) hx hb dX13_right_273 (by decide) (fun c_40 => ?_) (fun c_40 => ?_)
    · rw [if_neg c_40] at hsp
      refine lv_iload hx hb dX13_right_278 (lv_at hl 0 rfl) ?_
      refine lv_bipush (v := 8) hx hb dX13_right_280 (by decide) ?_
      refine lv_isub hx hb dX13_right_282 ?_
      refine lv_istore (lv' := [(8, .int (u15_0 - 8)), (7, .int u15_0), (6, .int s0_244), (0, .ref h0), (2, .int l2_244), (3, .int l3_244), (5, .int l5_244)]) hx hb dX13_right_283 hl (by decide) rfl (fun ls hl => ?_)
      refine lv_aload_n hx hb dX13_right_285 rfl (lv_at hl 3 rfl) ?_
      refine lv_iload hx hb dX13_right_286 (lv_at hl 0 rfl) ?_
      refine lv_aload_n hx hb dX13_right_288 rfl (lv_at hl 3 rfl) ?_
      refine lv_iload hx hb dX13_right_289 (lv_at hl 0 rfl) ?_
      refine lv_aload_n hx hb dX13_right_291 rfl (lv_at hl 3 rfl) ?_
      refine va_get (D := (dC, dI)) (ci := 13) (v := .int u15_1) (C := RX13) (T := TX13) (N := 155) hx hb hts uV_h9_X13 hown hK hP 3 rfl rfl 121 (by decide) (hts (.fieldLink RX13 898 "ClassMillModel" "found" "I") mw_h9_509) (fun _ h9 => h9) hch_15_121 dX13_right_292 ?_
      refine lv_iload hx hb dX13_right_295 (lv_at hl 2 rfl) ?_
      obtain ⟨u16_0, hu_16, hsp⟩ := ox_bind hsp
      try dsimp only at hsp
      have hPc := hP.sub (ws' := [(h0, .inr (13, z_15)), (qf107, .inl (cf107, 96, .inl f107)), (qf100, .inl (cf100, 48000, .inl f100)), (qf109, .inl (cf109, 96, .inl f109))]) [3, 10, 6, 11] rfl
      have hDc := hD.sub (ws' := [(h0, .inr (13, z_15)), (qf107, .inl (cf107, 96, .inl f107)), (qf100, .inl (cf100, 48000, .inl f100)), (qf109, .inl (cf109, 96, .inl f109))]) [3, 10, 6, 11] (by decide) rfl
      have hKc := hK.sub (tys' := [(cf107, .int), (cf100, .int), (cf109, .int)]) [9, 5, 10] rfl
      have hFc := va_free (wc := [(h0, .inr (13, z_15)), (qf107, .inl (cf107, 96, .inl f107)), (qf100, .inl (cf100, 48000, .inl f100)), (qf109, .inl (cf109, 96, .inl f109))]) hD hS hA [3, 10, 6, 11] rfl
      refine va_calli (va_runV (As := [.int (u15_0 - 8), .int u15_1, .int s0_244]) (rest := [.int (u15_0 - 8), .ref h0]) ⟨hx, hb, hml, hown, hts⟩ (tm_kindText l dC dI H.size h0 z_15 ((u15_0 - 8)) u15_1 s0_244 qf100 qf107 qf109 cf107 f107 cf100 f100 cf109 f109 nf u16_0 hln_15 hfk_15_100 hfk_15_107 hfk_15_109 hu_16) (cwV 3 hts gv_h9_57 rfl rfl rfl (by decide +kernel) ⟨Nat.le_of_ble_eq_true rfl, Nat.le_of_ble_eq_true rfl⟩) ⟨fun a U g mk q => by obtain ⟨q0, q1, qP, qK, qD⟩ := q; exact ⟨q0, q1, qP, va_K.moved (u := U) (U := U.calling g mk a) (Vm.Alike.refl U.vm) qK, qD⟩, va_recv hKc hPc (ci := 13) (q0 := 0) rfl rfl, fun U hU hW => ⟨rfl, by rw [hU], by rw [hU]; exact hPc, va_K.moved hW.alike hKc, hDc.weaken (fun _ _ _ _ => trivial)⟩⟩ rfl rfl hl.1 rfl (lv_room (Nat.le_of_ble_eq_true rfl)) dX13_right_297 ⟨Nat.le_of_ble_eq_true rfl, Nat.le_of_ble_eq_true rfl⟩) hS (fun q _ h => hFc q h) hFc ?_
      clear hS
      intro r_41 u t H1 locs ht hvm hw hB hz1 hk1 hS
      obtain ⟨z_16, rfl⟩ : ∃ z, z = u := ⟨_, rfl⟩
      obtain ⟨hP1, hK1, hD1⟩ := hB
      rw [ht] at hP1
      have hK1 := va_K.moved hvm.symm hK1
      try dsimp only at hw
      have hPD := va_join (wr := [(qf103, .inl (cf103, 8, .inl f103)), (qf118, .inl (cf118, 2100, .inl g118_244)), (qf119, .inl (cf119, 2100, .inl g119_244)), (qf105, .inl (cf105, 8, .inl f105)), (qf102, .inl (cf102, 2048, .inl f102)), (qf104, .inl (cf104, 8, .inl f104)), (qf106, .inl (cf106, 8, .inl f106)), (qf108, .inl (cf108, 8, .inl f108))]) (w1 := [(h0, .inr (13, z_16)), (qf107, .inl (cf107, 96, .inl f107)), (qf100, .inl (cf100, 48000, .inl f100)), (qf109, .inl (cf109, 96, .inl f109))]) hP hD [3, 10, 6, 11] [0, 1, 2, 4, 5, 7, 8, 9] rfl rfl (by decide) (by decide) hk1 hFc hP1 hD1
      clear hP hD
      obtain ⟨hP, hD⟩ := hPD
      replace hK := (hK.sub (tys' := [(cf103, .int), (cf118, .int), (cf119, .int), (cf105, .int), (cf102, .int), (cf104, .int), (cf106, .int), (cf108, .int)]) [0, 1, 2, 3, 4, 6, 7, 8] rfl).app hK1
      clear hPc hDc hKc hFc hP1 hK1 hD1 hz1 hk1 ht hvm
      generalize H1 = H at hP hS ⊢
      replace hP : va_P (dC, dI) vwCl [(qf103, .inl (cf103, 8, .inl f103)), (qf118, .inl (cf118, 2100, .inl g118_244)), (qf119, .inl (cf119, 2100, .inl g119_244)), (qf105, .inl (cf105, 8, .inl f105)), (qf102, .inl (cf102, 2048, .inl f102)), (qf104, .inl (cf104, 8, .inl f104)), (qf106, .inl (cf106, 8, .inl f106)), (qf108, .inl (cf108, 8, .inl f108)), (h0, .inr (13, z_16)), (qf107, .inl (cf107, 96, .inl f107)), (qf100, .inl (cf100, 48000, .inl f100)), (qf109, .inl (cf109, 96, .inl f109))] H := hP
      replace hD : va_D A [(qf103, .inl (cf103, 8, .inl f103)), (qf118, .inl (cf118, 2100, .inl g118_244)), (qf119, .inl (cf119, 2100, .inl g119_244)), (qf105, .inl (cf105, 8, .inl f105)), (qf102, .inl (cf102, 2048, .inl f102)), (qf104, .inl (cf104, 8, .inl f104)), (qf106, .inl (cf106, 8, .inl f106)), (qf108, .inl (cf108, 8, .inl f108)), (h0, .inr (13, z_16)), (qf107, .inl (cf107, 96, .inl f107)), (qf100, .inl (cf100, 48000, .inl f100)), (qf109, .inl (cf109, 96, .inl f109))] := hD
      replace hK : va_K (dC, dI) vwCl [(cf103, .int), (cf118, .int), (cf119, .int), (cf105, .int), (cf102, .int), (cf104, .int), (cf106, .int), (cf108, .int), (cf107, .int), (cf100, .int), (cf109, .int)] s := hK
      obtain ⟨hwa_16, hln_16, hre_16⟩ := hw
      have hfk_16_98 : z_16[98]? = some (.int v98) := (hre_16 98 ).trans (hfk_15_98)
      have hfk_16_100 : z_16[100]? = some (.ref qf100) := (hre_16 100 ).trans (hfk_15_100)
      have hfk_16_102 : z_16[102]? = some (.ref qf102) := (hre_16 102 ).trans (hfk_15_102)
      have hfk_16_103 : z_16[103]? = some (.ref qf103) := (hre_16 103 ).trans (hfk_15_103)
      have hfk_16_104 : z_16[104]? = some (.ref qf104) := (hre_16 104 ).trans (hfk_15_104)
      have hfk_16_105 : z_16[105]? = some (.ref qf105) := (hre_16 105 ).trans (hfk_15_105)
      have hfk_16_106 : z_16[106]? = some (.ref qf106) := (hre_16 106 ).trans (hfk_15_106)
      have hfk_16_107 : z_16[107]? = some (.ref qf107) := (hre_16 107 ).trans (hfk_15_107)
      have hfk_16_108 : z_16[108]? = some (.ref qf108) := (hre_16 108 ).trans (hfk_15_108)
      have hfk_16_109 : z_16[109]? = some (.ref qf109) := (hre_16 109 ).trans (hfk_15_109)
      have hfk_16_117 : z_16[117]? = some (.int x117_244) := (hre_16 117 ).trans (hfk_15_117)
      have hfk_16_118 : z_16[118]? = some (.ref qf118) := (hre_16 118 ).trans (hfk_15_118)
      have hfk_16_119 : z_16[119]? = some (.ref qf119) := (hre_16 119 ).trans (hfk_15_119)
      have hfk_16_120 : z_16[120]? = some (.int x120_244) := (hre_16 120 ).trans (hfk_15_120)
      have hfk_16_121 : z_16[121]? = some (.int u15_1) := (hre_16 121 ).trans (hch_15_121)
      have hfk_16_132 : z_16[132]? = some (.int v132) := (hre_16 132 ).trans (hfk_15_132)
      have hfk_16_134 : z_16[134]? = some (.int v134) := (hre_16 134 ).trans (hfk_15_134)
      have hrq_16 : ∀ j : Nat, j ≠ 117 → j ≠ 120 → j ≠ 121 → z_16[j]? = zs[j]? := fun j g117 g120 g121 => (hre_16 j ).trans (hrq_15 j g117 g120 g121)
      obtain rfl := hwa_16
      refine lv_aload_n hx hb dX13_right_300 rfl (lv_at hl 3 rfl) ?_
      refine va_get (D := (dC, dI)) (ci := 13) (v := .int v132) (C := RX13) (T := TX13) (N := 155) hx hb hts uV_h9_X13 hown hK hP 8 rfl rfl 132 (by decide) (hts (.fieldLink RX13 932 "ClassMillModel" "inClass" "I") mw_h9_533) (fun _ h9 => h9) hfk_16_132 dX13_right_301 ?_
      refine lv_aload_n hx hb dX13_right_304 rfl (lv_at hl 3 rfl) ?_
      refine lv_iload_n hx hb dX13_right_305 rfl (lv_at hl 5 rfl) ?_
      refine lv_iconst (v := 2) hx hb dX13_right_306 (by decide) ?_
      obtain ⟨u17_0, hu_17, hsp⟩ := ox_bind hsp
      try dsimp only at hsp
      have hPc := hP.sub (ws' := [(h0, .inr (13, z_16)), (qf102, .inl (cf102, 2048, .inl f102)), (qf100, .inl (cf100, 48000, .inl f100))]) [8, 4, 10] rfl
      have hDc := hD.sub (ws' := [(h0, .inr (13, z_16)), (qf102, .inl (cf102, 2048, .inl f102)), (qf100, .inl (cf100, 48000, .inl f100))]) [8, 4, 10] (by decide) rfl
      have hKc := hK.sub (tys' := [(cf102, .int), (cf100, .int)]) [4, 9] rfl
      have hFc := va_free (wc := [(h0, .inr (13, z_16)), (qf102, .inl (cf102, 2048, .inl f102)), (qf100, .inl (cf100, 48000, .inl f100))]) hD hS hA [8, 4, 10] rfl
      refine va_calli (va_runV (As := [.int l3_244, .int 2]) (rest := [.int v132, .int u16_0, .int (u15_0 - 8), .ref h0]) ⟨hx, hb, hml, hown, hts⟩ (tm_partOf l dC dI H.size h0 z_16 l3_244 2 qf100 qf102 v132 cf102 f102 cf100 f100 nf u17_0 hln_16 hfk_16_100 hfk_16_102 hfk_16_132 hu_17) (cwV 2 hts gv_h9_72 rfl rfl rfl (by decide +kernel) ⟨Nat.le_of_ble_eq_true rfl, Nat.le_of_ble_eq_true rfl⟩) ⟨fun a U g mk q => by obtain ⟨q0, q1, qP, qK, qD⟩ := q; exact ⟨q0, q1, qP, va_K.moved (u := U) (U := U.calling g mk a) (Vm.Alike.refl U.vm) qK, qD⟩, va_recv hKc hPc (ci := 13) (q0 := 0) rfl rfl, fun U hU hW => ⟨rfl, by rw [hU], by rw [hU]; exact hPc, va_K.moved hW.alike hKc, hDc.weaken (fun _ _ _ _ => trivial)⟩⟩ rfl rfl hl.1 rfl (lv_room (Nat.le_of_ble_eq_true rfl)) dX13_right_307 ⟨Nat.le_of_ble_eq_true rfl, Nat.le_of_ble_eq_true rfl⟩) hS (fun q _ h => hFc q h) hFc ?_
      clear hS
      intro r_42 u t H1 locs ht hvm hw hB hz1 hk1 hS
      obtain ⟨z_17, rfl⟩ : ∃ z, z = u := ⟨_, rfl⟩
      obtain ⟨hP1, hK1, hD1⟩ := hB
      rw [ht] at hP1
      have hK1 := va_K.moved hvm.symm hK1
      try dsimp only at hw
      have hPD := va_join (wr := [(qf103, .inl (cf103, 8, .inl f103)), (qf118, .inl (cf118, 2100, .inl g118_244)), (qf119, .inl (cf119, 2100, .inl g119_244)), (qf105, .inl (cf105, 8, .inl f105)), (qf104, .inl (cf104, 8, .inl f104)), (qf106, .inl (cf106, 8, .inl f106)), (qf108, .inl (cf108, 8, .inl f108)), (qf107, .inl (cf107, 96, .inl f107)), (qf109, .inl (cf109, 96, .inl f109))]) (w1 := [(h0, .inr (13, z_17)), (qf102, .inl (cf102, 2048, .inl f102)), (qf100, .inl (cf100, 48000, .inl f100))]) hP hD [8, 4, 10] [0, 1, 2, 3, 5, 6, 7, 9, 11] rfl rfl (by decide) (by decide) hk1 hFc hP1 hD1
      clear hP hD
      obtain ⟨hP, hD⟩ := hPD
      replace hK := (hK.sub (tys' := [(cf103, .int), (cf118, .int), (cf119, .int), (cf105, .int), (cf104, .int), (cf106, .int), (cf108, .int), (cf107, .int), (cf109, .int)]) [0, 1, 2, 3, 5, 6, 7, 8, 10] rfl).app hK1
      clear hPc hDc hKc hFc hP1 hK1 hD1 hz1 hk1 ht hvm
      generalize H1 = H at hP hS ⊢
      replace hP : va_P (dC, dI) vwCl [(qf103, .inl (cf103, 8, .inl f103)), (qf118, .inl (cf118, 2100, .inl g118_244)), (qf119, .inl (cf119, 2100, .inl g119_244)), (qf105, .inl (cf105, 8, .inl f105)), (qf104, .inl (cf104, 8, .inl f104)), (qf106, .inl (cf106, 8, .inl f106)), (qf108, .inl (cf108, 8, .inl f108)), (qf107, .inl (cf107, 96, .inl f107)), (qf109, .inl (cf109, 96, .inl f109)), (h0, .inr (13, z_17)), (qf102, .inl (cf102, 2048, .inl f102)), (qf100, .inl (cf100, 48000, .inl f100))] H := hP
      replace hD : va_D A [(qf103, .inl (cf103, 8, .inl f103)), (qf118, .inl (cf118, 2100, .inl g118_244)), (qf119, .inl (cf119, 2100, .inl g119_244)), (qf105, .inl (cf105, 8, .inl f105)), (qf104, .inl (cf104, 8, .inl f104)), (qf106, .inl (cf106, 8, .inl f106)), (qf108, .inl (cf108, 8, .inl f108)), (qf107, .inl (cf107, 96, .inl f107)), (qf109, .inl (cf109, 96, .inl f109)), (h0, .inr (13, z_17)), (qf102, .inl (cf102, 2048, .inl f102)), (qf100, .inl (cf100, 48000, .inl f100))] := hD
      replace hK : va_K (dC, dI) vwCl [(cf103, .int), (cf118, .int), (cf119, .int), (cf105, .int), (cf104, .int), (cf106, .int), (cf108, .int), (cf107, .int), (cf109, .int), (cf102, .int), (cf100, .int)] s := hK
      obtain ⟨hwa_17, hln_17, hre_17⟩ := hw
      have hfk_17_98 : z_17[98]? = some (.int v98) := (hre_17 98 ).trans (hfk_16_98)
      have hfk_17_100 : z_17[100]? = some (.ref qf100) := (hre_17 100 ).trans (hfk_16_100)
      have hfk_17_102 : z_17[102]? = some (.ref qf102) := (hre_17 102 ).trans (hfk_16_102)
      have hfk_17_103 : z_17[103]? = some (.ref qf103) := (hre_17 103 ).trans (hfk_16_103)
      have hfk_17_104 : z_17[104]? = some (.ref qf104) := (hre_17 104 ).trans (hfk_16_104)
      have hfk_17_105 : z_17[105]? = some (.ref qf105) := (hre_17 105 ).trans (hfk_16_105)
      have hfk_17_106 : z_17[106]? = some (.ref qf106) := (hre_17 106 ).trans (hfk_16_106)
      have hfk_17_107 : z_17[107]? = some (.ref qf107) := (hre_17 107 ).trans (hfk_16_107)
      have hfk_17_108 : z_17[108]? = some (.ref qf108) := (hre_17 108 ).trans (hfk_16_108)
      have hfk_17_109 : z_17[109]? = some (.ref qf109) := (hre_17 109 ).trans (hfk_16_109)
      have hfk_17_117 : z_17[117]? = some (.int x117_244) := (hre_17 117 ).trans (hfk_16_117)
      have hfk_17_118 : z_17[118]? = some (.ref qf118) := (hre_17 118 ).trans (hfk_16_118)
      have hfk_17_119 : z_17[119]? = some (.ref qf119) := (hre_17 119 ).trans (hfk_16_119)
      have hfk_17_120 : z_17[120]? = some (.int x120_244) := (hre_17 120 ).trans (hfk_16_120)
      have hfk_17_121 : z_17[121]? = some (.int u15_1) := (hre_17 121 ).trans (hfk_16_121)
      have hfk_17_132 : z_17[132]? = some (.int v132) := (hre_17 132 ).trans (hfk_16_132)
      have hfk_17_134 : z_17[134]? = some (.int v134) := (hre_17 134 ).trans (hfk_16_134)
      have hrq_17 : ∀ j : Nat, j ≠ 117 → j ≠ 120 → j ≠ 121 → z_17[j]? = zs[j]? := fun j g117 g120 g121 => (hre_17 j ).trans (hrq_16 j g117 g120 g121)
      obtain rfl := hwa_17
      obtain ⟨u18_0, hu_18, hsp⟩ := ox_bind hsp
      try dsimp only at hsp
      have hPc := hP.sub (ws' := [(h0, .inr (13, z_17)), (qf102, .inl (cf102, 2048, .inl f102)), (qf100, .inl (cf100, 48000, .inl f100))]) [9, 10, 11] rfl
      have hDc := hD.sub (ws' := [(h0, .inr (13, z_17)), (qf102, .inl (cf102, 2048, .inl f102)), (qf100, .inl (cf100, 48000, .inl f100))]) [9, 10, 11] (by decide) rfl
      have hKc := hK.sub (tys' := [(cf102, .int), (cf100, .int)]) [9, 10] rfl
      have hFc := va_free (wc := [(h0, .inr (13, z_17)), (qf102, .inl (cf102, 2048, .inl f102)), (qf100, .inl (cf100, 48000, .inl f100))]) hD hS hA [9, 10, 11] rfl
      refine va_calli (va_runV (As := [.int (u15_0 - 8), .int u16_0, .int v132, .int u17_0]) (rest := []) ⟨hx, hb, hml, hown, hts⟩ (vm_sameText l dC dI H.size h0 z_17 ((u15_0 - 8)) u16_0 v132 u17_0 qf100 qf102 cf102 f102 cf100 f100 nf u18_0 hln_17 hfk_17_100 hfk_17_102 hu_18) (cwV 4 hts gv_h9_102 rfl rfl rfl (by decide +kernel) ⟨Nat.le_of_ble_eq_true rfl, Nat.le_of_ble_eq_true rfl⟩) ⟨fun a U g mk q => by obtain ⟨q0, q1, qP, qK, qD⟩ := q; exact ⟨q0, q1, qP, va_K.moved (u := U) (U := U.calling g mk a) (Vm.Alike.refl U.vm) qK, qD⟩, va_recv hKc hPc (ci := 13) (q0 := 0) rfl rfl, fun U hU hW => ⟨rfl, by rw [hU], by rw [hU]; exact hPc, va_K.moved hW.alike hKc, hDc.weaken (fun _ _ _ _ => trivial)⟩⟩ rfl rfl hl.1 rfl (lv_room (Nat.le_of_ble_eq_true rfl)) dX13_right_310 ⟨Nat.le_of_ble_eq_true rfl, Nat.le_of_ble_eq_true rfl⟩) hS (fun q _ h => hFc q h) hFc ?_
      clear hS
      intro r_43 u t H1 locs ht hvm hw hB hz1 hk1 hS
      obtain ⟨z_18, rfl⟩ : ∃ z, z = u := ⟨_, rfl⟩
      obtain ⟨hP1, hK1, hD1⟩ := hB
      rw [ht] at hP1
      have hK1 := va_K.moved hvm.symm hK1
      try dsimp only at hw
      have hPD := va_join (wr := [(qf103, .inl (cf103, 8, .inl f103)), (qf118, .inl (cf118, 2100, .inl g118_244)), (qf119, .inl (cf119, 2100, .inl g119_244)), (qf105, .inl (cf105, 8, .inl f105)), (qf104, .inl (cf104, 8, .inl f104)), (qf106, .inl (cf106, 8, .inl f106)), (qf108, .inl (cf108, 8, .inl f108)), (qf107, .inl (cf107, 96, .inl f107)), (qf109, .inl (cf109, 96, .inl f109))]) (w1 := [(h0, .inr (13, z_18)), (qf102, .inl (cf102, 2048, .inl f102)), (qf100, .inl (cf100, 48000, .inl f100))]) hP hD [9, 10, 11] [0, 1, 2, 3, 4, 5, 6, 7, 8] rfl rfl (by decide) (by decide) hk1 hFc hP1 hD1
      clear hP hD
      obtain ⟨hP, hD⟩ := hPD
      replace hK := (hK.sub (tys' := [(cf103, .int), (cf118, .int), (cf119, .int), (cf105, .int), (cf104, .int), (cf106, .int), (cf108, .int), (cf107, .int), (cf109, .int)]) [0, 1, 2, 3, 4, 5, 6, 7, 8] rfl).app hK1
      clear hPc hDc hKc hFc hP1 hK1 hD1 hz1 hk1 ht hvm
      generalize H1 = H at hP hS ⊢
      replace hP : va_P (dC, dI) vwCl [(qf103, .inl (cf103, 8, .inl f103)), (qf118, .inl (cf118, 2100, .inl g118_244)), (qf119, .inl (cf119, 2100, .inl g119_244)), (qf105, .inl (cf105, 8, .inl f105)), (qf104, .inl (cf104, 8, .inl f104)), (qf106, .inl (cf106, 8, .inl f106)), (qf108, .inl (cf108, 8, .inl f108)), (qf107, .inl (cf107, 96, .inl f107)), (qf109, .inl (cf109, 96, .inl f109)), (h0, .inr (13, z_18)), (qf102, .inl (cf102, 2048, .inl f102)), (qf100, .inl (cf100, 48000, .inl f100))] H := hP
      replace hD : va_D A [(qf103, .inl (cf103, 8, .inl f103)), (qf118, .inl (cf118, 2100, .inl g118_244)), (qf119, .inl (cf119, 2100, .inl g119_244)), (qf105, .inl (cf105, 8, .inl f105)), (qf104, .inl (cf104, 8, .inl f104)), (qf106, .inl (cf106, 8, .inl f106)), (qf108, .inl (cf108, 8, .inl f108)), (qf107, .inl (cf107, 96, .inl f107)), (qf109, .inl (cf109, 96, .inl f109)), (h0, .inr (13, z_18)), (qf102, .inl (cf102, 2048, .inl f102)), (qf100, .inl (cf100, 48000, .inl f100))] := hD
      replace hK : va_K (dC, dI) vwCl [(cf103, .int), (cf118, .int), (cf119, .int), (cf105, .int), (cf104, .int), (cf106, .int), (cf108, .int), (cf107, .int), (cf109, .int), (cf102, .int), (cf100, .int)] s := hK
      obtain ⟨hwa_18, hln_18, hre_18⟩ := hw
      have hfk_18_98 : z_18[98]? = some (.int v98) := (hre_18 98 ).trans (hfk_17_98)
      have hfk_18_100 : z_18[100]? = some (.ref qf100) := (hre_18 100 ).trans (hfk_17_100)
      have hfk_18_102 : z_18[102]? = some (.ref qf102) := (hre_18 102 ).trans (hfk_17_102)
      have hfk_18_103 : z_18[103]? = some (.ref qf103) := (hre_18 103 ).trans (hfk_17_103)
      have hfk_18_104 : z_18[104]? = some (.ref qf104) := (hre_18 104 ).trans (hfk_17_104)
      have hfk_18_105 : z_18[105]? = some (.ref qf105) := (hre_18 105 ).trans (hfk_17_105)
      have hfk_18_106 : z_18[106]? = some (.ref qf106) := (hre_18 106 ).trans (hfk_17_106)
      have hfk_18_107 : z_18[107]? = some (.ref qf107) := (hre_18 107 ).trans (hfk_17_107)
      have hfk_18_108 : z_18[108]? = some (.ref qf108) := (hre_18 108 ).trans (hfk_17_108)
      have hfk_18_109 : z_18[109]? = some (.ref qf109) := (hre_18 109 ).trans (hfk_17_109)
      have hfk_18_117 : z_18[117]? = some (.int x117_244) := (hre_18 117 ).trans (hfk_17_117)
      have hfk_18_118 : z_18[118]? = some (.ref qf118) := (hre_18 118 ).trans (hfk_17_118)
      have hfk_18_119 : z_18[119]? = some (.ref qf119) := (hre_18 119 ).trans (hfk_17_119)
      have hfk_18_120 : z_18[120]? = some (.int x120_244) := (hre_18 120 ).trans (hfk_17_120)
      have hfk_18_121 : z_18[121]? = some (.int u15_1) := (hre_18 121 ).trans (hfk_17_121)
      have hfk_18_132 : z_18[132]? = some (.int v132) := (hre_18 132 ).trans (hfk_17_132)
      have hfk_18_134 : z_18[134]? = some (.int v134) := (hre_18 134 ).trans (hfk_17_134)
      have hrq_18 : ∀ j : Nat, j ≠ 117 → j ≠ 120 → j ≠ 121 → z_18[j]? = zs[j]? := fun j g117 g120 g121 => (hre_18 j ).trans (hrq_17 j g117 g120 g121)
      obtain ⟨rfl, hz_18⟩ := hwa_18
      rcases hz_18 with rfl | rfl
      · rw [if_pos rfl] at hsp
        refine lv_if_ne (tgt := 318) hx hb dX13_right_313 (by decide) (fun c_44 => (show False by revert c_44; decide).elim) (fun c_44 => ?_)
        refine lv_iconst (v := 0) hx hb dX13_right_316 (by decide) ?_
        have hr0 := Option.some.inj hsp
        clear hsp
        obtain ⟨hq0, hr1⟩ := Prod.mk.inj hr0
        clear hr0
        obtain ⟨hq1, hr2⟩ := Prod.mk.inj hr1
        clear hr1
        obtain ⟨hq2, hr3⟩ := Prod.mk.inj hr2
        clear hr2
        obtain ⟨hq3, hr4⟩ := Prod.mk.inj hr3
        clear hr3
        obtain ⟨hq4, hr5⟩ := Prod.mk.inj hr4
        clear hr4
        subst hq0
        subst hq1
        subst hq2
        subst hq3
        subst hq4
        subst hr5
        have hP9 := hP.sub (ws' := [(h0, .inr (13, z_18)), (qf100, .inl (cf100, 48000, .inl f100)), (qf103, .inl (cf103, 8, .inl f103)), (qf102, .inl (cf102, 2048, .inl f102)), (qf104, .inl (cf104, 8, .inl f104)), (qf118, .inl (cf118, 2100, .inl g118_244)), (qf119, .inl (cf119, 2100, .inl g119_244)), (qf105, .inl (cf105, 8, .inl f105)), (qf106, .inl (cf106, 8, .inl f106)), (qf108, .inl (cf108, 8, .inl f108)), (qf107, .inl (cf107, 96, .inl f107)), (qf109, .inl (cf109, 96, .inl f109))]) [9, 11, 0, 10, 4, 1, 2, 3, 5, 6, 7, 8] rfl
        have hD9 := hD.sub (ws' := [(h0, .inr (13, z_18)), (qf100, .inl (cf100, 48000, .inl f100)), (qf103, .inl (cf103, 8, .inl f103)), (qf102, .inl (cf102, 2048, .inl f102)), (qf104, .inl (cf104, 8, .inl f104)), (qf118, .inl (cf118, 2100, .inl g118_244)), (qf119, .inl (cf119, 2100, .inl g119_244)), (qf105, .inl (cf105, 8, .inl f105)), (qf106, .inl (cf106, 8, .inl f106)), (qf108, .inl (cf108, 8, .inl f108)), (qf107, .inl (cf107, 96, .inl f107)), (qf109, .inl (cf109, 96, .inl f109))]) [9, 11, 0, 10, 4, 1, 2, 3, 5, 6, 7, 8] (by decide) rfl
        have hK9 := hK.sub (tys' := [(cf100, .int), (cf103, .int), (cf102, .int), (cf104, .int), (cf118, .int), (cf119, .int), (cf105, .int), (cf106, .int), (cf108, .int), (cf107, .int), (cf109, .int)]) [10, 0, 9, 4, 1, 2, 3, 5, 6, 7, 8] rfl
        exact W.zret hx hb hr (by decide) (fun t ht hW => ⟨⟨(0), (z_18), rfl, ⟨⟨rfl, Or.inl rfl⟩, hln_18, hrq_18, hfk_18_117, hfk_18_120, hfk_18_121⟩, by rw [ht]; exact hP9, va_K.moved hW.alike hK9, hD9⟩, hS.F ht⟩) hS.2.2 dX13_right_317
      · rw [if_neg (by decide)] at hsp
        refine lv_if_ne (tgt := 318) hx hb dX13_right_313 (by decide) (fun c_45 => ?_) (fun c_45 => (show False by revert c_45; decide).elim)
        refine lv_iload hx hb dX13_right_318 (lv_at hl 2 rfl) ?_
        refine lv_if_eq (tgt := 359) hx hb dX13_right_320 (by decide) (fun c_46 => ?_) (fun c_46 => ?_)
        · rw [if_pos c_46] at hsp
          refine lv_iconst (v := 1) hx hb dX13_right_359 (by decide) ?_
          refine lv_goto (tgt := 364) hx hb dX13_right_360 (by decide) ?_
          have hr0 := Option.some.inj hsp
          clear hsp
          obtain ⟨hq0, hr1⟩ := Prod.mk.inj hr0
          clear hr0
          obtain ⟨hq1, hr2⟩ := Prod.mk.inj hr1
          clear hr1
          obtain ⟨hq2, hr3⟩ := Prod.mk.inj hr2
          clear hr2
          obtain ⟨hq3, hr4⟩ := Prod.mk.inj hr3
          clear hr3
          obtain ⟨hq4, hr5⟩ := Prod.mk.inj hr4
          clear hr4
          subst hq0
          subst hq1
          subst hq2
          subst hq3
          subst hq4
          subst hr5
          have hP9 := hP.sub (ws' := [(h0, .inr (13, z_18)), (qf100, .inl (cf100, 48000, .inl f100)), (qf103, .inl (cf103, 8, .inl f103)), (qf102, .inl (cf102, 2048, .inl f102)), (qf104, .inl (cf104, 8, .inl f104)), (qf118, .inl (cf118, 2100, .inl g118_244)), (qf119, .inl (cf119, 2100, .inl g119_244)), (qf105, .inl (cf105, 8, .inl f105)), (qf106, .inl (cf106, 8, .inl f106)), (qf108, .inl (cf108, 8, .inl f108)), (qf107, .inl (cf107, 96, .inl f107)), (qf109, .inl (cf109, 96, .inl f109))]) [9, 11, 0, 10, 4, 1, 2, 3, 5, 6, 7, 8] rfl
          have hD9 := hD.sub (ws' := [(h0, .inr (13, z_18)), (qf100, .inl (cf100, 48000, .inl f100)), (qf103, .inl (cf103, 8, .inl f103)), (qf102, .inl (cf102, 2048, .inl f102)), (qf104, .inl (cf104, 8, .inl f104)), (qf118, .inl (cf118, 2100, .inl g118_244)), (qf119, .inl (cf119, 2100, .inl g119_244)), (qf105, .inl (cf105, 8, .inl f105)), (qf106, .inl (cf106, 8, .inl f106)), (qf108, .inl (cf108, 8, .inl f108)), (qf107, .inl (cf107, 96, .inl f107)), (qf109, .inl (cf109, 96, .inl f109))]) [9, 11, 0, 10, 4, 1, 2, 3, 5, 6, 7, 8] (by decide) rfl
          have hK9 := hK.sub (tys' := [(cf100, .int), (cf103, .int), (cf102, .int), (cf104, .int), (cf118, .int), (cf119, .int), (cf105, .int), (cf106, .int), (cf108, .int), (cf107, .int), (cf109, .int)]) [10, 0, 9, 4, 1, 2, 3, 5, 6, 7, 8] rfl
          exact W.zret hx hb hr (by decide) (fun t ht hW => ⟨⟨(1), (z_18), rfl, ⟨⟨rfl, Or.inr rfl⟩, hln_18, hrq_18, hfk_18_117, hfk_18_120, hfk_18_121⟩, by rw [ht]; exact hP9, va_K.moved hW.alike hK9, hD9⟩, hS.F ht⟩) hS.2.2 dX13_right_364
        · rw [if_neg c_46] at hsp
          refine lv_aload_n hx hb dX13_right_323 rfl (lv_at hl 3 rfl) ?_
          refine lv_iload hx hb dX13_right_324 (lv_at hl 0 rfl) ?_
          refine lv_aload_n hx hb dX13_right_326 rfl (lv_at hl 3 rfl) ?_
          refine va_get (D := (dC, dI)) (ci := 13) (v := .ref qf109) (C := RX13) (T := TX13) (N := 155) hx hb hts uV_h9_X13 hown hK hP 9 rfl rfl 109 (by decide) (hts (.fieldLink RX13 236 "ClassMillModel" "methodAt" "[I") mw_h9_282) (fun _ h9 => h9) hfk_18_109 dX13_right_327 ?_
          refine lv_bipush (v := 12) hx hb dX13_right_330 (by decide) ?_
          refine lv_iload hx hb dX13_right_332 (lv_at hl 0 rfl) ?_
          refine lv_imul hx hb dX13_right_334 ?_
          refine lv_aload_n hx hb dX13_right_335 rfl (lv_at hl 3 rfl) ?_
          refine va_get (D := (dC, dI)) (ci := 13) (v := .int u15_1) (C := RX13) (T := TX13) (N := 155) hx hb hts uV_h9_X13 hown hK hP 9 rfl rfl 121 (by decide) (hts (.fieldLink RX13 898 "ClassMillModel" "found" "I") mw_h9_509) (fun _ h9 => h9) hfk_18_121 dX13_right_336 ?_
          refine lv_iadd hx hb dX13_right_339 ?_
          obtain ⟨hi_47, hsp⟩ := ox_in hsp
          refine va_iald hx hb hK hP 8 8 rfl rfl (i := ((12 * (u15_0 - 8)) + u15_1)) hi_47 dX13_right_340 ?_
          obtain ⟨u19_0, hu_19, hsp⟩ := ox_bind hsp
          try dsimp only at hsp
          have hPc := hP.sub (ws' := [(h0, .inr (13, z_18)), (qf100, .inl (cf100, 48000, .inl f100))]) [9, 11] rfl
          have hDc := hD.sub (ws' := [(h0, .inr (13, z_18)), (qf100, .inl (cf100, 48000, .inl f100))]) [9, 11] (by decide) rfl
          have hKc := hK.sub (tys' := [(cf100, .int)]) [10] rfl
          have hFc := va_free (wc := [(h0, .inr (13, z_18)), (qf100, .inl (cf100, 48000, .inl f100))]) hD hS hA [9, 11] rfl
          refine va_calli (va_runV (As := [.int (u15_0 - 8), .int (f109 (((12 * (u15_0 - 8)) + u15_1) : Int32).toNatClampNeg)]) (rest := []) ⟨hx, hb, hml, hown, hts⟩ (tm_byteAt l dC dI H.size h0 z_18 ((u15_0 - 8)) ((f109 (((12 * (u15_0 - 8)) + u15_1) : Int32).toNatClampNeg)) qf100 cf100 f100 nf u19_0 hln_18 hfk_18_100 hu_19) (cwV 2 hts gv_h9_58 rfl rfl rfl (by decide +kernel) ⟨Nat.le_of_ble_eq_true rfl, Nat.le_of_ble_eq_true rfl⟩) ⟨fun a U g mk q => by obtain ⟨q0, q1, qP, qK, qD⟩ := q; exact ⟨q0, q1, qP, va_K.moved (u := U) (U := U.calling g mk a) (Vm.Alike.refl U.vm) qK, qD⟩, va_recv hKc hPc (ci := 13) (q0 := 0) rfl rfl, fun U hU hW => ⟨rfl, by rw [hU], by rw [hU]; exact hPc, va_K.moved hW.alike hKc, hDc.weaken (fun _ _ _ _ => trivial)⟩⟩ rfl rfl hl.1 rfl (lv_room (Nat.le_of_ble_eq_true rfl)) dX13_right_341 ⟨Nat.le_of_ble_eq_true rfl, Nat.le_of_ble_eq_true rfl⟩) hS (fun q _ h => hFc q h) hFc ?_
          clear hS
          intro r_48 u t H1 locs ht hvm hw hB hz1 hk1 hS
          obtain ⟨z_19, rfl⟩ : ∃ z, z = u := ⟨_, rfl⟩
          obtain ⟨hP1, hK1, hD1⟩ := hB
          rw [ht] at hP1
          have hK1 := va_K.moved hvm.symm hK1
          try dsimp only at hw
          have hPD := va_join (wr := [(qf103, .inl (cf103, 8, .inl f103)), (qf118, .inl (cf118, 2100, .inl g118_244)), (qf119, .inl (cf119, 2100, .inl g119_244)), (qf105, .inl (cf105, 8, .inl f105)), (qf104, .inl (cf104, 8, .inl f104)), (qf106, .inl (cf106, 8, .inl f106)), (qf108, .inl (cf108, 8, .inl f108)), (qf107, .inl (cf107, 96, .inl f107)), (qf109, .inl (cf109, 96, .inl f109)), (qf102, .inl (cf102, 2048, .inl f102))]) (w1 := [(h0, .inr (13, z_19)), (qf100, .inl (cf100, 48000, .inl f100))]) hP hD [9, 11] [0, 1, 2, 3, 4, 5, 6, 7, 8, 10] rfl rfl (by decide) (by decide) hk1 hFc hP1 hD1
          clear hP hD
          obtain ⟨hP, hD⟩ := hPD
          replace hK := (hK.sub (tys' := [(cf103, .int), (cf118, .int), (cf119, .int), (cf105, .int), (cf104, .int), (cf106, .int), (cf108, .int), (cf107, .int), (cf109, .int), (cf102, .int)]) [0, 1, 2, 3, 4, 5, 6, 7, 8, 9] rfl).app hK1
          clear hPc hDc hKc hFc hP1 hK1 hD1 hz1 hk1 ht hvm
          generalize H1 = H at hP hS ⊢
          replace hP : va_P (dC, dI) vwCl [(qf103, .inl (cf103, 8, .inl f103)), (qf118, .inl (cf118, 2100, .inl g118_244)), (qf119, .inl (cf119, 2100, .inl g119_244)), (qf105, .inl (cf105, 8, .inl f105)), (qf104, .inl (cf104, 8, .inl f104)), (qf106, .inl (cf106, 8, .inl f106)), (qf108, .inl (cf108, 8, .inl f108)), (qf107, .inl (cf107, 96, .inl f107)), (qf109, .inl (cf109, 96, .inl f109)), (qf102, .inl (cf102, 2048, .inl f102)), (h0, .inr (13, z_19)), (qf100, .inl (cf100, 48000, .inl f100))] H := hP
          replace hD : va_D A [(qf103, .inl (cf103, 8, .inl f103)), (qf118, .inl (cf118, 2100, .inl g118_244)), (qf119, .inl (cf119, 2100, .inl g119_244)), (qf105, .inl (cf105, 8, .inl f105)), (qf104, .inl (cf104, 8, .inl f104)), (qf106, .inl (cf106, 8, .inl f106)), (qf108, .inl (cf108, 8, .inl f108)), (qf107, .inl (cf107, 96, .inl f107)), (qf109, .inl (cf109, 96, .inl f109)), (qf102, .inl (cf102, 2048, .inl f102)), (h0, .inr (13, z_19)), (qf100, .inl (cf100, 48000, .inl f100))] := hD
          replace hK : va_K (dC, dI) vwCl [(cf103, .int), (cf118, .int), (cf119, .int), (cf105, .int), (cf104, .int), (cf106, .int), (cf108, .int), (cf107, .int), (cf109, .int), (cf102, .int), (cf100, .int)] s := hK
          obtain ⟨hwa_19, hln_19, hre_19⟩ := hw
          have hfk_19_98 : z_19[98]? = some (.int v98) := (hre_19 98 ).trans (hfk_18_98)
          have hfk_19_100 : z_19[100]? = some (.ref qf100) := (hre_19 100 ).trans (hfk_18_100)
          have hfk_19_102 : z_19[102]? = some (.ref qf102) := (hre_19 102 ).trans (hfk_18_102)
          have hfk_19_103 : z_19[103]? = some (.ref qf103) := (hre_19 103 ).trans (hfk_18_103)
          have hfk_19_104 : z_19[104]? = some (.ref qf104) := (hre_19 104 ).trans (hfk_18_104)
          have hfk_19_105 : z_19[105]? = some (.ref qf105) := (hre_19 105 ).trans (hfk_18_105)
          have hfk_19_106 : z_19[106]? = some (.ref qf106) := (hre_19 106 ).trans (hfk_18_106)
          have hfk_19_107 : z_19[107]? = some (.ref qf107) := (hre_19 107 ).trans (hfk_18_107)
          have hfk_19_108 : z_19[108]? = some (.ref qf108) := (hre_19 108 ).trans (hfk_18_108)
          have hfk_19_109 : z_19[109]? = some (.ref qf109) := (hre_19 109 ).trans (hfk_18_109)
          have hfk_19_117 : z_19[117]? = some (.int x117_244) := (hre_19 117 ).trans (hfk_18_117)
          have hfk_19_118 : z_19[118]? = some (.ref qf118) := (hre_19 118 ).trans (hfk_18_118)
          have hfk_19_119 : z_19[119]? = some (.ref qf119) := (hre_19 119 ).trans (hfk_18_119)
          have hfk_19_120 : z_19[120]? = some (.int x120_244) := (hre_19 120 ).trans (hfk_18_120)
          have hfk_19_121 : z_19[121]? = some (.int u15_1) := (hre_19 121 ).trans (hfk_18_121)
          have hfk_19_132 : z_19[132]? = some (.int v132) := (hre_19 132 ).trans (hfk_18_132)
          have hfk_19_134 : z_19[134]? = some (.int v134) := (hre_19 134 ).trans (hfk_18_134)
          have hrq_19 : ∀ j : Nat, j ≠ 117 → j ≠ 120 → j ≠ 121 → z_19[j]? = zs[j]? := fun j g117 g120 g121 => (hre_19 j ).trans (hrq_18 j g117 g120 g121)
          obtain rfl := hwa_19
          refine lv_iload_n hx hb dX13_right_344 rfl (lv_at hl 4 rfl) ?_
          refine lv_sipush (v := 184) hx hb dX13_right_345 (by decide) ?_
          refine lv_icmp_ne (tgt := 355) hx hb dX13_right_348 (by decide) (fun c_49 => ?_) (fun c_49 => ?_)
          · rw [if_neg c_49] at hsp
            refine lv_iconst (v := 0) hx hb dX13_right_355 (by decide) ?_
            refine lv_icmp_ne (tgt := 363) hx hb dX13_right_356 (by decide) (fun c_50 => ?_) (fun c_50 => ?_)
            · rw [if_neg c_50] at hsp
              refine lv_iconst (v := 0) hx hb dX13_right_363 (by decide) ?_
              have hr0 := Option.some.inj hsp
              clear hsp
              obtain ⟨hq0, hr1⟩ := Prod.mk.inj hr0
              clear hr0
              obtain ⟨hq1, hr2⟩ := Prod.mk.inj hr1
              clear hr1
              obtain ⟨hq2, hr3⟩ := Prod.mk.inj hr2
              clear hr2
              obtain ⟨hq3, hr4⟩ := Prod.mk.inj hr3
              clear hr3
              obtain ⟨hq4, hr5⟩ := Prod.mk.inj hr4
              clear hr4
              subst hq0
              subst hq1
              subst hq2
              subst hq3
              subst hq4
              subst hr5
              have hP9 := hP.sub (ws' := [(h0, .inr (13, z_19)), (qf100, .inl (cf100, 48000, .inl f100)), (qf103, .inl (cf103, 8, .inl f103)), (qf102, .inl (cf102, 2048, .inl f102)), (qf104, .inl (cf104, 8, .inl f104)), (qf118, .inl (cf118, 2100, .inl g118_244)), (qf119, .inl (cf119, 2100, .inl g119_244)), (qf105, .inl (cf105, 8, .inl f105)), (qf106, .inl (cf106, 8, .inl f106)), (qf108, .inl (cf108, 8, .inl f108)), (qf107, .inl (cf107, 96, .inl f107)), (qf109, .inl (cf109, 96, .inl f109))]) [10, 11, 0, 9, 4, 1, 2, 3, 5, 6, 7, 8] rfl
              have hD9 := hD.sub (ws' := [(h0, .inr (13, z_19)), (qf100, .inl (cf100, 48000, .inl f100)), (qf103, .inl (cf103, 8, .inl f103)), (qf102, .inl (cf102, 2048, .inl f102)), (qf104, .inl (cf104, 8, .inl f104)), (qf118, .inl (cf118, 2100, .inl g118_244)), (qf119, .inl (cf119, 2100, .inl g119_244)), (qf105, .inl (cf105, 8, .inl f105)), (qf106, .inl (cf106, 8, .inl f106)), (qf108, .inl (cf108, 8, .inl f108)), (qf107, .inl (cf107, 96, .inl f107)), (qf109, .inl (cf109, 96, .inl f109))]) [10, 11, 0, 9, 4, 1, 2, 3, 5, 6, 7, 8] (by decide) rfl
              have hK9 := hK.sub (tys' := [(cf100, .int), (cf103, .int), (cf102, .int), (cf104, .int), (cf118, .int), (cf119, .int), (cf105, .int), (cf106, .int), (cf108, .int), (cf107, .int), (cf109, .int)]) [10, 0, 9, 4, 1, 2, 3, 5, 6, 7, 8] rfl
              exact W.zret hx hb hr (by decide) (fun t ht hW => ⟨⟨(0), (z_19), rfl, ⟨⟨rfl, Or.inl rfl⟩, hln_19, hrq_19, hfk_19_117, hfk_19_120, hfk_19_121⟩, by rw [ht]; exact hP9, va_K.moved hW.alike hK9, hD9⟩, hS.F ht⟩) hS.2.2 dX13_right_364
            · rw [if_pos c_50] at hsp
              refine lv_iconst (v := 1) hx hb dX13_right_359 (by decide) ?_
              refine lv_goto (tgt := 364) hx hb dX13_right_360 (by decide) ?_
              have hr0 := Option.some.inj hsp
              clear hsp
              obtain ⟨hq0, hr1⟩ := Prod.mk.inj hr0
              clear hr0
              obtain ⟨hq1, hr2⟩ := Prod.mk.inj hr1
              clear hr1
              obtain ⟨hq2, hr3⟩ := Prod.mk.inj hr2
              clear hr2
              obtain ⟨hq3, hr4⟩ := Prod.mk.inj hr3
              clear hr3
              obtain ⟨hq4, hr5⟩ := Prod.mk.inj hr4
              clear hr4
              subst hq0
              subst hq1
              subst hq2
              subst hq3
              subst hq4
              subst hr5
              have hP9 := hP.sub (ws' := [(h0, .inr (13, z_19)), (qf100, .inl (cf100, 48000, .inl f100)), (qf103, .inl (cf103, 8, .inl f103)), (qf102, .inl (cf102, 2048, .inl f102)), (qf104, .inl (cf104, 8, .inl f104)), (qf118, .inl (cf118, 2100, .inl g118_244)), (qf119, .inl (cf119, 2100, .inl g119_244)), (qf105, .inl (cf105, 8, .inl f105)), (qf106, .inl (cf106, 8, .inl f106)), (qf108, .inl (cf108, 8, .inl f108)), (qf107, .inl (cf107, 96, .inl f107)), (qf109, .inl (cf109, 96, .inl f109))]) [10, 11, 0, 9, 4, 1, 2, 3, 5, 6, 7, 8] rfl
              have hD9 := hD.sub (ws' := [(h0, .inr (13, z_19)), (qf100, .inl (cf100, 48000, .inl f100)), (qf103, .inl (cf103, 8, .inl f103)), (qf102, .inl (cf102, 2048, .inl f102)), (qf104, .inl (cf104, 8, .inl f104)), (qf118, .inl (cf118, 2100, .inl g118_244)), (qf119, .inl (cf119, 2100, .inl g119_244)), (qf105, .inl (cf105, 8, .inl f105)), (qf106, .inl (cf106, 8, .inl f106)), (qf108, .inl (cf108, 8, .inl f108)), (qf107, .inl (cf107, 96, .inl f107)), (qf109, .inl (cf109, 96, .inl f109))]) [10, 11, 0, 9, 4, 1, 2, 3, 5, 6, 7, 8] (by decide) rfl
              have hK9 := hK.sub (tys' := [(cf100, .int), (cf103, .int), (cf102, .int), (cf104, .int), (cf118, .int), (cf119, .int), (cf105, .int), (cf106, .int), (cf108, .int), (cf107, .int), (cf109, .int)]) [10, 0, 9, 4, 1, 2, 3, 5, 6, 7, 8] rfl
              exact W.zret hx hb hr (by decide) (fun t ht hW => ⟨⟨(1), (z_19), rfl, ⟨⟨rfl, Or.inr rfl⟩, hln_19, hrq_19, hfk_19_117, hfk_19_120, hfk_19_121⟩, by rw [ht]; exact hP9, va_K.moved hW.alike hK9, hD9⟩, hS.F ht⟩) hS.2.2 dX13_right_364
          · rw [if_pos c_49] at hsp
            refine lv_iconst (v := 1) hx hb dX13_right_351 (by decide) ?_
            refine lv_goto (tgt := 356) hx hb dX13_right_352 (by decide) ?_
            refine lv_icmp_ne (tgt := 363) hx hb dX13_right_356 (by decide) (fun c_51 => ?_) (fun c_51 => ?_)
            · rw [if_neg c_51] at hsp
              refine lv_iconst (v := 0) hx hb dX13_right_363 (by decide) ?_
              have hr0 := Option.some.inj hsp
              clear hsp
              obtain ⟨hq0, hr1⟩ := Prod.mk.inj hr0
              clear hr0
              obtain ⟨hq1, hr2⟩ := Prod.mk.inj hr1
              clear hr1
              obtain ⟨hq2, hr3⟩ := Prod.mk.inj hr2
              clear hr2
              obtain ⟨hq3, hr4⟩ := Prod.mk.inj hr3
              clear hr3
              obtain ⟨hq4, hr5⟩ := Prod.mk.inj hr4
              clear hr4
              subst hq0
              subst hq1
              subst hq2
              subst hq3
              subst hq4
              subst hr5
              have hP9 := hP.sub (ws' := [(h0, .inr (13, z_19)), (qf100, .inl (cf100, 48000, .inl f100)), (qf103, .inl (cf103, 8, .inl f103)), (qf102, .inl (cf102, 2048, .inl f102)), (qf104, .inl (cf104, 8, .inl f104)), (qf118, .inl (cf118, 2100, .inl g118_244)), (qf119, .inl (cf119, 2100, .inl g119_244)), (qf105, .inl (cf105, 8, .inl f105)), (qf106, .inl (cf106, 8, .inl f106)), (qf108, .inl (cf108, 8, .inl f108)), (qf107, .inl (cf107, 96, .inl f107)), (qf109, .inl (cf109, 96, .inl f109))]) [10, 11, 0, 9, 4, 1, 2, 3, 5, 6, 7, 8] rfl
              have hD9 := hD.sub (ws' := [(h0, .inr (13, z_19)), (qf100, .inl (cf100, 48000, .inl f100)), (qf103, .inl (cf103, 8, .inl f103)), (qf102, .inl (cf102, 2048, .inl f102)), (qf104, .inl (cf104, 8, .inl f104)), (qf118, .inl (cf118, 2100, .inl g118_244)), (qf119, .inl (cf119, 2100, .inl g119_244)), (qf105, .inl (cf105, 8, .inl f105)), (qf106, .inl (cf106, 8, .inl f106)), (qf108, .inl (cf108, 8, .inl f108)), (qf107, .inl (cf107, 96, .inl f107)), (qf109, .inl (cf109, 96, .inl f109))]) [10, 11, 0, 9, 4, 1, 2, 3, 5, 6, 7, 8] (by decide) rfl
              have hK9 := hK.sub (tys' := [(cf100, .int), (cf103, .int), (cf102, .int), (cf104, .int), (cf118, .int), (cf119, .int), (cf105, .int), (cf106, .int), (cf108, .int), (cf107, .int), (cf109, .int)]) [10, 0, 9, 4, 1, 2, 3, 5, 6, 7, 8] rfl
              exact W.zret hx hb hr (by decide) (fun t ht hW => ⟨⟨(0), (z_19), rfl, ⟨⟨rfl, Or.inl rfl⟩, hln_19, hrq_19, hfk_19_117, hfk_19_120, hfk_19_121⟩, by rw [ht]; exact hP9, va_K.moved hW.alike hK9, hD9⟩, hS.F ht⟩) hS.2.2 dX13_right_364
            · rw [if_pos c_51] at hsp
              refine lv_iconst (v := 1) hx hb dX13_right_359 (by decide) ?_
              refine lv_goto (tgt := 364) hx hb dX13_right_360 (by decide) ?_
              have hr0 := Option.some.inj hsp
              clear hsp
              obtain ⟨hq0, hr1⟩ := Prod.mk.inj hr0
              clear hr0
              obtain ⟨hq1, hr2⟩ := Prod.mk.inj hr1
              clear hr1
              obtain ⟨hq2, hr3⟩ := Prod.mk.inj hr2
              clear hr2
              obtain ⟨hq3, hr4⟩ := Prod.mk.inj hr3
              clear hr3
              obtain ⟨hq4, hr5⟩ := Prod.mk.inj hr4
              clear hr4
              subst hq0
              subst hq1
              subst hq2
              subst hq3
              subst hq4
              subst hr5
              have hP9 := hP.sub (ws' := [(h0, .inr (13, z_19)), (qf100, .inl (cf100, 48000, .inl f100)), (qf103, .inl (cf103, 8, .inl f103)), (qf102, .inl (cf102, 2048, .inl f102)), (qf104, .inl (cf104, 8, .inl f104)), (qf118, .inl (cf118, 2100, .inl g118_244)), (qf119, .inl (cf119, 2100, .inl g119_244)), (qf105, .inl (cf105, 8, .inl f105)), (qf106, .inl (cf106, 8, .inl f106)), (qf108, .inl (cf108, 8, .inl f108)), (qf107, .inl (cf107, 96, .inl f107)), (qf109, .inl (cf109, 96, .inl f109))]) [10, 11, 0, 9, 4, 1, 2, 3, 5, 6, 7, 8] rfl
              have hD9 := hD.sub (ws' := [(h0, .inr (13, z_19)), (qf100, .inl (cf100, 48000, .inl f100)), (qf103, .inl (cf103, 8, .inl f103)), (qf102, .inl (cf102, 2048, .inl f102)), (qf104, .inl (cf104, 8, .inl f104)), (qf118, .inl (cf118, 2100, .inl g118_244)), (qf119, .inl (cf119, 2100, .inl g119_244)), (qf105, .inl (cf105, 8, .inl f105)), (qf106, .inl (cf106, 8, .inl f106)), (qf108, .inl (cf108, 8, .inl f108)), (qf107, .inl (cf107, 96, .inl f107)), (qf109, .inl (cf109, 96, .inl f109))]) [10, 11, 0, 9, 4, 1, 2, 3, 5, 6, 7, 8] (by decide) rfl
              have hK9 := hK.sub (tys' := [(cf100, .int), (cf103, .int), (cf102, .int), (cf104, .int), (cf118, .int), (cf119, .int), (cf105, .int), (cf106, .int), (cf108, .int), (cf107, .int), (cf109, .int)]) [10, 0, 9, 4, 1, 2, 3, 5, 6, 7, 8] rfl
              exact W.zret hx hb hr (by decide) (fun t ht hW => ⟨⟨(1), (z_19), rfl, ⟨⟨rfl, Or.inr rfl⟩, hln_19, hrq_19, hfk_19_117, hfk_19_120, hfk_19_121⟩, by rw [ht]; exact hP9, va_K.moved hW.alike hK9, hD9⟩, hS.F ht⟩) hS.2.2 dX13_right_364
    · rw [if_pos c_40] at hsp
      refine lv_iconst (v := 0) hx hb dX13_right_276 (by decide) ?_
      have hr0 := Option.some.inj hsp
      clear hsp
      obtain ⟨hq0, hr1⟩ := Prod.mk.inj hr0
      clear hr0
      obtain ⟨hq1, hr2⟩ := Prod.mk.inj hr1
      clear hr1
      obtain ⟨hq2, hr3⟩ := Prod.mk.inj hr2
      clear hr2
      obtain ⟨hq3, hr4⟩ := Prod.mk.inj hr3
      clear hr3
      obtain ⟨hq4, hr5⟩ := Prod.mk.inj hr4
      clear hr4
      subst hq0
      subst hq1
      subst hq2
      subst hq3
      subst hq4
      subst hr5
      have hP9 := hP.sub (ws' := [(h0, .inr (13, z_15)), (qf100, .inl (cf100, 48000, .inl f100)), (qf103, .inl (cf103, 8, .inl f103)), (qf102, .inl (cf102, 2048, .inl f102)), (qf104, .inl (cf104, 8, .inl f104)), (qf118, .inl (cf118, 2100, .inl g118_244)), (qf119, .inl (cf119, 2100, .inl g119_244)), (qf105, .inl (cf105, 8, .inl f105)), (qf106, .inl (cf106, 8, .inl f106)), (qf108, .inl (cf108, 8, .inl f108)), (qf107, .inl (cf107, 96, .inl f107)), (qf109, .inl (cf109, 96, .inl f109))]) [3, 6, 0, 5, 7, 1, 2, 4, 8, 9, 10, 11] rfl
      have hD9 := hD.sub (ws' := [(h0, .inr (13, z_15)), (qf100, .inl (cf100, 48000, .inl f100)), (qf103, .inl (cf103, 8, .inl f103)), (qf102, .inl (cf102, 2048, .inl f102)), (qf104, .inl (cf104, 8, .inl f104)), (qf118, .inl (cf118, 2100, .inl g118_244)), (qf119, .inl (cf119, 2100, .inl g119_244)), (qf105, .inl (cf105, 8, .inl f105)), (qf106, .inl (cf106, 8, .inl f106)), (qf108, .inl (cf108, 8, .inl f108)), (qf107, .inl (cf107, 96, .inl f107)), (qf109, .inl (cf109, 96, .inl f109))]) [3, 6, 0, 5, 7, 1, 2, 4, 8, 9, 10, 11] (by decide) rfl
      have hK9 := hK.sub (tys' := [(cf100, .int), (cf103, .int), (cf102, .int), (cf104, .int), (cf118, .int), (cf119, .int), (cf105, .int), (cf106, .int), (cf108, .int), (cf107, .int), (cf109, .int)]) [5, 0, 4, 6, 1, 2, 3, 7, 8, 9, 10] rfl
      exact W.zret hx hb hr (by decide) (fun t ht hW => ⟨⟨(0), (z_15), rfl, ⟨⟨rfl, Or.inl rfl⟩, hln_15, hrq_15, hfk_15_117, hfk_15_120, hch_15_121⟩, by rw [ht]; exact hP9, va_K.moved hW.alike hK9, hD9⟩, hS.F ht⟩) hS.2.2 dX13_right_277
  intro hj_244
  refine jn_use (α := Heap × List Loc × Array Slot × List Value × Int32 × Int32 × (Nat → Int32) × (Nat → Int32) × Int32 × Int32 × Int32) (fun x9 => x9.1) (fun x9 => x9.2.1) (fun x9 => F0 m 187 x9.2.2.1 []) (fun x9 => match x9 with | (H, locs, ls, z187, l2_187, l3_187, g118_187, g119_187, x117_187, x120_187, x121_187) => lv_has ls 9 [(0, .ref h0), (2, .int l2_187), (3, .int l3_187)] ∧ va_S A s.heap H locs ∧ va_D A [(h0, .inr (13, z187)), (qf100, .inl (cf100, 48000, .inl f100)), (qf103, .inl (cf103, 8, .inl f103)), (qf102, .inl (cf102, 2048, .inl f102)), (qf104, .inl (cf104, 8, .inl f104)), (qf118, .inl (cf118, 2100, .inl g118_187)), (qf119, .inl (cf119, 2100, .inl g119_187)), (qf105, .inl (cf105, 8, .inl f105)), (qf106, .inl (cf106, 8, .inl f106)), (qf108, .inl (cf108, 8, .inl f108)), (qf107, .inl (cf107, 96, .inl f107)), (qf109, .inl (cf109, 96, .inl f109))] ∧ va_P (dC, dI) vwCl [(h0, .inr (13, z187)), (qf100, .inl (cf100, 48000, .inl f100)), (qf103, .inl (cf103, 8, .inl f103)), (qf102, .inl (cf102, 2048, .inl f102)), (qf104, .inl (cf104, 8, .inl f104)), (qf118, .inl (cf118, 2100, .inl g118_187)), (qf119, .inl (cf119, 2100, .inl g119_187)), (qf105, .inl (cf105, 8, .inl f105)), (qf106, .inl (cf106, 8, .inl f106)), (qf108, .inl (cf108, 8, .inl f108)), (qf107, .inl (cf107, 96, .inl f107)), (qf109, .inl (cf109, 96, .inl f109))] H ∧ z187[98]? = some (.int v98) ∧ z187[100]? = some (.ref qf100) ∧ z187[102]? = some (.ref qf102) ∧ z187[103]? = some (.ref qf103) ∧ z187[104]? = some (.ref qf104) ∧ z187[105]? = some (.ref qf105) ∧ z187[106]? = some (.ref qf106) ∧ z187[107]? = some (.ref qf107) ∧ z187[108]? = some (.ref qf108) ∧ z187[109]? = some (.ref qf109) ∧ z187[117]? = some (.int x117_187) ∧ z187[118]? = some (.ref qf118) ∧ z187[119]? = some (.ref qf119) ∧ z187[120]? = some (.int x120_187) ∧ z187[121]? = some (.int x121_187) ∧ z187[132]? = some (.int v132) ∧ z187[134]? = some (.int v134) ∧ z187.length = 155 ∧ (∀ j : Nat, j ≠ 117 → j ≠ 120 → j ≠ 121 → z187[j]? = zs[j]?) ∧ jn_vm_right_187 nf a1 v98 v117 v120 v121 v132 v134 f100 f103 f102 f104 f118 f119 f105 f106 f108 f107 f109 nS477 fS477 l2_187 l3_187 g118_187 g119_187 x117_187 x120_187 x121_187 = some (r0, o118, o119, w117, w120, w121)) ?_ ?_
  · intro x9 hJ9
    obtain ⟨H, locs, ls, z187, l2_187, l3_187, g118_187, g119_187, x117_187, x120_187, x121_187⟩ := x9
    obtain ⟨hl, hS, hD, hP, hfh_187_98, hfh_187_100, hfh_187_102, hfh_187_103, hfh_187_104, hfh_187_105, hfh_187_106, hfh_187_107, hfh_187_108, hfh_187_109, hfh_187_117, hfh_187_118, hfh_187_119, hfh_187_120, hfh_187_121, hfh_187_132, hfh_187_134, hlh_187, hrh_187, hsp⟩ := hJ9
    replace hl : lv_has ls 9 [(0, .ref h0), (2, .int l2_187), (3, .int l3_187)] := hl
    replace hS : va_S A s.heap H locs := hS
    replace hD : va_D A [(h0, .inr (13, z187)), (qf100, .inl (cf100, 48000, .inl f100)), (qf103, .inl (cf103, 8, .inl f103)), (qf102, .inl (cf102, 2048, .inl f102)), (qf104, .inl (cf104, 8, .inl f104)), (qf118, .inl (cf118, 2100, .inl g118_187)), (qf119, .inl (cf119, 2100, .inl g119_187)), (qf105, .inl (cf105, 8, .inl f105)), (qf106, .inl (cf106, 8, .inl f106)), (qf108, .inl (cf108, 8, .inl f108)), (qf107, .inl (cf107, 96, .inl f107)), (qf109, .inl (cf109, 96, .inl f109))] := hD
    replace hP : va_P (dC, dI) vwCl [(h0, .inr (13, z187)), (qf100, .inl (cf100, 48000, .inl f100)), (qf103, .inl (cf103, 8, .inl f103)), (qf102, .inl (cf102, 2048, .inl f102)), (qf104, .inl (cf104, 8, .inl f104)), (qf118, .inl (cf118, 2100, .inl g118_187)), (qf119, .inl (cf119, 2100, .inl g119_187)), (qf105, .inl (cf105, 8, .inl f105)), (qf106, .inl (cf106, 8, .inl f106)), (qf108, .inl (cf108, 8, .inl f108)), (qf107, .inl (cf107, 96, .inl f107)), (qf109, .inl (cf109, 96, .inl f109))] H := hP
    replace hsp : jn_vm_right_187 nf a1 v98 v117 v120 v121 v132 v134 f100 f103 f102 f104 f118 f119 f105 f106 f108 f107 f109 nS477 fS477 l2_187 l3_187 g118_187 g119_187 x117_187 x120_187 x121_187 = some (r0, o118, o119, w117, w120, w121) := hsp
    show W _ _ _ _ _ _ _ _ _ _ H locs _ _ _ (F0 m 187 ls [])
    unfold jn_vm_right_187 at hsp
    try dsimp only at hsp
    refine lv_aload_n hx hb dX13_right_187 rfl (lv_at hl 0 rfl) ?_
    refine lv_iload_n hx hb dX13_right_188 rfl (lv_at hl 2 rfl) ?_
    obtain ⟨u9_0, hu_9, hsp⟩ := ox_bind hsp
    try dsimp only at hsp
    have hPc := hP.sub (ws' := [(h0, .inr (13, z187)), (qf103, .inl (cf103, 8, .inl f103)), (qf102, .inl (cf102, 2048, .inl f102)), (qf100, .inl (cf100, 48000, .inl f100))]) [0, 2, 3, 1] rfl
    have hDc := hD.sub (ws' := [(h0, .inr (13, z187)), (qf103, .inl (cf103, 8, .inl f103)), (qf102, .inl (cf102, 2048, .inl f102)), (qf100, .inl (cf100, 48000, .inl f100))]) [0, 2, 3, 1] (by decide) rfl
    have hKc := hK.sub (tys' := [(cf103, .int), (cf102, .int), (cf100, .int)]) [1, 2, 0] rfl
    have hFc := va_free (wc := [(h0, .inr (13, z187)), (qf103, .inl (cf103, 8, .inl f103)), (qf102, .inl (cf102, 2048, .inl f102)), (qf100, .inl (cf100, 48000, .inl f100))]) hD hS hA [0, 2, 3, 1] rfl
    refine va_calli (va_runV (As := [.int l3_187]) (rest := []) ⟨hx, hb, hml, hown, hts⟩ (tm_sortOf l dC dI H.size h0 z187 l3_187 qf100 qf102 qf103 v132 cf103 f103 cf102 f102 cf100 f100 nf u9_0 hlh_187 hfh_187_100 hfh_187_102 hfh_187_103 hfh_187_132 hu_9) (cwV 1 hts gv_h9_67 rfl rfl rfl (by decide +kernel) ⟨Nat.le_of_ble_eq_true rfl, Nat.le_of_ble_eq_true rfl⟩) ⟨fun a U g mk q => by obtain ⟨q0, q1, qP, qK, qD⟩ := q; exact ⟨q0, q1, qP, va_K.moved (u := U) (U := U.calling g mk a) (Vm.Alike.refl U.vm) qK, qD⟩, va_recv hKc hPc (ci := 13) (q0 := 0) rfl rfl, fun U hU hW => ⟨rfl, by rw [hU], by rw [hU]; exact hPc, va_K.moved hW.alike hKc, hDc.weaken (fun _ _ _ _ => trivial)⟩⟩ rfl rfl hl.1 rfl (lv_room (Nat.le_of_ble_eq_true rfl)) dX13_right_189 ⟨Nat.le_of_ble_eq_true rfl, Nat.le_of_ble_eq_true rfl⟩) hS (fun q _ h => hFc q h) hFc ?_
    clear hS
    intro r_27 u t H1 locs ht hvm hw hB hz1 hk1 hS
    obtain ⟨z_9, rfl⟩ : ∃ z, z = u := ⟨_, rfl⟩
    obtain ⟨hP1, hK1, hD1⟩ := hB
    rw [ht] at hP1
    have hK1 := va_K.moved hvm.symm hK1
    try dsimp only at hw
    have hPD := va_join (wr := [(qf104, .inl (cf104, 8, .inl f104)), (qf118, .inl (cf118, 2100, .inl g118_187)), (qf119, .inl (cf119, 2100, .inl g119_187)), (qf105, .inl (cf105, 8, .inl f105)), (qf106, .inl (cf106, 8, .inl f106)), (qf108, .inl (cf108, 8, .inl f108)), (qf107, .inl (cf107, 96, .inl f107)), (qf109, .inl (cf109, 96, .inl f109))]) (w1 := [(h0, .inr (13, z_9)), (qf103, .inl (cf103, 8, .inl f103)), (qf102, .inl (cf102, 2048, .inl f102)), (qf100, .inl (cf100, 48000, .inl f100))]) hP hD [0, 2, 3, 1] [4, 5, 6, 7, 8, 9, 10, 11] rfl rfl (by decide) (by decide) hk1 hFc hP1 hD1
    clear hP hD
    obtain ⟨hP, hD⟩ := hPD
    replace hK := (hK.sub (tys' := [(cf104, .int), (cf118, .int), (cf119, .int), (cf105, .int), (cf106, .int), (cf108, .int), (cf107, .int), (cf109, .int)]) [3, 4, 5, 6, 7, 8, 9, 10] rfl).app hK1
    clear hPc hDc hKc hFc hP1 hK1 hD1 hz1 hk1 ht hvm
    generalize H1 = H at hP hS ⊢
    replace hP : va_P (dC, dI) vwCl [(qf104, .inl (cf104, 8, .inl f104)), (qf118, .inl (cf118, 2100, .inl g118_187)), (qf119, .inl (cf119, 2100, .inl g119_187)), (qf105, .inl (cf105, 8, .inl f105)), (qf106, .inl (cf106, 8, .inl f106)), (qf108, .inl (cf108, 8, .inl f108)), (qf107, .inl (cf107, 96, .inl f107)), (qf109, .inl (cf109, 96, .inl f109)), (h0, .inr (13, z_9)), (qf103, .inl (cf103, 8, .inl f103)), (qf102, .inl (cf102, 2048, .inl f102)), (qf100, .inl (cf100, 48000, .inl f100))] H := hP
    replace hD : va_D A [(qf104, .inl (cf104, 8, .inl f104)), (qf118, .inl (cf118, 2100, .inl g118_187)), (qf119, .inl (cf119, 2100, .inl g119_187)), (qf105, .inl (cf105, 8, .inl f105)), (qf106, .inl (cf106, 8, .inl f106)), (qf108, .inl (cf108, 8, .inl f108)), (qf107, .inl (cf107, 96, .inl f107)), (qf109, .inl (cf109, 96, .inl f109)), (h0, .inr (13, z_9)), (qf103, .inl (cf103, 8, .inl f103)), (qf102, .inl (cf102, 2048, .inl f102)), (qf100, .inl (cf100, 48000, .inl f100))] := hD
    replace hK : va_K (dC, dI) vwCl [(cf104, .int), (cf118, .int), (cf119, .int), (cf105, .int), (cf106, .int), (cf108, .int), (cf107, .int), (cf109, .int), (cf103, .int), (cf102, .int), (cf100, .int)] s := hK
    obtain ⟨hwa_9, hln_9, hre_9⟩ := hw
    have hfk_9_98 : z_9[98]? = some (.int v98) := (hre_9 98 ).trans (hfh_187_98)
    have hfk_9_100 : z_9[100]? = some (.ref qf100) := (hre_9 100 ).trans (hfh_187_100)
    have hfk_9_102 : z_9[102]? = some (.ref qf102) := (hre_9 102 ).trans (hfh_187_102)
    have hfk_9_103 : z_9[103]? = some (.ref qf103) := (hre_9 103 ).trans (hfh_187_103)
    have hfk_9_104 : z_9[104]? = some (.ref qf104) := (hre_9 104 ).trans (hfh_187_104)
    have hfk_9_105 : z_9[105]? = some (.ref qf105) := (hre_9 105 ).trans (hfh_187_105)
    have hfk_9_106 : z_9[106]? = some (.ref qf106) := (hre_9 106 ).trans (hfh_187_106)
    have hfk_9_107 : z_9[107]? = some (.ref qf107) := (hre_9 107 ).trans (hfh_187_107)
    have hfk_9_108 : z_9[108]? = some (.ref qf108) := (hre_9 108 ).trans (hfh_187_108)
    have hfk_9_109 : z_9[109]? = some (.ref qf109) := (hre_9 109 ).trans (hfh_187_109)
    have hfk_9_117 : z_9[117]? = some (.int x117_187) := (hre_9 117 ).trans (hfh_187_117)
    have hfk_9_118 : z_9[118]? = some (.ref qf118) := (hre_9 118 ).trans (hfh_187_118)
    have hfk_9_119 : z_9[119]? = some (.ref qf119) := (hre_9 119 ).trans (hfh_187_119)
    have hfk_9_120 : z_9[120]? = some (.int x120_187) := (hre_9 120 ).trans (hfh_187_120)
    have hfk_9_121 : z_9[121]? = some (.int x121_187) := (hre_9 121 ).trans (hfh_187_121)
    have hfk_9_132 : z_9[132]? = some (.int v132) := (hre_9 132 ).trans (hfh_187_132)
    have hfk_9_134 : z_9[134]? = some (.int v134) := (hre_9 134 ).trans (hfh_187_134)
    have hrq_9 : ∀ j : Nat, j ≠ 117 → j ≠ 120 → j ≠ 121 → z_9[j]? = zs[j]? := fun j g117 g120 g121 => (hre_9 j ).trans (hrh_187 j g117 g120 g121)
    obtain rfl := hwa_9
    refine lv_iconst (v := 4) hx hb dX13_right_192 (by decide) ?_
    refine lv_icmp_eq (tgt := 198) hx hb dX13_right_193 (by decide) (fun c_28 => ?_) (fun c_28 => ?_)
    · rw [if_pos c_28] at hsp
      refine lv_aload_n hx hb dX13_right_198 rfl (lv_at hl 0 rfl) ?_
      refine lv_aload_n hx hb dX13_right_199 rfl (lv_at hl 0 rfl) ?_
      refine va_get (D := (dC, dI)) (ci := 13) (v := .int v132) (C := RX13) (T := TX13) (N := 155) hx hb hts uV_h9_X13 hown hK hP 8 rfl rfl 132 (by decide) (hts (.fieldLink RX13 932 "ClassMillModel" "inClass" "I") mw_h9_533) (fun _ h9 => h9) hfk_9_132 dX13_right_200 ?_
      refine lv_aload_n hx hb dX13_right_203 rfl (lv_at hl 0 rfl) ?_
      refine lv_iload_n hx hb dX13_right_204 rfl (lv_at hl 2 rfl) ?_
      refine lv_iconst (v := 0) hx hb dX13_right_205 (by decide) ?_
      obtain ⟨u10_0, hu_10, hsp⟩ := ox_bind hsp
      try dsimp only at hsp
      have hPc := hP.sub (ws' := [(h0, .inr (13, z_9)), (qf102, .inl (cf102, 2048, .inl f102)), (qf100, .inl (cf100, 48000, .inl f100))]) [8, 10, 11] rfl
      have hDc := hD.sub (ws' := [(h0, .inr (13, z_9)), (qf102, .inl (cf102, 2048, .inl f102)), (qf100, .inl (cf100, 48000, .inl f100))]) [8, 10, 11] (by decide) rfl
      have hKc := hK.sub (tys' := [(cf102, .int), (cf100, .int)]) [9, 10] rfl
      have hFc := va_free (wc := [(h0, .inr (13, z_9)), (qf102, .inl (cf102, 2048, .inl f102)), (qf100, .inl (cf100, 48000, .inl f100))]) hD hS hA [8, 10, 11] rfl
      refine va_calli (va_runV (As := [.int l3_187, .int 0]) (rest := [.int v132, .ref h0]) ⟨hx, hb, hml, hown, hts⟩ (tm_partOf l dC dI H.size h0 z_9 l3_187 0 qf100 qf102 v132 cf102 f102 cf100 f100 nf u10_0 hln_9 hfk_9_100 hfk_9_102 hfk_9_132 hu_10) (cwV 2 hts gv_h9_72 rfl rfl rfl (by decide +kernel) ⟨Nat.le_of_ble_eq_true rfl, Nat.le_of_ble_eq_true rfl⟩) ⟨fun a U g mk q => by obtain ⟨q0, q1, qP, qK, qD⟩ := q; exact ⟨q0, q1, qP, va_K.moved (u := U) (U := U.calling g mk a) (Vm.Alike.refl U.vm) qK, qD⟩, va_recv hKc hPc (ci := 13) (q0 := 0) rfl rfl, fun U hU hW => ⟨rfl, by rw [hU], by rw [hU]; exact hPc, va_K.moved hW.alike hKc, hDc.weaken (fun _ _ _ _ => trivial)⟩⟩ rfl rfl hl.1 rfl (lv_room (Nat.le_of_ble_eq_true rfl)) dX13_right_206 ⟨Nat.le_of_ble_eq_true rfl, Nat.le_of_ble_eq_true rfl⟩) hS (fun q _ h => hFc q h) hFc ?_
      clear hS
      intro r_29 u t H1 locs ht hvm hw hB hz1 hk1 hS
      obtain ⟨z_10, rfl⟩ : ∃ z, z = u := ⟨_, rfl⟩
      obtain ⟨hP1, hK1, hD1⟩ := hB
      rw [ht] at hP1
      have hK1 := va_K.moved hvm.symm hK1
      try dsimp only at hw
      have hPD := va_join (wr := [(qf104, .inl (cf104, 8, .inl f104)), (qf118, .inl (cf118, 2100, .inl g118_187)), (qf119, .inl (cf119, 2100, .inl g119_187)), (qf105, .inl (cf105, 8, .inl f105)), (qf106, .inl (cf106, 8, .inl f106)), (qf108, .inl (cf108, 8, .inl f108)), (qf107, .inl (cf107, 96, .inl f107)), (qf109, .inl (cf109, 96, .inl f109)), (qf103, .inl (cf103, 8, .inl f103))]) (w1 := [(h0, .inr (13, z_10)), (qf102, .inl (cf102, 2048, .inl f102)), (qf100, .inl (cf100, 48000, .inl f100))]) hP hD [8, 10, 11] [0, 1, 2, 3, 4, 5, 6, 7, 9] rfl rfl (by decide) (by decide) hk1 hFc hP1 hD1
      clear hP hD
      obtain ⟨hP, hD⟩ := hPD
      replace hK := (hK.sub (tys' := [(cf104, .int), (cf118, .int), (cf119, .int), (cf105, .int), (cf106, .int), (cf108, .int), (cf107, .int), (cf109, .int), (cf103, .int)]) [0, 1, 2, 3, 4, 5, 6, 7, 8] rfl).app hK1
      clear hPc hDc hKc hFc hP1 hK1 hD1 hz1 hk1 ht hvm
      generalize H1 = H at hP hS ⊢
      replace hP : va_P (dC, dI) vwCl [(qf104, .inl (cf104, 8, .inl f104)), (qf118, .inl (cf118, 2100, .inl g118_187)), (qf119, .inl (cf119, 2100, .inl g119_187)), (qf105, .inl (cf105, 8, .inl f105)), (qf106, .inl (cf106, 8, .inl f106)), (qf108, .inl (cf108, 8, .inl f108)), (qf107, .inl (cf107, 96, .inl f107)), (qf109, .inl (cf109, 96, .inl f109)), (qf103, .inl (cf103, 8, .inl f103)), (h0, .inr (13, z_10)), (qf102, .inl (cf102, 2048, .inl f102)), (qf100, .inl (cf100, 48000, .inl f100))] H := hP
      replace hD : va_D A [(qf104, .inl (cf104, 8, .inl f104)), (qf118, .inl (cf118, 2100, .inl g118_187)), (qf119, .inl (cf119, 2100, .inl g119_187)), (qf105, .inl (cf105, 8, .inl f105)), (qf106, .inl (cf106, 8, .inl f106)), (qf108, .inl (cf108, 8, .inl f108)), (qf107, .inl (cf107, 96, .inl f107)), (qf109, .inl (cf109, 96, .inl f109)), (qf103, .inl (cf103, 8, .inl f103)), (h0, .inr (13, z_10)), (qf102, .inl (cf102, 2048, .inl f102)), (qf100, .inl (cf100, 48000, .inl f100))] := hD
      replace hK : va_K (dC, dI) vwCl [(cf104, .int), (cf118, .int), (cf119, .int), (cf105, .int), (cf106, .int), (cf108, .int), (cf107, .int), (cf109, .int), (cf103, .int), (cf102, .int), (cf100, .int)] s := hK
      obtain ⟨hwa_10, hln_10, hre_10⟩ := hw
      have hfk_10_98 : z_10[98]? = some (.int v98) := (hre_10 98 ).trans (hfk_9_98)
      have hfk_10_100 : z_10[100]? = some (.ref qf100) := (hre_10 100 ).trans (hfk_9_100)
      have hfk_10_102 : z_10[102]? = some (.ref qf102) := (hre_10 102 ).trans (hfk_9_102)
      have hfk_10_103 : z_10[103]? = some (.ref qf103) := (hre_10 103 ).trans (hfk_9_103)
      have hfk_10_104 : z_10[104]? = some (.ref qf104) := (hre_10 104 ).trans (hfk_9_104)
      have hfk_10_105 : z_10[105]? = some (.ref qf105) := (hre_10 105 ).trans (hfk_9_105)
      have hfk_10_106 : z_10[106]? = some (.ref qf106) := (hre_10 106 ).trans (hfk_9_106)
      have hfk_10_107 : z_10[107]? = some (.ref qf107) := (hre_10 107 ).trans (hfk_9_107)
      have hfk_10_108 : z_10[108]? = some (.ref qf108) := (hre_10 108 ).trans (hfk_9_108)
      have hfk_10_109 : z_10[109]? = some (.ref qf109) := (hre_10 109 ).trans (hfk_9_109)
      have hfk_10_117 : z_10[117]? = some (.int x117_187) := (hre_10 117 ).trans (hfk_9_117)
      have hfk_10_118 : z_10[118]? = some (.ref qf118) := (hre_10 118 ).trans (hfk_9_118)
      have hfk_10_119 : z_10[119]? = some (.ref qf119) := (hre_10 119 ).trans (hfk_9_119)
      have hfk_10_120 : z_10[120]? = some (.int x120_187) := (hre_10 120 ).trans (hfk_9_120)
      have hfk_10_121 : z_10[121]? = some (.int x121_187) := (hre_10 121 ).trans (hfk_9_121)
      have hfk_10_132 : z_10[132]? = some (.int v132) := (hre_10 132 ).trans (hfk_9_132)
      have hfk_10_134 : z_10[134]? = some (.int v134) := (hre_10 134 ).trans (hfk_9_134)
      have hrq_10 : ∀ j : Nat, j ≠ 117 → j ≠ 120 → j ≠ 121 → z_10[j]? = zs[j]? := fun j g117 g120 g121 => (hre_10 j ).trans (hrq_9 j g117 g120 g121)
      obtain rfl := hwa_10
      obtain ⟨⟨u11_0, g911_1, g911_2, u11_3, u11_4⟩, hu_11, hsp⟩ := ox_bind hsp
      try dsimp only at hsp
      have hPc := hP.sub (ws' := [(h0, .inr (13, z_10)), (qf102, .inl (cf102, 2048, .inl f102)), (qf100, .inl (cf100, 48000, .inl f100)), (qf104, .inl (cf104, 8, .inl f104)), (qf118, .inl (cf118, 2100, .inl g118_187)), (qf119, .inl (cf119, 2100, .inl g119_187))]) [9, 10, 11, 0, 1, 2] rfl
      have hDc := hD.sub (ws' := [(h0, .inr (13, z_10)), (qf102, .inl (cf102, 2048, .inl f102)), (qf100, .inl (cf100, 48000, .inl f100)), (qf104, .inl (cf104, 8, .inl f104)), (qf118, .inl (cf118, 2100, .inl g118_187)), (qf119, .inl (cf119, 2100, .inl g119_187))]) [9, 10, 11, 0, 1, 2] (by decide) rfl
      have hKc := hK.sub (tys' := [(cf102, .int), (cf100, .int), (cf104, .int), (cf118, .int), (cf119, .int)]) [9, 10, 0, 1, 2] rfl
      have hFc := va_free (wc := [(h0, .inr (13, z_10)), (qf102, .inl (cf102, 2048, .inl f102)), (qf100, .inl (cf100, 48000, .inl f100)), (qf104, .inl (cf104, 8, .inl f104)), (qf118, .inl (cf118, 2100, .inl g118_187)), (qf119, .inl (cf119, 2100, .inl g119_187))]) hD hS hA [9, 10, 11, 0, 1, 2] rfl
      refine va_calli (va_runV (As := [.int v132, .int u10_0]) (rest := []) ⟨hx, hb, hml, hown, hts⟩ (vm_typeOfClass l dC dI H.size h0 z_10 v132 u10_0 v98 qf100 qf102 qf104 x117_187 qf118 qf119 x120_187 cf102 f102 cf100 f100 cf104 f104 cf118 g118_187 cf119 g119_187 nS477 fS477 hS477 qS477 tS477 nf u11_0 g911_1 g911_2 u11_3 u11_4 hln_10 hfk_10_98 hfk_10_100 hfk_10_102 hfk_10_104 hfk_10_117 hfk_10_118 hfk_10_119 hfk_10_120 hu_11) (cwV 2 hts gv_h9_108 rfl rfl rfl (by decide +kernel) ⟨Nat.le_of_ble_eq_true rfl, Nat.le_of_ble_eq_true rfl⟩) ⟨fun a U g mk q => by obtain ⟨q0, q1, qP, qK, qD, qhZWS477, qhZRS477⟩ := q; exact ⟨q0, q1, qP, va_K.moved (u := U) (U := U.calling g mk a) (Vm.Alike.refl U.vm) qK, qD, pz_W.moved (u := U) (U := U.calling g mk a) (Vm.Alike.refl U.vm) qhZWS477, vk_R.same rfl qhZRS477⟩, va_recv hKc hPc (ci := 13) (q0 := 0) rfl rfl, fun U hU hW => ⟨rfl, by rw [hU], by rw [hU]; exact hPc, va_K.moved hW.alike hKc, hDc.weaken (fun _ _ _ _ => trivial), by rw [hU]; exact ((pz_W.moved hW.alike hZWS477).kept hS.2.1).narrow hFc, vk_R.warm hW hZRS477⟩⟩ rfl rfl hl.1 rfl (lv_room (Nat.le_of_ble_eq_true rfl)) dX13_right_209 ⟨Nat.le_of_ble_eq_true rfl, Nat.le_of_ble_eq_true rfl⟩) hS (fun q _ h => hFc q h) hFc ?_
      clear hS
      intro r_30 u t H1 locs ht hvm hw hB hz1 hk1 hS
      obtain ⟨z_11, rfl⟩ : ∃ z, z = u := ⟨_, rfl⟩
      obtain ⟨hP1, hK1, hD1⟩ := hB
      rw [ht] at hP1
      have hK1 := va_K.moved hvm.symm hK1
      try dsimp only at hw
      have hPD := va_join (wr := [(qf105, .inl (cf105, 8, .inl f105)), (qf106, .inl (cf106, 8, .inl f106)), (qf108, .inl (cf108, 8, .inl f108)), (qf107, .inl (cf107, 96, .inl f107)), (qf109, .inl (cf109, 96, .inl f109)), (qf103, .inl (cf103, 8, .inl f103))]) (w1 := [(h0, .inr (13, z_11)), (qf102, .inl (cf102, 2048, .inl f102)), (qf100, .inl (cf100, 48000, .inl f100)), (qf104, .inl (cf104, 8, .inl f104)), (qf118, .inl (cf118, 2100, .inl g911_1)), (qf119, .inl (cf119, 2100, .inl g911_2))]) hP hD [9, 10, 11, 0, 1, 2] [3, 4, 5, 6, 7, 8] rfl rfl (by decide) (by decide) hk1 hFc hP1 hD1
      clear hP hD
      obtain ⟨hP, hD⟩ := hPD
      replace hK := (hK.sub (tys' := [(cf105, .int), (cf106, .int), (cf108, .int), (cf107, .int), (cf109, .int), (cf103, .int)]) [3, 4, 5, 6, 7, 8] rfl).app hK1
      clear hPc hDc hKc hFc hP1 hK1 hD1 hz1 hk1 ht hvm
      generalize H1 = H at hP hS ⊢
      replace hP : va_P (dC, dI) vwCl [(qf105, .inl (cf105, 8, .inl f105)), (qf106, .inl (cf106, 8, .inl f106)), (qf108, .inl (cf108, 8, .inl f108)), (qf107, .inl (cf107, 96, .inl f107)), (qf109, .inl (cf109, 96, .inl f109)), (qf103, .inl (cf103, 8, .inl f103)), (h0, .inr (13, z_11)), (qf102, .inl (cf102, 2048, .inl f102)), (qf100, .inl (cf100, 48000, .inl f100)), (qf104, .inl (cf104, 8, .inl f104)), (qf118, .inl (cf118, 2100, .inl g911_1)), (qf119, .inl (cf119, 2100, .inl g911_2))] H := hP
      replace hD : va_D A [(qf105, .inl (cf105, 8, .inl f105)), (qf106, .inl (cf106, 8, .inl f106)), (qf108, .inl (cf108, 8, .inl f108)), (qf107, .inl (cf107, 96, .inl f107)), (qf109, .inl (cf109, 96, .inl f109)), (qf103, .inl (cf103, 8, .inl f103)), (h0, .inr (13, z_11)), (qf102, .inl (cf102, 2048, .inl f102)), (qf100, .inl (cf100, 48000, .inl f100)), (qf104, .inl (cf104, 8, .inl f104)), (qf118, .inl (cf118, 2100, .inl g911_1)), (qf119, .inl (cf119, 2100, .inl g911_2))] := hD
      replace hK : va_K (dC, dI) vwCl [(cf105, .int), (cf106, .int), (cf108, .int), (cf107, .int), (cf109, .int), (cf103, .int), (cf102, .int), (cf100, .int), (cf104, .int), (cf118, .int), (cf119, .int)] s := hK
      obtain ⟨hwa_11, hln_11, hre_11, hch_11_117, hch_11_120⟩ := hw
      have hfk_11_98 : z_11[98]? = some (.int v98) := (hre_11 98 (by decide) (by decide)).trans (hfk_10_98)
      have hfk_11_100 : z_11[100]? = some (.ref qf100) := (hre_11 100 (by decide) (by decide)).trans (hfk_10_100)
      have hfk_11_102 : z_11[102]? = some (.ref qf102) := (hre_11 102 (by decide) (by decide)).trans (hfk_10_102)
      have hfk_11_103 : z_11[103]? = some (.ref qf103) := (hre_11 103 (by decide) (by decide)).trans (hfk_10_103)
      have hfk_11_104 : z_11[104]? = some (.ref qf104) := (hre_11 104 (by decide) (by decide)).trans (hfk_10_104)
      have hfk_11_105 : z_11[105]? = some (.ref qf105) := (hre_11 105 (by decide) (by decide)).trans (hfk_10_105)
      have hfk_11_106 : z_11[106]? = some (.ref qf106) := (hre_11 106 (by decide) (by decide)).trans (hfk_10_106)
      have hfk_11_107 : z_11[107]? = some (.ref qf107) := (hre_11 107 (by decide) (by decide)).trans (hfk_10_107)
      have hfk_11_108 : z_11[108]? = some (.ref qf108) := (hre_11 108 (by decide) (by decide)).trans (hfk_10_108)
      have hfk_11_109 : z_11[109]? = some (.ref qf109) := (hre_11 109 (by decide) (by decide)).trans (hfk_10_109)
      have hfk_11_118 : z_11[118]? = some (.ref qf118) := (hre_11 118 (by decide) (by decide)).trans (hfk_10_118)
      have hfk_11_119 : z_11[119]? = some (.ref qf119) := (hre_11 119 (by decide) (by decide)).trans (hfk_10_119)
      have hfk_11_121 : z_11[121]? = some (.int x121_187) := (hre_11 121 (by decide) (by decide)).trans (hfk_10_121)
      have hfk_11_132 : z_11[132]? = some (.int v132) := (hre_11 132 (by decide) (by decide)).trans (hfk_10_132)
      have hfk_11_134 : z_11[134]? = some (.int v134) := (hre_11 134 (by decide) (by decide)).trans (hfk_10_134)
      have hrq_11 : ∀ j : Nat, j ≠ 117 → j ≠ 120 → j ≠ 121 → z_11[j]? = zs[j]? := fun j g117 g120 g121 => (hre_11 j g117 g120).trans (hrq_10 j g117 g120 g121)
      obtain rfl := hwa_11
      refine lv_istore (lv' := [(5, .int u11_0), (0, .ref h0), (2, .int l2_187), (3, .int l3_187)]) hx hb dX13_right_212 hl (by decide) rfl (fun ls hl => ?_)
      refine lv_iload hx hb dX13_right_214 (lv_at hl 0 rfl) ?_
      obtain ⟨u12_0, hu_12, hsp⟩ := ox_bind hsp
      try dsimp only at hsp
      have hPc := hP.sub (ws' := []) [] rfl
      have hDc := hD.sub (ws' := []) [] (by decide) rfl
      have hKc := hK.sub (tys' := []) [] rfl
      have hFc := va_free (wc := []) hD hS hA [] rfl
      refine va_calli (va_runS (As := [.int u11_0]) (rest := []) ⟨hx, hb, hml, hown, hts⟩ (tm_isRow l dC dI H.size u11_0 nf u12_0 hu_12) (va_cwS 1 hts gv_h9_56 rfl rfl rfl (by decide +kernel) ⟨Nat.le_of_ble_eq_true rfl, Nat.le_of_ble_eq_true rfl⟩) ⟨fun a U g mk q => by obtain ⟨q0, q1, qP, qK, qD⟩ := q; exact ⟨q0, q1, qP, va_K.moved (u := U) (U := U.calling g mk a) (Vm.Alike.refl U.vm) qK, qD⟩, fun U hU hW => ⟨rfl, by rw [hU], by rw [hU]; exact hPc, va_K.moved hW.alike hKc, hDc.weaken (fun _ _ _ _ => trivial)⟩⟩ rfl rfl hl.1 rfl (lv_room (Nat.le_of_ble_eq_true rfl)) dX13_right_216 ⟨Nat.le_of_ble_eq_true rfl, Nat.le_of_ble_eq_true rfl⟩) hS (fun q _ h => hFc q h) hFc ?_
      clear hS
      intro r_31 u t H1 locs ht hvm hw hB hz1 hk1 hS
      obtain ⟨⟩ := u
      obtain ⟨hP1, hK1, hD1⟩ := hB
      rw [ht] at hP1
      have hK1 := va_K.moved hvm.symm hK1
      try dsimp only at hw
      have hPD := va_join (wr := [(qf105, .inl (cf105, 8, .inl f105)), (qf106, .inl (cf106, 8, .inl f106)), (qf108, .inl (cf108, 8, .inl f108)), (qf107, .inl (cf107, 96, .inl f107)), (qf109, .inl (cf109, 96, .inl f109)), (qf103, .inl (cf103, 8, .inl f103)), (h0, .inr (13, z_11)), (qf102, .inl (cf102, 2048, .inl f102)), (qf100, .inl (cf100, 48000, .inl f100)), (qf104, .inl (cf104, 8, .inl f104)), (qf118, .inl (cf118, 2100, .inl g911_1)), (qf119, .inl (cf119, 2100, .inl g911_2))]) (w1 := []) hP hD [] [0, 1, 2, 3, 4, 5, 6, 7, 8, 9, 10, 11] rfl rfl (by decide) (by decide) hk1 hFc hP1 hD1
      clear hP hD
      obtain ⟨hP, hD⟩ := hPD
      replace hK := (hK.sub (tys' := [(cf105, .int), (cf106, .int), (cf108, .int), (cf107, .int), (cf109, .int), (cf103, .int), (cf102, .int), (cf100, .int), (cf104, .int), (cf118, .int), (cf119, .int)]) [0, 1, 2, 3, 4, 5, 6, 7, 8, 9, 10] rfl).app hK1
      clear hPc hDc hKc hFc hP1 hK1 hD1 hz1 hk1 ht hvm
      generalize H1 = H at hP hS ⊢
      replace hP : va_P (dC, dI) vwCl [(qf105, .inl (cf105, 8, .inl f105)), (qf106, .inl (cf106, 8, .inl f106)), (qf108, .inl (cf108, 8, .inl f108)), (qf107, .inl (cf107, 96, .inl f107)), (qf109, .inl (cf109, 96, .inl f109)), (qf103, .inl (cf103, 8, .inl f103)), (h0, .inr (13, z_11)), (qf102, .inl (cf102, 2048, .inl f102)), (qf100, .inl (cf100, 48000, .inl f100)), (qf104, .inl (cf104, 8, .inl f104)), (qf118, .inl (cf118, 2100, .inl g911_1)), (qf119, .inl (cf119, 2100, .inl g911_2))] H := hP
      replace hD : va_D A [(qf105, .inl (cf105, 8, .inl f105)), (qf106, .inl (cf106, 8, .inl f106)), (qf108, .inl (cf108, 8, .inl f108)), (qf107, .inl (cf107, 96, .inl f107)), (qf109, .inl (cf109, 96, .inl f109)), (qf103, .inl (cf103, 8, .inl f103)), (h0, .inr (13, z_11)), (qf102, .inl (cf102, 2048, .inl f102)), (qf100, .inl (cf100, 48000, .inl f100)), (qf104, .inl (cf104, 8, .inl f104)), (qf118, .inl (cf118, 2100, .inl g911_1)), (qf119, .inl (cf119, 2100, .inl g911_2))] := hD
      replace hK : va_K (dC, dI) vwCl [(cf105, .int), (cf106, .int), (cf108, .int), (cf107, .int), (cf109, .int), (cf103, .int), (cf102, .int), (cf100, .int), (cf104, .int), (cf118, .int), (cf119, .int)] s := hK
      obtain ⟨rfl, hz_12⟩ := hw
      rcases hz_12 with rfl | rfl
      · rw [if_pos rfl] at hsp
        refine lv_if_ne (tgt := 230) hx hb dX13_right_219 (by decide) (fun c_32 => (show False by revert c_32; decide).elim) (fun c_32 => ?_)
        refine lv_iload hx hb dX13_right_222 (lv_at hl 0 rfl) ?_
        obtain ⟨u13_0, hu_13, hsp⟩ := ox_bind hsp
        try dsimp only at hsp
        have hPc := hP.sub (ws' := []) [] rfl
        have hDc := hD.sub (ws' := []) [] (by decide) rfl
        have hKc := hK.sub (tys' := []) [] rfl
        have hFc := va_free (wc := []) hD hS hA [] rfl
        refine va_calli (va_runS (As := [.int u11_0]) (rest := []) ⟨hx, hb, hml, hown, hts⟩ (tm_isThere l dC dI H.size u11_0 nf u13_0 hu_13) (va_cwS 1 hts gv_h9_104 rfl rfl rfl (by decide +kernel) ⟨Nat.le_of_ble_eq_true rfl, Nat.le_of_ble_eq_true rfl⟩) ⟨fun a U g mk q => by obtain ⟨q0, q1, qP, qK, qD⟩ := q; exact ⟨q0, q1, qP, va_K.moved (u := U) (U := U.calling g mk a) (Vm.Alike.refl U.vm) qK, qD⟩, fun U hU hW => ⟨rfl, by rw [hU], by rw [hU]; exact hPc, va_K.moved hW.alike hKc, hDc.weaken (fun _ _ _ _ => trivial)⟩⟩ rfl rfl hl.1 rfl (lv_room (Nat.le_of_ble_eq_true rfl)) dX13_right_224 ⟨Nat.le_of_ble_eq_true rfl, Nat.le_of_ble_eq_true rfl⟩) hS (fun q _ h => hFc q h) hFc ?_
        clear hS
        intro r_33 u t H1 locs ht hvm hw hB hz1 hk1 hS
        obtain ⟨⟩ := u
        obtain ⟨hP1, hK1, hD1⟩ := hB
        rw [ht] at hP1
        have hK1 := va_K.moved hvm.symm hK1
        try dsimp only at hw
        have hPD := va_join (wr := [(qf105, .inl (cf105, 8, .inl f105)), (qf106, .inl (cf106, 8, .inl f106)), (qf108, .inl (cf108, 8, .inl f108)), (qf107, .inl (cf107, 96, .inl f107)), (qf109, .inl (cf109, 96, .inl f109)), (qf103, .inl (cf103, 8, .inl f103)), (h0, .inr (13, z_11)), (qf102, .inl (cf102, 2048, .inl f102)), (qf100, .inl (cf100, 48000, .inl f100)), (qf104, .inl (cf104, 8, .inl f104)), (qf118, .inl (cf118, 2100, .inl g911_1)), (qf119, .inl (cf119, 2100, .inl g911_2))]) (w1 := []) hP hD [] [0, 1, 2, 3, 4, 5, 6, 7, 8, 9, 10, 11] rfl rfl (by decide) (by decide) hk1 hFc hP1 hD1
        clear hP hD
        obtain ⟨hP, hD⟩ := hPD
        replace hK := (hK.sub (tys' := [(cf105, .int), (cf106, .int), (cf108, .int), (cf107, .int), (cf109, .int), (cf103, .int), (cf102, .int), (cf100, .int), (cf104, .int), (cf118, .int), (cf119, .int)]) [0, 1, 2, 3, 4, 5, 6, 7, 8, 9, 10] rfl).app hK1
        clear hPc hDc hKc hFc hP1 hK1 hD1 hz1 hk1 ht hvm
        generalize H1 = H at hP hS ⊢
        replace hP : va_P (dC, dI) vwCl [(qf105, .inl (cf105, 8, .inl f105)), (qf106, .inl (cf106, 8, .inl f106)), (qf108, .inl (cf108, 8, .inl f108)), (qf107, .inl (cf107, 96, .inl f107)), (qf109, .inl (cf109, 96, .inl f109)), (qf103, .inl (cf103, 8, .inl f103)), (h0, .inr (13, z_11)), (qf102, .inl (cf102, 2048, .inl f102)), (qf100, .inl (cf100, 48000, .inl f100)), (qf104, .inl (cf104, 8, .inl f104)), (qf118, .inl (cf118, 2100, .inl g911_1)), (qf119, .inl (cf119, 2100, .inl g911_2))] H := hP
        replace hD : va_D A [(qf105, .inl (cf105, 8, .inl f105)), (qf106, .inl (cf106, 8, .inl f106)), (qf108, .inl (cf108, 8, .inl f108)), (qf107, .inl (cf107, 96, .inl f107)), (qf109, .inl (cf109, 96, .inl f109)), (qf103, .inl (cf103, 8, .inl f103)), (h0, .inr (13, z_11)), (qf102, .inl (cf102, 2048, .inl f102)), (qf100, .inl (cf100, 48000, .inl f100)), (qf104, .inl (cf104, 8, .inl f104)), (qf118, .inl (cf118, 2100, .inl g911_1)), (qf119, .inl (cf119, 2100, .inl g911_2))] := hD
        replace hK : va_K (dC, dI) vwCl [(cf105, .int), (cf106, .int), (cf108, .int), (cf107, .int), (cf109, .int), (cf103, .int), (cf102, .int), (cf100, .int), (cf104, .int), (cf118, .int), (cf119, .int)] s := hK
        obtain ⟨rfl, hz_13⟩ := hw
        rcases hz_13 with rfl | rfl
        · rw [if_pos rfl] at hsp
          refine lv_if_ne (tgt := 232) hx hb dX13_right_227 (by decide) (fun c_34 => (show False by revert c_34; decide).elim) (fun c_34 => ?_)
          refine lv_iconst (v := 0) hx hb dX13_right_230 (by decide) ?_
          have hr0 := Option.some.inj hsp
          clear hsp
          obtain ⟨hq0, hr1⟩ := Prod.mk.inj hr0
          clear hr0
          obtain ⟨hq1, hr2⟩ := Prod.mk.inj hr1
          clear hr1
          obtain ⟨hq2, hr3⟩ := Prod.mk.inj hr2
          clear hr2
          obtain ⟨hq3, hr4⟩ := Prod.mk.inj hr3
          clear hr3
          obtain ⟨hq4, hr5⟩ := Prod.mk.inj hr4
          clear hr4
          subst hq0
          subst hq1
          subst hq2
          subst hq3
          subst hq4
          subst hr5
          have hP9 := hP.sub (ws' := [(h0, .inr (13, z_11)), (qf100, .inl (cf100, 48000, .inl f100)), (qf103, .inl (cf103, 8, .inl f103)), (qf102, .inl (cf102, 2048, .inl f102)), (qf104, .inl (cf104, 8, .inl f104)), (qf118, .inl (cf118, 2100, .inl g911_1)), (qf119, .inl (cf119, 2100, .inl g911_2)), (qf105, .inl (cf105, 8, .inl f105)), (qf106, .inl (cf106, 8, .inl f106)), (qf108, .inl (cf108, 8, .inl f108)), (qf107, .inl (cf107, 96, .inl f107)), (qf109, .inl (cf109, 96, .inl f109))]) [6, 8, 5, 7, 9, 10, 11, 0, 1, 2, 3, 4] rfl
          have hD9 := hD.sub (ws' := [(h0, .inr (13, z_11)), (qf100, .inl (cf100, 48000, .inl f100)), (qf103, .inl (cf103, 8, .inl f103)), (qf102, .inl (cf102, 2048, .inl f102)), (qf104, .inl (cf104, 8, .inl f104)), (qf118, .inl (cf118, 2100, .inl g911_1)), (qf119, .inl (cf119, 2100, .inl g911_2)), (qf105, .inl (cf105, 8, .inl f105)), (qf106, .inl (cf106, 8, .inl f106)), (qf108, .inl (cf108, 8, .inl f108)), (qf107, .inl (cf107, 96, .inl f107)), (qf109, .inl (cf109, 96, .inl f109))]) [6, 8, 5, 7, 9, 10, 11, 0, 1, 2, 3, 4] (by decide) rfl
          have hK9 := hK.sub (tys' := [(cf100, .int), (cf103, .int), (cf102, .int), (cf104, .int), (cf118, .int), (cf119, .int), (cf105, .int), (cf106, .int), (cf108, .int), (cf107, .int), (cf109, .int)]) [7, 5, 6, 8, 9, 10, 0, 1, 2, 3, 4] rfl
          exact W.zret hx hb hr (by decide) (fun t ht hW => ⟨⟨(0), (z_11), rfl, ⟨⟨rfl, Or.inl rfl⟩, hln_11, hrq_11, hch_11_117, hch_11_120, hfk_11_121⟩, by rw [ht]; exact hP9, va_K.moved hW.alike hK9, hD9⟩, hS.F ht⟩) hS.2.2 dX13_right_231
        · rw [if_neg (by decide)] at hsp
          refine lv_if_ne (tgt := 232) hx hb dX13_right_227 (by decide) (fun c_35 => ?_) (fun c_35 => (show False by revert c_35; decide).elim)
          refine lv_iload_n hx hb dX13_right_232 rfl (lv_at hl 2 rfl) ?_
          refine lv_sipush (v := 181) hx hb dX13_right_233 (by decide) ?_
          refine lv_icmp_le (tgt := 243) hx hb dX13_right_236 (by decide) (fun c_36 => ?_) (fun c_36 => ?_)
          · rw [if_pos c_36] at hsp
            refine lv_iconst (v := 0) hx hb dX13_right_243 (by decide) ?_
            exact hj_244 (H, locs, ls, z_11, l2_187, l3_187, u11_0, 0, g911_1, g911_2, u11_3, u11_4, x121_187) ⟨lv_sub hl [1, 2, 3, 0] rfl, hS, hD.sub (ws' := [(h0, .inr (13, z_11)), (qf100, .inl (cf100, 48000, .inl f100)), (qf103, .inl (cf103, 8, .inl f103)), (qf102, .inl (cf102, 2048, .inl f102)), (qf104, .inl (cf104, 8, .inl f104)), (qf118, .inl (cf118, 2100, .inl g911_1)), (qf119, .inl (cf119, 2100, .inl g911_2)), (qf105, .inl (cf105, 8, .inl f105)), (qf106, .inl (cf106, 8, .inl f106)), (qf108, .inl (cf108, 8, .inl f108)), (qf107, .inl (cf107, 96, .inl f107)), (qf109, .inl (cf109, 96, .inl f109))]) [6, 8, 5, 7, 9, 10, 11, 0, 1, 2, 3, 4] (by decide) rfl, hP.sub (ws' := [(h0, .inr (13, z_11)), (qf100, .inl (cf100, 48000, .inl f100)), (qf103, .inl (cf103, 8, .inl f103)), (qf102, .inl (cf102, 2048, .inl f102)), (qf104, .inl (cf104, 8, .inl f104)), (qf118, .inl (cf118, 2100, .inl g911_1)), (qf119, .inl (cf119, 2100, .inl g911_2)), (qf105, .inl (cf105, 8, .inl f105)), (qf106, .inl (cf106, 8, .inl f106)), (qf108, .inl (cf108, 8, .inl f108)), (qf107, .inl (cf107, 96, .inl f107)), (qf109, .inl (cf109, 96, .inl f109))]) [6, 8, 5, 7, 9, 10, 11, 0, 1, 2, 3, 4] rfl, hfk_11_98, hfk_11_100, hfk_11_102, hfk_11_103, hfk_11_104, hfk_11_105, hfk_11_106, hfk_11_107, hfk_11_108, hfk_11_109, hch_11_117, hfk_11_118, hfk_11_119, hch_11_120, hfk_11_121, hfk_11_132, hfk_11_134, hln_11, hrq_11, hsp⟩
          · rw [if_neg c_36] at hsp
            refine lv_iconst (v := 1) hx hb dX13_right_239 (by decide) ?_
            refine lv_goto (tgt := 244) hx hb dX13_right_240 (by decide) ?_
            exact hj_244 (H, locs, ls, z_11, l2_187, l3_187, u11_0, 1, g911_1, g911_2, u11_3, u11_4, x121_187) ⟨lv_sub hl [1, 2, 3, 0] rfl, hS, hD.sub (ws' := [(h0, .inr (13, z_11)), (qf100, .inl (cf100, 48000, .inl f100)), (qf103, .inl (cf103, 8, .inl f103)), (qf102, .inl (cf102, 2048, .inl f102)), (qf104, .inl (cf104, 8, .inl f104)), (qf118, .inl (cf118, 2100, .inl g911_1)), (qf119, .inl (cf119, 2100, .inl g911_2)), (qf105, .inl (cf105, 8, .inl f105)), (qf106, .inl (cf106, 8, .inl f106)), (qf108, .inl (cf108, 8, .inl f108)), (qf107, .inl (cf107, 96, .inl f107)), (qf109, .inl (cf109, 96, .inl f109))]) [6, 8, 5, 7, 9, 10, 11, 0, 1, 2, 3, 4] (by decide) rfl, hP.sub (ws' := [(h0, .inr (13, z_11)), (qf100, .inl (cf100, 48000, .inl f100)), (qf103, .inl (cf103, 8, .inl f103)), (qf102, .inl (cf102, 2048, .inl f102)), (qf104, .inl (cf104, 8, .inl f104)), (qf118, .inl (cf118, 2100, .inl g911_1)), (qf119, .inl (cf119, 2100, .inl g911_2)), (qf105, .inl (cf105, 8, .inl f105)), (qf106, .inl (cf106, 8, .inl f106)), (qf108, .inl (cf108, 8, .inl f108)), (qf107, .inl (cf107, 96, .inl f107)), (qf109, .inl (cf109, 96, .inl f109))]) [6, 8, 5, 7, 9, 10, 11, 0, 1, 2, 3, 4] rfl, hfk_11_98, hfk_11_100, hfk_11_102, hfk_11_103, hfk_11_104, hfk_11_105, hfk_11_106, hfk_11_107, hfk_11_108, hfk_11_109, hch_11_117, hfk_11_118, hfk_11_119, hch_11_120, hfk_11_121, hfk_11_132, hfk_11_134, hln_11, hrq_11, hsp⟩
      · rw [if_neg (by decide)] at hsp
        refine lv_if_ne (tgt := 230) hx hb dX13_right_219 (by decide) (fun c_37 => ?_) (fun c_37 => (show False by revert c_37; decide).elim)
        refine lv_iconst (v := 0) hx hb dX13_right_230 (by decide) ?_
        have hr0 := Option.some.inj hsp
        clear hsp
        obtain ⟨hq0, hr1⟩ := Prod.mk.inj hr0
        clear hr0
        obtain ⟨hq1, hr2⟩ := Prod.mk.inj hr1
        clear hr1
        obtain ⟨hq2, hr3⟩ := Prod.mk.inj hr2
        clear hr2
        obtain ⟨hq3, hr4⟩ := Prod.mk.inj hr3
        clear hr3
        obtain ⟨hq4, hr5⟩ := Prod.mk.inj hr4
        clear hr4
        subst hq0
        subst hq1
        subst hq2
        subst hq3
        subst hq4
        subst hr5
        have hP9 := hP.sub (ws' := [(h0, .inr (13, z_11)), (qf100, .inl (cf100, 48000, .inl f100)), (qf103, .inl (cf103, 8, .inl f103)), (qf102, .inl (cf102, 2048, .inl f102)), (qf104, .inl (cf104, 8, .inl f104)), (qf118, .inl (cf118, 2100, .inl g911_1)), (qf119, .inl (cf119, 2100, .inl g911_2)), (qf105, .inl (cf105, 8, .inl f105)), (qf106, .inl (cf106, 8, .inl f106)), (qf108, .inl (cf108, 8, .inl f108)), (qf107, .inl (cf107, 96, .inl f107)), (qf109, .inl (cf109, 96, .inl f109))]) [6, 8, 5, 7, 9, 10, 11, 0, 1, 2, 3, 4] rfl
        have hD9 := hD.sub (ws' := [(h0, .inr (13, z_11)), (qf100, .inl (cf100, 48000, .inl f100)), (qf103, .inl (cf103, 8, .inl f103)), (qf102, .inl (cf102, 2048, .inl f102)), (qf104, .inl (cf104, 8, .inl f104)), (qf118, .inl (cf118, 2100, .inl g911_1)), (qf119, .inl (cf119, 2100, .inl g911_2)), (qf105, .inl (cf105, 8, .inl f105)), (qf106, .inl (cf106, 8, .inl f106)), (qf108, .inl (cf108, 8, .inl f108)), (qf107, .inl (cf107, 96, .inl f107)), (qf109, .inl (cf109, 96, .inl f109))]) [6, 8, 5, 7, 9, 10, 11, 0, 1, 2, 3, 4] (by decide) rfl
        have hK9 := hK.sub (tys' := [(cf100, .int), (cf103, .int), (cf102, .int), (cf104, .int), (cf118, .int), (cf119, .int), (cf105, .int), (cf106, .int), (cf108, .int), (cf107, .int), (cf109, .int)]) [7, 5, 6, 8, 9, 10, 0, 1, 2, 3, 4] rfl
        exact W.zret hx hb hr (by decide) (fun t ht hW => ⟨⟨(0), (z_11), rfl, ⟨⟨rfl, Or.inl rfl⟩, hln_11, hrq_11, hch_11_117, hch_11_120, hfk_11_121⟩, by rw [ht]; exact hP9, va_K.moved hW.alike hK9, hD9⟩, hS.F ht⟩) hS.2.2 dX13_right_231
    · rw [if_neg c_28] at hsp
      refine lv_iconst (v := 0) hx hb dX13_right_196 (by decide) ?_
      have hr0 := Option.some.inj hsp
      clear hsp
      obtain ⟨hq0, hr1⟩ := Prod.mk.inj hr0
      clear hr0
      obtain ⟨hq1, hr2⟩ := Prod.mk.inj hr1
      clear hr1
      obtain ⟨hq2, hr3⟩ := Prod.mk.inj hr2
      clear hr2
      obtain ⟨hq3, hr4⟩ := Prod.mk.inj hr3
      clear hr3
      obtain ⟨hq4, hr5⟩ := Prod.mk.inj hr4
      clear hr4
      subst hq0
      subst hq1
      subst hq2
      subst hq3
      subst hq4
      subst hr5
      have hP9 := hP.sub (ws' := [(h0, .inr (13, z_9)), (qf100, .inl (cf100, 48000, .inl f100)), (qf103, .inl (cf103, 8, .inl f103)), (qf102, .inl (cf102, 2048, .inl f102)), (qf104, .inl (cf104, 8, .inl f104)), (qf118, .inl (cf118, 2100, .inl g118_187)), (qf119, .inl (cf119, 2100, .inl g119_187)), (qf105, .inl (cf105, 8, .inl f105)), (qf106, .inl (cf106, 8, .inl f106)), (qf108, .inl (cf108, 8, .inl f108)), (qf107, .inl (cf107, 96, .inl f107)), (qf109, .inl (cf109, 96, .inl f109))]) [8, 11, 9, 10, 0, 1, 2, 3, 4, 5, 6, 7] rfl
      have hD9 := hD.sub (ws' := [(h0, .inr (13, z_9)), (qf100, .inl (cf100, 48000, .inl f100)), (qf103, .inl (cf103, 8, .inl f103)), (qf102, .inl (cf102, 2048, .inl f102)), (qf104, .inl (cf104, 8, .inl f104)), (qf118, .inl (cf118, 2100, .inl g118_187)), (qf119, .inl (cf119, 2100, .inl g119_187)), (qf105, .inl (cf105, 8, .inl f105)), (qf106, .inl (cf106, 8, .inl f106)), (qf108, .inl (cf108, 8, .inl f108)), (qf107, .inl (cf107, 96, .inl f107)), (qf109, .inl (cf109, 96, .inl f109))]) [8, 11, 9, 10, 0, 1, 2, 3, 4, 5, 6, 7] (by decide) rfl
      have hK9 := hK.sub (tys' := [(cf100, .int), (cf103, .int), (cf102, .int), (cf104, .int), (cf118, .int), (cf119, .int), (cf105, .int), (cf106, .int), (cf108, .int), (cf107, .int), (cf109, .int)]) [10, 8, 9, 0, 1, 2, 3, 4, 5, 6, 7] rfl
      exact W.zret hx hb hr (by decide) (fun t ht hW => ⟨⟨(0), (z_9), rfl, ⟨⟨rfl, Or.inl rfl⟩, hln_9, hrq_9, hfk_9_117, hfk_9_120, hfk_9_121⟩, by rw [ht]; exact hP9, va_K.moved hW.alike hK9, hD9⟩, hS.F ht⟩) hS.2.2 dX13_right_197
  intro hj_187
  refine jn_use (α := Heap × List Loc × Array Slot × List Value × Int32 × (Nat → Int32) × (Nat → Int32) × Int32 × Int32 × Int32) (fun x9 => x9.1) (fun x9 => x9.2.1) (fun x9 => F0 m 131 x9.2.2.1 []) (fun x9 => match x9 with | (H, locs, ls, z131, l3_131, g118_131, g119_131, x117_131, x120_131, x121_131) => lv_has ls 9 [(0, .ref h0), (3, .int l3_131)] ∧ va_S A s.heap H locs ∧ va_D A [(h0, .inr (13, z131)), (qf100, .inl (cf100, 48000, .inl f100)), (qf103, .inl (cf103, 8, .inl f103)), (qf102, .inl (cf102, 2048, .inl f102)), (qf104, .inl (cf104, 8, .inl f104)), (qf118, .inl (cf118, 2100, .inl g118_131)), (qf119, .inl (cf119, 2100, .inl g119_131)), (qf105, .inl (cf105, 8, .inl f105)), (qf106, .inl (cf106, 8, .inl f106)), (qf108, .inl (cf108, 8, .inl f108)), (qf107, .inl (cf107, 96, .inl f107)), (qf109, .inl (cf109, 96, .inl f109))] ∧ va_P (dC, dI) vwCl [(h0, .inr (13, z131)), (qf100, .inl (cf100, 48000, .inl f100)), (qf103, .inl (cf103, 8, .inl f103)), (qf102, .inl (cf102, 2048, .inl f102)), (qf104, .inl (cf104, 8, .inl f104)), (qf118, .inl (cf118, 2100, .inl g118_131)), (qf119, .inl (cf119, 2100, .inl g119_131)), (qf105, .inl (cf105, 8, .inl f105)), (qf106, .inl (cf106, 8, .inl f106)), (qf108, .inl (cf108, 8, .inl f108)), (qf107, .inl (cf107, 96, .inl f107)), (qf109, .inl (cf109, 96, .inl f109))] H ∧ z131[98]? = some (.int v98) ∧ z131[100]? = some (.ref qf100) ∧ z131[102]? = some (.ref qf102) ∧ z131[103]? = some (.ref qf103) ∧ z131[104]? = some (.ref qf104) ∧ z131[105]? = some (.ref qf105) ∧ z131[106]? = some (.ref qf106) ∧ z131[107]? = some (.ref qf107) ∧ z131[108]? = some (.ref qf108) ∧ z131[109]? = some (.ref qf109) ∧ z131[117]? = some (.int x117_131) ∧ z131[118]? = some (.ref qf118) ∧ z131[119]? = some (.ref qf119) ∧ z131[120]? = some (.int x120_131) ∧ z131[121]? = some (.int x121_131) ∧ z131[132]? = some (.int v132) ∧ z131[134]? = some (.int v134) ∧ z131.length = 155 ∧ (∀ j : Nat, j ≠ 117 → j ≠ 120 → j ≠ 121 → z131[j]? = zs[j]?) ∧ jn_vm_right_131 nf a1 v98 v117 v120 v121 v132 v134 f100 f103 f102 f104 f118 f119 f105 f106 f108 f107 f109 nS477 fS477 l3_131 g118_131 g119_131 x117_131 x120_131 x121_131 = some (r0, o118, o119, w117, w120, w121)) ?_ ?_
  · intro x9 hJ9
    obtain ⟨H, locs, ls, z131, l3_131, g118_131, g119_131, x117_131, x120_131, x121_131⟩ := x9
    obtain ⟨hl, hS, hD, hP, hfh_131_98, hfh_131_100, hfh_131_102, hfh_131_103, hfh_131_104, hfh_131_105, hfh_131_106, hfh_131_107, hfh_131_108, hfh_131_109, hfh_131_117, hfh_131_118, hfh_131_119, hfh_131_120, hfh_131_121, hfh_131_132, hfh_131_134, hlh_131, hrh_131, hsp⟩ := hJ9
    replace hl : lv_has ls 9 [(0, .ref h0), (3, .int l3_131)] := hl
    replace hS : va_S A s.heap H locs := hS
    replace hD : va_D A [(h0, .inr (13, z131)), (qf100, .inl (cf100, 48000, .inl f100)), (qf103, .inl (cf103, 8, .inl f103)), (qf102, .inl (cf102, 2048, .inl f102)), (qf104, .inl (cf104, 8, .inl f104)), (qf118, .inl (cf118, 2100, .inl g118_131)), (qf119, .inl (cf119, 2100, .inl g119_131)), (qf105, .inl (cf105, 8, .inl f105)), (qf106, .inl (cf106, 8, .inl f106)), (qf108, .inl (cf108, 8, .inl f108)), (qf107, .inl (cf107, 96, .inl f107)), (qf109, .inl (cf109, 96, .inl f109))] := hD
    replace hP : va_P (dC, dI) vwCl [(h0, .inr (13, z131)), (qf100, .inl (cf100, 48000, .inl f100)), (qf103, .inl (cf103, 8, .inl f103)), (qf102, .inl (cf102, 2048, .inl f102)), (qf104, .inl (cf104, 8, .inl f104)), (qf118, .inl (cf118, 2100, .inl g118_131)), (qf119, .inl (cf119, 2100, .inl g119_131)), (qf105, .inl (cf105, 8, .inl f105)), (qf106, .inl (cf106, 8, .inl f106)), (qf108, .inl (cf108, 8, .inl f108)), (qf107, .inl (cf107, 96, .inl f107)), (qf109, .inl (cf109, 96, .inl f109))] H := hP
    replace hsp : jn_vm_right_131 nf a1 v98 v117 v120 v121 v132 v134 f100 f103 f102 f104 f118 f119 f105 f106 f108 f107 f109 nS477 fS477 l3_131 g118_131 g119_131 x117_131 x120_131 x121_131 = some (r0, o118, o119, w117, w120, w121) := hsp
    show W _ _ _ _ _ _ _ _ _ _ H locs _ _ _ (F0 m 131 ls [])
    unfold jn_vm_right_131 at hsp
    try dsimp only at hsp
    refine lv_aload_n hx hb dX13_right_131 rfl (lv_at hl 0 rfl) ?_
    refine lv_iload_n hx hb dX13_right_132 rfl (lv_at hl 1 rfl) ?_
    obtain ⟨u5_0, hu_5, hsp⟩ := ox_bind hsp
    try dsimp only at hsp
    have hPc := hP.sub (ws' := [(h0, .inr (13, z131)), (qf103, .inl (cf103, 8, .inl f103)), (qf102, .inl (cf102, 2048, .inl f102)), (qf100, .inl (cf100, 48000, .inl f100))]) [0, 2, 3, 1] rfl
    have hDc := hD.sub (ws' := [(h0, .inr (13, z131)), (qf103, .inl (cf103, 8, .inl f103)), (qf102, .inl (cf102, 2048, .inl f102)), (qf100, .inl (cf100, 48000, .inl f100))]) [0, 2, 3, 1] (by decide) rfl
    have hKc := hK.sub (tys' := [(cf103, .int), (cf102, .int), (cf100, .int)]) [1, 2, 0] rfl
    have hFc := va_free (wc := [(h0, .inr (13, z131)), (qf103, .inl (cf103, 8, .inl f103)), (qf102, .inl (cf102, 2048, .inl f102)), (qf100, .inl (cf100, 48000, .inl f100))]) hD hS hA [0, 2, 3, 1] rfl
    refine va_calli (va_runV (As := [.int l3_131]) (rest := []) ⟨hx, hb, hml, hown, hts⟩ (tm_sortOf l dC dI H.size h0 z131 l3_131 qf100 qf102 qf103 v132 cf103 f103 cf102 f102 cf100 f100 nf u5_0 hlh_131 hfh_131_100 hfh_131_102 hfh_131_103 hfh_131_132 hu_5) (cwV 1 hts gv_h9_67 rfl rfl rfl (by decide +kernel) ⟨Nat.le_of_ble_eq_true rfl, Nat.le_of_ble_eq_true rfl⟩) ⟨fun a U g mk q => by obtain ⟨q0, q1, qP, qK, qD⟩ := q; exact ⟨q0, q1, qP, va_K.moved (u := U) (U := U.calling g mk a) (Vm.Alike.refl U.vm) qK, qD⟩, va_recv hKc hPc (ci := 13) (q0 := 0) rfl rfl, fun U hU hW => ⟨rfl, by rw [hU], by rw [hU]; exact hPc, va_K.moved hW.alike hKc, hDc.weaken (fun _ _ _ _ => trivial)⟩⟩ rfl rfl hl.1 rfl (lv_room (Nat.le_of_ble_eq_true rfl)) dX13_right_133 ⟨Nat.le_of_ble_eq_true rfl, Nat.le_of_ble_eq_true rfl⟩) hS (fun q _ h => hFc q h) hFc ?_
    clear hS
    intro r_18 u t H1 locs ht hvm hw hB hz1 hk1 hS
    obtain ⟨z_5, rfl⟩ : ∃ z, z = u := ⟨_, rfl⟩
    obtain ⟨hP1, hK1, hD1⟩ := hB
    rw [ht] at hP1
    have hK1 := va_K.moved hvm.symm hK1
    try dsimp only at hw
    have hPD := va_join (wr := [(qf104, .inl (cf104, 8, .inl f104)), (qf118, .inl (cf118, 2100, .inl g118_131)), (qf119, .inl (cf119, 2100, .inl g119_131)), (qf105, .inl (cf105, 8, .inl f105)), (qf106, .inl (cf106, 8, .inl f106)), (qf108, .inl (cf108, 8, .inl f108)), (qf107, .inl (cf107, 96, .inl f107)), (qf109, .inl (cf109, 96, .inl f109))]) (w1 := [(h0, .inr (13, z_5)), (qf103, .inl (cf103, 8, .inl f103)), (qf102, .inl (cf102, 2048, .inl f102)), (qf100, .inl (cf100, 48000, .inl f100))]) hP hD [0, 2, 3, 1] [4, 5, 6, 7, 8, 9, 10, 11] rfl rfl (by decide) (by decide) hk1 hFc hP1 hD1
    clear hP hD
    obtain ⟨hP, hD⟩ := hPD
    replace hK := (hK.sub (tys' := [(cf104, .int), (cf118, .int), (cf119, .int), (cf105, .int), (cf106, .int), (cf108, .int), (cf107, .int), (cf109, .int)]) [3, 4, 5, 6, 7, 8, 9, 10] rfl).app hK1
    clear hPc hDc hKc hFc hP1 hK1 hD1 hz1 hk1 ht hvm
    generalize H1 = H at hP hS ⊢
    replace hP : va_P (dC, dI) vwCl [(qf104, .inl (cf104, 8, .inl f104)), (qf118, .inl (cf118, 2100, .inl g118_131)), (qf119, .inl (cf119, 2100, .inl g119_131)), (qf105, .inl (cf105, 8, .inl f105)), (qf106, .inl (cf106, 8, .inl f106)), (qf108, .inl (cf108, 8, .inl f108)), (qf107, .inl (cf107, 96, .inl f107)), (qf109, .inl (cf109, 96, .inl f109)), (h0, .inr (13, z_5)), (qf103, .inl (cf103, 8, .inl f103)), (qf102, .inl (cf102, 2048, .inl f102)), (qf100, .inl (cf100, 48000, .inl f100))] H := hP
    replace hD : va_D A [(qf104, .inl (cf104, 8, .inl f104)), (qf118, .inl (cf118, 2100, .inl g118_131)), (qf119, .inl (cf119, 2100, .inl g119_131)), (qf105, .inl (cf105, 8, .inl f105)), (qf106, .inl (cf106, 8, .inl f106)), (qf108, .inl (cf108, 8, .inl f108)), (qf107, .inl (cf107, 96, .inl f107)), (qf109, .inl (cf109, 96, .inl f109)), (h0, .inr (13, z_5)), (qf103, .inl (cf103, 8, .inl f103)), (qf102, .inl (cf102, 2048, .inl f102)), (qf100, .inl (cf100, 48000, .inl f100))] := hD
    replace hK : va_K (dC, dI) vwCl [(cf104, .int), (cf118, .int), (cf119, .int), (cf105, .int), (cf106, .int), (cf108, .int), (cf107, .int), (cf109, .int), (cf103, .int), (cf102, .int), (cf100, .int)] s := hK
    obtain ⟨hwa_5, hln_5, hre_5⟩ := hw
    have hfk_5_98 : z_5[98]? = some (.int v98) := (hre_5 98 ).trans (hfh_131_98)
    have hfk_5_100 : z_5[100]? = some (.ref qf100) := (hre_5 100 ).trans (hfh_131_100)
    have hfk_5_102 : z_5[102]? = some (.ref qf102) := (hre_5 102 ).trans (hfh_131_102)
    have hfk_5_103 : z_5[103]? = some (.ref qf103) := (hre_5 103 ).trans (hfh_131_103)
    have hfk_5_104 : z_5[104]? = some (.ref qf104) := (hre_5 104 ).trans (hfh_131_104)
    have hfk_5_105 : z_5[105]? = some (.ref qf105) := (hre_5 105 ).trans (hfh_131_105)
    have hfk_5_106 : z_5[106]? = some (.ref qf106) := (hre_5 106 ).trans (hfh_131_106)
    have hfk_5_107 : z_5[107]? = some (.ref qf107) := (hre_5 107 ).trans (hfh_131_107)
    have hfk_5_108 : z_5[108]? = some (.ref qf108) := (hre_5 108 ).trans (hfh_131_108)
    have hfk_5_109 : z_5[109]? = some (.ref qf109) := (hre_5 109 ).trans (hfh_131_109)
    have hfk_5_117 : z_5[117]? = some (.int x117_131) := (hre_5 117 ).trans (hfh_131_117)
    have hfk_5_118 : z_5[118]? = some (.ref qf118) := (hre_5 118 ).trans (hfh_131_118)
    have hfk_5_119 : z_5[119]? = some (.ref qf119) := (hre_5 119 ).trans (hfh_131_119)
    have hfk_5_120 : z_5[120]? = some (.int x120_131) := (hre_5 120 ).trans (hfh_131_120)
    have hfk_5_121 : z_5[121]? = some (.int x121_131) := (hre_5 121 ).trans (hfh_131_121)
    have hfk_5_132 : z_5[132]? = some (.int v132) := (hre_5 132 ).trans (hfh_131_132)
    have hfk_5_134 : z_5[134]? = some (.int v134) := (hre_5 134 ).trans (hfh_131_134)
    have hrq_5 : ∀ j : Nat, j ≠ 117 → j ≠ 120 → j ≠ 121 → z_5[j]? = zs[j]? := fun j g117 g120 g121 => (hre_5 j ).trans (hrh_131 j g117 g120 g121)
    obtain rfl := hwa_5
    refine lv_iconst (v := 3) hx hb dX13_right_136 (by decide) ?_
    refine lv_icmp_eq (tgt := 142) hx hb dX13_right_137 (by decide) (fun c_19 => ?_) (fun c_19 => ?_)
    · rw [if_pos c_19] at hsp
      refine lv_aload_n hx hb dX13_right_142 rfl (lv_at hl 0 rfl) ?_
      refine lv_aload_n hx hb dX13_right_143 rfl (lv_at hl 0 rfl) ?_
      refine va_get (D := (dC, dI)) (ci := 13) (v := .int v132) (C := RX13) (T := TX13) (N := 155) hx hb hts uV_h9_X13 hown hK hP 8 rfl rfl 132 (by decide) (hts (.fieldLink RX13 932 "ClassMillModel" "inClass" "I") mw_h9_533) (fun _ h9 => h9) hfk_5_132 dX13_right_144 ?_
      refine lv_iload_n hx hb dX13_right_147 rfl (lv_at hl 1 rfl) ?_
      obtain ⟨⟨u6_0, g906_1, g906_2, u6_3, u6_4⟩, hu_6, hsp⟩ := ox_bind hsp
      try dsimp only at hsp
      have hPc := hP.sub (ws' := [(h0, .inr (13, z_5)), (qf102, .inl (cf102, 2048, .inl f102)), (qf100, .inl (cf100, 48000, .inl f100)), (qf104, .inl (cf104, 8, .inl f104)), (qf118, .inl (cf118, 2100, .inl g118_131)), (qf119, .inl (cf119, 2100, .inl g119_131))]) [8, 10, 11, 0, 1, 2] rfl
      have hDc := hD.sub (ws' := [(h0, .inr (13, z_5)), (qf102, .inl (cf102, 2048, .inl f102)), (qf100, .inl (cf100, 48000, .inl f100)), (qf104, .inl (cf104, 8, .inl f104)), (qf118, .inl (cf118, 2100, .inl g118_131)), (qf119, .inl (cf119, 2100, .inl g119_131))]) [8, 10, 11, 0, 1, 2] (by decide) rfl
      have hKc := hK.sub (tys' := [(cf102, .int), (cf100, .int), (cf104, .int), (cf118, .int), (cf119, .int)]) [9, 10, 0, 1, 2] rfl
      have hFc := va_free (wc := [(h0, .inr (13, z_5)), (qf102, .inl (cf102, 2048, .inl f102)), (qf100, .inl (cf100, 48000, .inl f100)), (qf104, .inl (cf104, 8, .inl f104)), (qf118, .inl (cf118, 2100, .inl g118_131)), (qf119, .inl (cf119, 2100, .inl g119_131))]) hD hS hA [8, 10, 11, 0, 1, 2] rfl
      refine va_calli (va_runV (As := [.int v132, .int l3_131]) (rest := []) ⟨hx, hb, hml, hown, hts⟩ (vm_typeOfClass l dC dI H.size h0 z_5 v132 l3_131 v98 qf100 qf102 qf104 x117_131 qf118 qf119 x120_131 cf102 f102 cf100 f100 cf104 f104 cf118 g118_131 cf119 g119_131 nS477 fS477 hS477 qS477 tS477 nf u6_0 g906_1 g906_2 u6_3 u6_4 hln_5 hfk_5_98 hfk_5_100 hfk_5_102 hfk_5_104 hfk_5_117 hfk_5_118 hfk_5_119 hfk_5_120 hu_6) (cwV 2 hts gv_h9_108 rfl rfl rfl (by decide +kernel) ⟨Nat.le_of_ble_eq_true rfl, Nat.le_of_ble_eq_true rfl⟩) ⟨fun a U g mk q => by obtain ⟨q0, q1, qP, qK, qD, qhZWS477, qhZRS477⟩ := q; exact ⟨q0, q1, qP, va_K.moved (u := U) (U := U.calling g mk a) (Vm.Alike.refl U.vm) qK, qD, pz_W.moved (u := U) (U := U.calling g mk a) (Vm.Alike.refl U.vm) qhZWS477, vk_R.same rfl qhZRS477⟩, va_recv hKc hPc (ci := 13) (q0 := 0) rfl rfl, fun U hU hW => ⟨rfl, by rw [hU], by rw [hU]; exact hPc, va_K.moved hW.alike hKc, hDc.weaken (fun _ _ _ _ => trivial), by rw [hU]; exact ((pz_W.moved hW.alike hZWS477).kept hS.2.1).narrow hFc, vk_R.warm hW hZRS477⟩⟩ rfl rfl hl.1 rfl (lv_room (Nat.le_of_ble_eq_true rfl)) dX13_right_148 ⟨Nat.le_of_ble_eq_true rfl, Nat.le_of_ble_eq_true rfl⟩) hS (fun q _ h => hFc q h) hFc ?_
      clear hS
      intro r_20 u t H1 locs ht hvm hw hB hz1 hk1 hS
      obtain ⟨z_6, rfl⟩ : ∃ z, z = u := ⟨_, rfl⟩
      obtain ⟨hP1, hK1, hD1⟩ := hB
      rw [ht] at hP1
      have hK1 := va_K.moved hvm.symm hK1
      try dsimp only at hw
      have hPD := va_join (wr := [(qf105, .inl (cf105, 8, .inl f105)), (qf106, .inl (cf106, 8, .inl f106)), (qf108, .inl (cf108, 8, .inl f108)), (qf107, .inl (cf107, 96, .inl f107)), (qf109, .inl (cf109, 96, .inl f109)), (qf103, .inl (cf103, 8, .inl f103))]) (w1 := [(h0, .inr (13, z_6)), (qf102, .inl (cf102, 2048, .inl f102)), (qf100, .inl (cf100, 48000, .inl f100)), (qf104, .inl (cf104, 8, .inl f104)), (qf118, .inl (cf118, 2100, .inl g906_1)), (qf119, .inl (cf119, 2100, .inl g906_2))]) hP hD [8, 10, 11, 0, 1, 2] [3, 4, 5, 6, 7, 9] rfl rfl (by decide) (by decide) hk1 hFc hP1 hD1
      clear hP hD
      obtain ⟨hP, hD⟩ := hPD
      replace hK := (hK.sub (tys' := [(cf105, .int), (cf106, .int), (cf108, .int), (cf107, .int), (cf109, .int), (cf103, .int)]) [3, 4, 5, 6, 7, 8] rfl).app hK1
      clear hPc hDc hKc hFc hP1 hK1 hD1 hz1 hk1 ht hvm
      generalize H1 = H at hP hS ⊢
      replace hP : va_P (dC, dI) vwCl [(qf105, .inl (cf105, 8, .inl f105)), (qf106, .inl (cf106, 8, .inl f106)), (qf108, .inl (cf108, 8, .inl f108)), (qf107, .inl (cf107, 96, .inl f107)), (qf109, .inl (cf109, 96, .inl f109)), (qf103, .inl (cf103, 8, .inl f103)), (h0, .inr (13, z_6)), (qf102, .inl (cf102, 2048, .inl f102)), (qf100, .inl (cf100, 48000, .inl f100)), (qf104, .inl (cf104, 8, .inl f104)), (qf118, .inl (cf118, 2100, .inl g906_1)), (qf119, .inl (cf119, 2100, .inl g906_2))] H := hP
      replace hD : va_D A [(qf105, .inl (cf105, 8, .inl f105)), (qf106, .inl (cf106, 8, .inl f106)), (qf108, .inl (cf108, 8, .inl f108)), (qf107, .inl (cf107, 96, .inl f107)), (qf109, .inl (cf109, 96, .inl f109)), (qf103, .inl (cf103, 8, .inl f103)), (h0, .inr (13, z_6)), (qf102, .inl (cf102, 2048, .inl f102)), (qf100, .inl (cf100, 48000, .inl f100)), (qf104, .inl (cf104, 8, .inl f104)), (qf118, .inl (cf118, 2100, .inl g906_1)), (qf119, .inl (cf119, 2100, .inl g906_2))] := hD
      replace hK : va_K (dC, dI) vwCl [(cf105, .int), (cf106, .int), (cf108, .int), (cf107, .int), (cf109, .int), (cf103, .int), (cf102, .int), (cf100, .int), (cf104, .int), (cf118, .int), (cf119, .int)] s := hK
      obtain ⟨hwa_6, hln_6, hre_6, hch_6_117, hch_6_120⟩ := hw
      have hfk_6_98 : z_6[98]? = some (.int v98) := (hre_6 98 (by decide) (by decide)).trans (hfk_5_98)
      have hfk_6_100 : z_6[100]? = some (.ref qf100) := (hre_6 100 (by decide) (by decide)).trans (hfk_5_100)
      have hfk_6_102 : z_6[102]? = some (.ref qf102) := (hre_6 102 (by decide) (by decide)).trans (hfk_5_102)
      have hfk_6_103 : z_6[103]? = some (.ref qf103) := (hre_6 103 (by decide) (by decide)).trans (hfk_5_103)
      have hfk_6_104 : z_6[104]? = some (.ref qf104) := (hre_6 104 (by decide) (by decide)).trans (hfk_5_104)
      have hfk_6_105 : z_6[105]? = some (.ref qf105) := (hre_6 105 (by decide) (by decide)).trans (hfk_5_105)
      have hfk_6_106 : z_6[106]? = some (.ref qf106) := (hre_6 106 (by decide) (by decide)).trans (hfk_5_106)
      have hfk_6_107 : z_6[107]? = some (.ref qf107) := (hre_6 107 (by decide) (by decide)).trans (hfk_5_107)
      have hfk_6_108 : z_6[108]? = some (.ref qf108) := (hre_6 108 (by decide) (by decide)).trans (hfk_5_108)
      have hfk_6_109 : z_6[109]? = some (.ref qf109) := (hre_6 109 (by decide) (by decide)).trans (hfk_5_109)
      have hfk_6_118 : z_6[118]? = some (.ref qf118) := (hre_6 118 (by decide) (by decide)).trans (hfk_5_118)
      have hfk_6_119 : z_6[119]? = some (.ref qf119) := (hre_6 119 (by decide) (by decide)).trans (hfk_5_119)
      have hfk_6_121 : z_6[121]? = some (.int x121_131) := (hre_6 121 (by decide) (by decide)).trans (hfk_5_121)
      have hfk_6_132 : z_6[132]? = some (.int v132) := (hre_6 132 (by decide) (by decide)).trans (hfk_5_132)
      have hfk_6_134 : z_6[134]? = some (.int v134) := (hre_6 134 (by decide) (by decide)).trans (hfk_5_134)
      have hrq_6 : ∀ j : Nat, j ≠ 117 → j ≠ 120 → j ≠ 121 → z_6[j]? = zs[j]? := fun j g117 g120 g121 => (hre_6 j g117 g120).trans (hrq_5 j g117 g120 g121)
      obtain rfl := hwa_6
      refine lv_istore (lv' := [(4, .int u6_0), (0, .ref h0), (3, .int l3_131)]) hx hb dX13_right_151 hl (by decide) rfl (fun ls hl => ?_)
      refine lv_iload hx hb dX13_right_153 (lv_at hl 0 rfl) ?_
      obtain ⟨u7_0, hu_7, hsp⟩ := ox_bind hsp
      try dsimp only at hsp
      have hPc := hP.sub (ws' := []) [] rfl
      have hDc := hD.sub (ws' := []) [] (by decide) rfl
      have hKc := hK.sub (tys' := []) [] rfl
      have hFc := va_free (wc := []) hD hS hA [] rfl
      refine va_calli (va_runS (As := [.int u6_0]) (rest := []) ⟨hx, hb, hml, hown, hts⟩ (tm_isThere l dC dI H.size u6_0 nf u7_0 hu_7) (va_cwS 1 hts gv_h9_104 rfl rfl rfl (by decide +kernel) ⟨Nat.le_of_ble_eq_true rfl, Nat.le_of_ble_eq_true rfl⟩) ⟨fun a U g mk q => by obtain ⟨q0, q1, qP, qK, qD⟩ := q; exact ⟨q0, q1, qP, va_K.moved (u := U) (U := U.calling g mk a) (Vm.Alike.refl U.vm) qK, qD⟩, fun U hU hW => ⟨rfl, by rw [hU], by rw [hU]; exact hPc, va_K.moved hW.alike hKc, hDc.weaken (fun _ _ _ _ => trivial)⟩⟩ rfl rfl hl.1 rfl (lv_room (Nat.le_of_ble_eq_true rfl)) dX13_right_155 ⟨Nat.le_of_ble_eq_true rfl, Nat.le_of_ble_eq_true rfl⟩) hS (fun q _ h => hFc q h) hFc ?_
      clear hS
      intro r_21 u t H1 locs ht hvm hw hB hz1 hk1 hS
      obtain ⟨⟩ := u
      obtain ⟨hP1, hK1, hD1⟩ := hB
      rw [ht] at hP1
      have hK1 := va_K.moved hvm.symm hK1
      try dsimp only at hw
      have hPD := va_join (wr := [(qf105, .inl (cf105, 8, .inl f105)), (qf106, .inl (cf106, 8, .inl f106)), (qf108, .inl (cf108, 8, .inl f108)), (qf107, .inl (cf107, 96, .inl f107)), (qf109, .inl (cf109, 96, .inl f109)), (qf103, .inl (cf103, 8, .inl f103)), (h0, .inr (13, z_6)), (qf102, .inl (cf102, 2048, .inl f102)), (qf100, .inl (cf100, 48000, .inl f100)), (qf104, .inl (cf104, 8, .inl f104)), (qf118, .inl (cf118, 2100, .inl g906_1)), (qf119, .inl (cf119, 2100, .inl g906_2))]) (w1 := []) hP hD [] [0, 1, 2, 3, 4, 5, 6, 7, 8, 9, 10, 11] rfl rfl (by decide) (by decide) hk1 hFc hP1 hD1
      clear hP hD
      obtain ⟨hP, hD⟩ := hPD
      replace hK := (hK.sub (tys' := [(cf105, .int), (cf106, .int), (cf108, .int), (cf107, .int), (cf109, .int), (cf103, .int), (cf102, .int), (cf100, .int), (cf104, .int), (cf118, .int), (cf119, .int)]) [0, 1, 2, 3, 4, 5, 6, 7, 8, 9, 10] rfl).app hK1
      clear hPc hDc hKc hFc hP1 hK1 hD1 hz1 hk1 ht hvm
      generalize H1 = H at hP hS ⊢
      replace hP : va_P (dC, dI) vwCl [(qf105, .inl (cf105, 8, .inl f105)), (qf106, .inl (cf106, 8, .inl f106)), (qf108, .inl (cf108, 8, .inl f108)), (qf107, .inl (cf107, 96, .inl f107)), (qf109, .inl (cf109, 96, .inl f109)), (qf103, .inl (cf103, 8, .inl f103)), (h0, .inr (13, z_6)), (qf102, .inl (cf102, 2048, .inl f102)), (qf100, .inl (cf100, 48000, .inl f100)), (qf104, .inl (cf104, 8, .inl f104)), (qf118, .inl (cf118, 2100, .inl g906_1)), (qf119, .inl (cf119, 2100, .inl g906_2))] H := hP
      replace hD : va_D A [(qf105, .inl (cf105, 8, .inl f105)), (qf106, .inl (cf106, 8, .inl f106)), (qf108, .inl (cf108, 8, .inl f108)), (qf107, .inl (cf107, 96, .inl f107)), (qf109, .inl (cf109, 96, .inl f109)), (qf103, .inl (cf103, 8, .inl f103)), (h0, .inr (13, z_6)), (qf102, .inl (cf102, 2048, .inl f102)), (qf100, .inl (cf100, 48000, .inl f100)), (qf104, .inl (cf104, 8, .inl f104)), (qf118, .inl (cf118, 2100, .inl g906_1)), (qf119, .inl (cf119, 2100, .inl g906_2))] := hD
      replace hK : va_K (dC, dI) vwCl [(cf105, .int), (cf106, .int), (cf108, .int), (cf107, .int), (cf109, .int), (cf103, .int), (cf102, .int), (cf100, .int), (cf104, .int), (cf118, .int), (cf119, .int)] s := hK
      obtain ⟨rfl, hz_7⟩ := hw
      rcases hz_7 with rfl | rfl
      · rw [if_pos rfl] at hsp
        refine lv_if_eq (tgt := 173) hx hb dX13_right_158 (by decide) (fun c_22 => ?_) (fun c_22 => (show False by revert c_22; decide).elim)
        refine lv_iconst (v := 0) hx hb dX13_right_173 (by decide) ?_
        have hr0 := Option.some.inj hsp
        clear hsp
        obtain ⟨hq0, hr1⟩ := Prod.mk.inj hr0
        clear hr0
        obtain ⟨hq1, hr2⟩ := Prod.mk.inj hr1
        clear hr1
        obtain ⟨hq2, hr3⟩ := Prod.mk.inj hr2
        clear hr2
        obtain ⟨hq3, hr4⟩ := Prod.mk.inj hr3
        clear hr3
        obtain ⟨hq4, hr5⟩ := Prod.mk.inj hr4
        clear hr4
        subst hq0
        subst hq1
        subst hq2
        subst hq3
        subst hq4
        subst hr5
        have hP9 := hP.sub (ws' := [(h0, .inr (13, z_6)), (qf100, .inl (cf100, 48000, .inl f100)), (qf103, .inl (cf103, 8, .inl f103)), (qf102, .inl (cf102, 2048, .inl f102)), (qf104, .inl (cf104, 8, .inl f104)), (qf118, .inl (cf118, 2100, .inl g906_1)), (qf119, .inl (cf119, 2100, .inl g906_2)), (qf105, .inl (cf105, 8, .inl f105)), (qf106, .inl (cf106, 8, .inl f106)), (qf108, .inl (cf108, 8, .inl f108)), (qf107, .inl (cf107, 96, .inl f107)), (qf109, .inl (cf109, 96, .inl f109))]) [6, 8, 5, 7, 9, 10, 11, 0, 1, 2, 3, 4] rfl
        have hD9 := hD.sub (ws' := [(h0, .inr (13, z_6)), (qf100, .inl (cf100, 48000, .inl f100)), (qf103, .inl (cf103, 8, .inl f103)), (qf102, .inl (cf102, 2048, .inl f102)), (qf104, .inl (cf104, 8, .inl f104)), (qf118, .inl (cf118, 2100, .inl g906_1)), (qf119, .inl (cf119, 2100, .inl g906_2)), (qf105, .inl (cf105, 8, .inl f105)), (qf106, .inl (cf106, 8, .inl f106)), (qf108, .inl (cf108, 8, .inl f108)), (qf107, .inl (cf107, 96, .inl f107)), (qf109, .inl (cf109, 96, .inl f109))]) [6, 8, 5, 7, 9, 10, 11, 0, 1, 2, 3, 4] (by decide) rfl
        have hK9 := hK.sub (tys' := [(cf100, .int), (cf103, .int), (cf102, .int), (cf104, .int), (cf118, .int), (cf119, .int), (cf105, .int), (cf106, .int), (cf108, .int), (cf107, .int), (cf109, .int)]) [7, 5, 6, 8, 9, 10, 0, 1, 2, 3, 4] rfl
        exact W.zret hx hb hr (by decide) (fun t ht hW => ⟨⟨(0), (z_6), rfl, ⟨⟨rfl, Or.inl rfl⟩, hln_6, hrq_6, hch_6_117, hch_6_120, hfk_6_121⟩, by rw [ht]; exact hP9, va_K.moved hW.alike hK9, hD9⟩, hS.F ht⟩) hS.2.2 dX13_right_174
      · rw [if_neg (by decide)] at hsp
        refine lv_if_eq (tgt := 173) hx hb dX13_right_158 (by decide) (fun c_23 => (show False by revert c_23; decide).elim) (fun c_23 => ?_)
        refine lv_iload hx hb dX13_right_161 (lv_at hl 0 rfl) ?_
        obtain ⟨u8_0, hu_8, hsp⟩ := ox_bind hsp
        try dsimp only at hsp
        have hPc := hP.sub (ws' := []) [] rfl
        have hDc := hD.sub (ws' := []) [] (by decide) rfl
        have hKc := hK.sub (tys' := []) [] rfl
        have hFc := va_free (wc := []) hD hS hA [] rfl
        refine va_calli (va_runS (As := [.int u6_0]) (rest := []) ⟨hx, hb, hml, hown, hts⟩ (tm_isRow l dC dI H.size u6_0 nf u8_0 hu_8) (va_cwS 1 hts gv_h9_56 rfl rfl rfl (by decide +kernel) ⟨Nat.le_of_ble_eq_true rfl, Nat.le_of_ble_eq_true rfl⟩) ⟨fun a U g mk q => by obtain ⟨q0, q1, qP, qK, qD⟩ := q; exact ⟨q0, q1, qP, va_K.moved (u := U) (U := U.calling g mk a) (Vm.Alike.refl U.vm) qK, qD⟩, fun U hU hW => ⟨rfl, by rw [hU], by rw [hU]; exact hPc, va_K.moved hW.alike hKc, hDc.weaken (fun _ _ _ _ => trivial)⟩⟩ rfl rfl hl.1 rfl (lv_room (Nat.le_of_ble_eq_true rfl)) dX13_right_163 ⟨Nat.le_of_ble_eq_true rfl, Nat.le_of_ble_eq_true rfl⟩) hS (fun q _ h => hFc q h) hFc ?_
        clear hS
        intro r_24 u t H1 locs ht hvm hw hB hz1 hk1 hS
        obtain ⟨⟩ := u
        obtain ⟨hP1, hK1, hD1⟩ := hB
        rw [ht] at hP1
        have hK1 := va_K.moved hvm.symm hK1
        try dsimp only at hw
        have hPD := va_join (wr := [(qf105, .inl (cf105, 8, .inl f105)), (qf106, .inl (cf106, 8, .inl f106)), (qf108, .inl (cf108, 8, .inl f108)), (qf107, .inl (cf107, 96, .inl f107)), (qf109, .inl (cf109, 96, .inl f109)), (qf103, .inl (cf103, 8, .inl f103)), (h0, .inr (13, z_6)), (qf102, .inl (cf102, 2048, .inl f102)), (qf100, .inl (cf100, 48000, .inl f100)), (qf104, .inl (cf104, 8, .inl f104)), (qf118, .inl (cf118, 2100, .inl g906_1)), (qf119, .inl (cf119, 2100, .inl g906_2))]) (w1 := []) hP hD [] [0, 1, 2, 3, 4, 5, 6, 7, 8, 9, 10, 11] rfl rfl (by decide) (by decide) hk1 hFc hP1 hD1
        clear hP hD
        obtain ⟨hP, hD⟩ := hPD
        replace hK := (hK.sub (tys' := [(cf105, .int), (cf106, .int), (cf108, .int), (cf107, .int), (cf109, .int), (cf103, .int), (cf102, .int), (cf100, .int), (cf104, .int), (cf118, .int), (cf119, .int)]) [0, 1, 2, 3, 4, 5, 6, 7, 8, 9, 10] rfl).app hK1
        clear hPc hDc hKc hFc hP1 hK1 hD1 hz1 hk1 ht hvm
        generalize H1 = H at hP hS ⊢
        replace hP : va_P (dC, dI) vwCl [(qf105, .inl (cf105, 8, .inl f105)), (qf106, .inl (cf106, 8, .inl f106)), (qf108, .inl (cf108, 8, .inl f108)), (qf107, .inl (cf107, 96, .inl f107)), (qf109, .inl (cf109, 96, .inl f109)), (qf103, .inl (cf103, 8, .inl f103)), (h0, .inr (13, z_6)), (qf102, .inl (cf102, 2048, .inl f102)), (qf100, .inl (cf100, 48000, .inl f100)), (qf104, .inl (cf104, 8, .inl f104)), (qf118, .inl (cf118, 2100, .inl g906_1)), (qf119, .inl (cf119, 2100, .inl g906_2))] H := hP
        replace hD : va_D A [(qf105, .inl (cf105, 8, .inl f105)), (qf106, .inl (cf106, 8, .inl f106)), (qf108, .inl (cf108, 8, .inl f108)), (qf107, .inl (cf107, 96, .inl f107)), (qf109, .inl (cf109, 96, .inl f109)), (qf103, .inl (cf103, 8, .inl f103)), (h0, .inr (13, z_6)), (qf102, .inl (cf102, 2048, .inl f102)), (qf100, .inl (cf100, 48000, .inl f100)), (qf104, .inl (cf104, 8, .inl f104)), (qf118, .inl (cf118, 2100, .inl g906_1)), (qf119, .inl (cf119, 2100, .inl g906_2))] := hD
        replace hK : va_K (dC, dI) vwCl [(cf105, .int), (cf106, .int), (cf108, .int), (cf107, .int), (cf109, .int), (cf103, .int), (cf102, .int), (cf100, .int), (cf104, .int), (cf118, .int), (cf119, .int)] s := hK
        obtain ⟨rfl, hz_8⟩ := hw
        rcases hz_8 with rfl | rfl
        · rw [if_pos rfl] at hsp
          refine lv_if_ne (tgt := 173) hx hb dX13_right_166 (by decide) (fun c_25 => (show False by revert c_25; decide).elim) (fun c_25 => ?_)
          refine lv_iconst (v := 1) hx hb dX13_right_169 (by decide) ?_
          refine lv_goto (tgt := 174) hx hb dX13_right_170 (by decide) ?_
          have hr0 := Option.some.inj hsp
          clear hsp
          obtain ⟨hq0, hr1⟩ := Prod.mk.inj hr0
          clear hr0
          obtain ⟨hq1, hr2⟩ := Prod.mk.inj hr1
          clear hr1
          obtain ⟨hq2, hr3⟩ := Prod.mk.inj hr2
          clear hr2
          obtain ⟨hq3, hr4⟩ := Prod.mk.inj hr3
          clear hr3
          obtain ⟨hq4, hr5⟩ := Prod.mk.inj hr4
          clear hr4
          subst hq0
          subst hq1
          subst hq2
          subst hq3
          subst hq4
          subst hr5
          have hP9 := hP.sub (ws' := [(h0, .inr (13, z_6)), (qf100, .inl (cf100, 48000, .inl f100)), (qf103, .inl (cf103, 8, .inl f103)), (qf102, .inl (cf102, 2048, .inl f102)), (qf104, .inl (cf104, 8, .inl f104)), (qf118, .inl (cf118, 2100, .inl g906_1)), (qf119, .inl (cf119, 2100, .inl g906_2)), (qf105, .inl (cf105, 8, .inl f105)), (qf106, .inl (cf106, 8, .inl f106)), (qf108, .inl (cf108, 8, .inl f108)), (qf107, .inl (cf107, 96, .inl f107)), (qf109, .inl (cf109, 96, .inl f109))]) [6, 8, 5, 7, 9, 10, 11, 0, 1, 2, 3, 4] rfl
          have hD9 := hD.sub (ws' := [(h0, .inr (13, z_6)), (qf100, .inl (cf100, 48000, .inl f100)), (qf103, .inl (cf103, 8, .inl f103)), (qf102, .inl (cf102, 2048, .inl f102)), (qf104, .inl (cf104, 8, .inl f104)), (qf118, .inl (cf118, 2100, .inl g906_1)), (qf119, .inl (cf119, 2100, .inl g906_2)), (qf105, .inl (cf105, 8, .inl f105)), (qf106, .inl (cf106, 8, .inl f106)), (qf108, .inl (cf108, 8, .inl f108)), (qf107, .inl (cf107, 96, .inl f107)), (qf109, .inl (cf109, 96, .inl f109))]) [6, 8, 5, 7, 9, 10, 11, 0, 1, 2, 3, 4] (by decide) rfl
          have hK9 := hK.sub (tys' := [(cf100, .int), (cf103, .int), (cf102, .int), (cf104, .int), (cf118, .int), (cf119, .int), (cf105, .int), (cf106, .int), (cf108, .int), (cf107, .int), (cf109, .int)]) [7, 5, 6, 8, 9, 10, 0, 1, 2, 3, 4] rfl
          exact W.zret hx hb hr (by decide) (fun t ht hW => ⟨⟨(1), (z_6), rfl, ⟨⟨rfl, Or.inr rfl⟩, hln_6, hrq_6, hch_6_117, hch_6_120, hfk_6_121⟩, by rw [ht]; exact hP9, va_K.moved hW.alike hK9, hD9⟩, hS.F ht⟩) hS.2.2 dX13_right_174
        · rw [if_neg (by decide)] at hsp
          refine lv_if_ne (tgt := 173) hx hb dX13_right_166 (by decide) (fun c_26 => ?_) (fun c_26 => (show False by revert c_26; decide).elim)
          refine lv_iconst (v := 0) hx hb dX13_right_173 (by decide) ?_
          have hr0 := Option.some.inj hsp
          clear hsp
          obtain ⟨hq0, hr1⟩ := Prod.mk.inj hr0
          clear hr0
          obtain ⟨hq1, hr2⟩ := Prod.mk.inj hr1
          clear hr1
          obtain ⟨hq2, hr3⟩ := Prod.mk.inj hr2
          clear hr2
          obtain ⟨hq3, hr4⟩ := Prod.mk.inj hr3
          clear hr3
          obtain ⟨hq4, hr5⟩ := Prod.mk.inj hr4
          clear hr4
          subst hq0
          subst hq1
          subst hq2
          subst hq3
          subst hq4
          subst hr5
          have hP9 := hP.sub (ws' := [(h0, .inr (13, z_6)), (qf100, .inl (cf100, 48000, .inl f100)), (qf103, .inl (cf103, 8, .inl f103)), (qf102, .inl (cf102, 2048, .inl f102)), (qf104, .inl (cf104, 8, .inl f104)), (qf118, .inl (cf118, 2100, .inl g906_1)), (qf119, .inl (cf119, 2100, .inl g906_2)), (qf105, .inl (cf105, 8, .inl f105)), (qf106, .inl (cf106, 8, .inl f106)), (qf108, .inl (cf108, 8, .inl f108)), (qf107, .inl (cf107, 96, .inl f107)), (qf109, .inl (cf109, 96, .inl f109))]) [6, 8, 5, 7, 9, 10, 11, 0, 1, 2, 3, 4] rfl
          have hD9 := hD.sub (ws' := [(h0, .inr (13, z_6)), (qf100, .inl (cf100, 48000, .inl f100)), (qf103, .inl (cf103, 8, .inl f103)), (qf102, .inl (cf102, 2048, .inl f102)), (qf104, .inl (cf104, 8, .inl f104)), (qf118, .inl (cf118, 2100, .inl g906_1)), (qf119, .inl (cf119, 2100, .inl g906_2)), (qf105, .inl (cf105, 8, .inl f105)), (qf106, .inl (cf106, 8, .inl f106)), (qf108, .inl (cf108, 8, .inl f108)), (qf107, .inl (cf107, 96, .inl f107)), (qf109, .inl (cf109, 96, .inl f109))]) [6, 8, 5, 7, 9, 10, 11, 0, 1, 2, 3, 4] (by decide) rfl
          have hK9 := hK.sub (tys' := [(cf100, .int), (cf103, .int), (cf102, .int), (cf104, .int), (cf118, .int), (cf119, .int), (cf105, .int), (cf106, .int), (cf108, .int), (cf107, .int), (cf109, .int)]) [7, 5, 6, 8, 9, 10, 0, 1, 2, 3, 4] rfl
          exact W.zret hx hb hr (by decide) (fun t ht hW => ⟨⟨(0), (z_6), rfl, ⟨⟨rfl, Or.inl rfl⟩, hln_6, hrq_6, hch_6_117, hch_6_120, hfk_6_121⟩, by rw [ht]; exact hP9, va_K.moved hW.alike hK9, hD9⟩, hS.F ht⟩) hS.2.2 dX13_right_174
    · rw [if_neg c_19] at hsp
      refine lv_iconst (v := 0) hx hb dX13_right_140 (by decide) ?_
      have hr0 := Option.some.inj hsp
      clear hsp
      obtain ⟨hq0, hr1⟩ := Prod.mk.inj hr0
      clear hr0
      obtain ⟨hq1, hr2⟩ := Prod.mk.inj hr1
      clear hr1
      obtain ⟨hq2, hr3⟩ := Prod.mk.inj hr2
      clear hr2
      obtain ⟨hq3, hr4⟩ := Prod.mk.inj hr3
      clear hr3
      obtain ⟨hq4, hr5⟩ := Prod.mk.inj hr4
      clear hr4
      subst hq0
      subst hq1
      subst hq2
      subst hq3
      subst hq4
      subst hr5
      have hP9 := hP.sub (ws' := [(h0, .inr (13, z_5)), (qf100, .inl (cf100, 48000, .inl f100)), (qf103, .inl (cf103, 8, .inl f103)), (qf102, .inl (cf102, 2048, .inl f102)), (qf104, .inl (cf104, 8, .inl f104)), (qf118, .inl (cf118, 2100, .inl g118_131)), (qf119, .inl (cf119, 2100, .inl g119_131)), (qf105, .inl (cf105, 8, .inl f105)), (qf106, .inl (cf106, 8, .inl f106)), (qf108, .inl (cf108, 8, .inl f108)), (qf107, .inl (cf107, 96, .inl f107)), (qf109, .inl (cf109, 96, .inl f109))]) [8, 11, 9, 10, 0, 1, 2, 3, 4, 5, 6, 7] rfl
      have hD9 := hD.sub (ws' := [(h0, .inr (13, z_5)), (qf100, .inl (cf100, 48000, .inl f100)), (qf103, .inl (cf103, 8, .inl f103)), (qf102, .inl (cf102, 2048, .inl f102)), (qf104, .inl (cf104, 8, .inl f104)), (qf118, .inl (cf118, 2100, .inl g118_131)), (qf119, .inl (cf119, 2100, .inl g119_131)), (qf105, .inl (cf105, 8, .inl f105)), (qf106, .inl (cf106, 8, .inl f106)), (qf108, .inl (cf108, 8, .inl f108)), (qf107, .inl (cf107, 96, .inl f107)), (qf109, .inl (cf109, 96, .inl f109))]) [8, 11, 9, 10, 0, 1, 2, 3, 4, 5, 6, 7] (by decide) rfl
      have hK9 := hK.sub (tys' := [(cf100, .int), (cf103, .int), (cf102, .int), (cf104, .int), (cf118, .int), (cf119, .int), (cf105, .int), (cf106, .int), (cf108, .int), (cf107, .int), (cf109, .int)]) [10, 8, 9, 0, 1, 2, 3, 4, 5, 6, 7] rfl
      exact W.zret hx hb hr (by decide) (fun t ht hW => ⟨⟨(0), (z_5), rfl, ⟨⟨rfl, Or.inl rfl⟩, hln_5, hrq_5, hfk_5_117, hfk_5_120, hfk_5_121⟩, by rw [ht]; exact hP9, va_K.moved hW.alike hK9, hD9⟩, hS.F ht⟩) hS.2.2 dX13_right_141
  intro hj_131
  refine jn_use (α := Heap × List Loc × Array Slot × List Value × Int32 × Int32 × (Nat → Int32) × (Nat → Int32) × Int32 × Int32 × Int32) (fun x9 => x9.1) (fun x9 => x9.2.1) (fun x9 => F0 m 25 x9.2.2.1 [.int (x9.2.2.2.2.2.1)]) (fun x9 => match x9 with | (H, locs, ls, z25, l2_25, s0_25, g118_25, g119_25, x117_25, x120_25, x121_25) => lv_has ls 9 [(0, .ref h0), (2, .int l2_25)] ∧ va_S A s.heap H locs ∧ va_D A [(h0, .inr (13, z25)), (qf100, .inl (cf100, 48000, .inl f100)), (qf103, .inl (cf103, 8, .inl f103)), (qf102, .inl (cf102, 2048, .inl f102)), (qf104, .inl (cf104, 8, .inl f104)), (qf118, .inl (cf118, 2100, .inl g118_25)), (qf119, .inl (cf119, 2100, .inl g119_25)), (qf105, .inl (cf105, 8, .inl f105)), (qf106, .inl (cf106, 8, .inl f106)), (qf108, .inl (cf108, 8, .inl f108)), (qf107, .inl (cf107, 96, .inl f107)), (qf109, .inl (cf109, 96, .inl f109))] ∧ va_P (dC, dI) vwCl [(h0, .inr (13, z25)), (qf100, .inl (cf100, 48000, .inl f100)), (qf103, .inl (cf103, 8, .inl f103)), (qf102, .inl (cf102, 2048, .inl f102)), (qf104, .inl (cf104, 8, .inl f104)), (qf118, .inl (cf118, 2100, .inl g118_25)), (qf119, .inl (cf119, 2100, .inl g119_25)), (qf105, .inl (cf105, 8, .inl f105)), (qf106, .inl (cf106, 8, .inl f106)), (qf108, .inl (cf108, 8, .inl f108)), (qf107, .inl (cf107, 96, .inl f107)), (qf109, .inl (cf109, 96, .inl f109))] H ∧ z25[98]? = some (.int v98) ∧ z25[100]? = some (.ref qf100) ∧ z25[102]? = some (.ref qf102) ∧ z25[103]? = some (.ref qf103) ∧ z25[104]? = some (.ref qf104) ∧ z25[105]? = some (.ref qf105) ∧ z25[106]? = some (.ref qf106) ∧ z25[107]? = some (.ref qf107) ∧ z25[108]? = some (.ref qf108) ∧ z25[109]? = some (.ref qf109) ∧ z25[117]? = some (.int x117_25) ∧ z25[118]? = some (.ref qf118) ∧ z25[119]? = some (.ref qf119) ∧ z25[120]? = some (.int x120_25) ∧ z25[121]? = some (.int x121_25) ∧ z25[132]? = some (.int v132) ∧ z25[134]? = some (.int v134) ∧ z25.length = 155 ∧ (∀ j : Nat, j ≠ 117 → j ≠ 120 → j ≠ 121 → z25[j]? = zs[j]?) ∧ jn_vm_right_25 nf a1 v98 v117 v120 v121 v132 v134 f100 f103 f102 f104 f118 f119 f105 f106 f108 f107 f109 nS477 fS477 l2_25 s0_25 g118_25 g119_25 x117_25 x120_25 x121_25 = some (r0, o118, o119, w117, w120, w121)) ?_ ?_
  · intro x9 hJ9
    obtain ⟨H, locs, ls, z25, l2_25, s0_25, g118_25, g119_25, x117_25, x120_25, x121_25⟩ := x9
    obtain ⟨hl, hS, hD, hP, hfh_25_98, hfh_25_100, hfh_25_102, hfh_25_103, hfh_25_104, hfh_25_105, hfh_25_106, hfh_25_107, hfh_25_108, hfh_25_109, hfh_25_117, hfh_25_118, hfh_25_119, hfh_25_120, hfh_25_121, hfh_25_132, hfh_25_134, hlh_25, hrh_25, hsp⟩ := hJ9
    replace hl : lv_has ls 9 [(0, .ref h0), (2, .int l2_25)] := hl
    replace hS : va_S A s.heap H locs := hS
    replace hD : va_D A [(h0, .inr (13, z25)), (qf100, .inl (cf100, 48000, .inl f100)), (qf103, .inl (cf103, 8, .inl f103)), (qf102, .inl (cf102, 2048, .inl f102)), (qf104, .inl (cf104, 8, .inl f104)), (qf118, .inl (cf118, 2100, .inl g118_25)), (qf119, .inl (cf119, 2100, .inl g119_25)), (qf105, .inl (cf105, 8, .inl f105)), (qf106, .inl (cf106, 8, .inl f106)), (qf108, .inl (cf108, 8, .inl f108)), (qf107, .inl (cf107, 96, .inl f107)), (qf109, .inl (cf109, 96, .inl f109))] := hD
    replace hP : va_P (dC, dI) vwCl [(h0, .inr (13, z25)), (qf100, .inl (cf100, 48000, .inl f100)), (qf103, .inl (cf103, 8, .inl f103)), (qf102, .inl (cf102, 2048, .inl f102)), (qf104, .inl (cf104, 8, .inl f104)), (qf118, .inl (cf118, 2100, .inl g118_25)), (qf119, .inl (cf119, 2100, .inl g119_25)), (qf105, .inl (cf105, 8, .inl f105)), (qf106, .inl (cf106, 8, .inl f106)), (qf108, .inl (cf108, 8, .inl f108)), (qf107, .inl (cf107, 96, .inl f107)), (qf109, .inl (cf109, 96, .inl f109))] H := hP
    replace hsp : jn_vm_right_25 nf a1 v98 v117 v120 v121 v132 v134 f100 f103 f102 f104 f118 f119 f105 f106 f108 f107 f109 nS477 fS477 l2_25 s0_25 g118_25 g119_25 x117_25 x120_25 x121_25 = some (r0, o118, o119, w117, w120, w121) := hsp
    show W _ _ _ _ _ _ _ _ _ _ H locs _ _ _ (F0 m 25 ls [.int s0_25])
    unfold jn_vm_right_25 at hsp
    try dsimp only at hsp
    refine lv_istore_n (lv' := [(3, .int s0_25), (0, .ref h0), (2, .int l2_25)]) hx hb dX13_right_25 rfl hl (by decide) rfl (fun ls hl => ?_)
    refine lv_iload_n hx hb dX13_right_26 rfl (lv_at hl 2 rfl) ?_
    by_cases hs_5 : l2_25 = 18
    · rw [if_pos hs_5] at hsp
      refine lv_lookup (tgt := 116) hx hb dX13_right_27 (by decide) (off := 89) (by rw [hs_5]; rfl) (by decide) ?_
      refine lv_aload_n hx hb dX13_right_116 rfl (lv_at hl 1 rfl) ?_
      refine lv_iload_n hx hb dX13_right_117 rfl (lv_at hl 0 rfl) ?_
      obtain ⟨u4_0, hu_4, hsp⟩ := ox_bind hsp
      try dsimp only at hsp
      have hPc := hP.sub (ws' := [(h0, .inr (13, z25)), (qf103, .inl (cf103, 8, .inl f103)), (qf102, .inl (cf102, 2048, .inl f102)), (qf100, .inl (cf100, 48000, .inl f100))]) [0, 2, 3, 1] rfl
      have hDc := hD.sub (ws' := [(h0, .inr (13, z25)), (qf103, .inl (cf103, 8, .inl f103)), (qf102, .inl (cf102, 2048, .inl f102)), (qf100, .inl (cf100, 48000, .inl f100))]) [0, 2, 3, 1] (by decide) rfl
      have hKc := hK.sub (tys' := [(cf103, .int), (cf102, .int), (cf100, .int)]) [1, 2, 0] rfl
      have hFc := va_free (wc := [(h0, .inr (13, z25)), (qf103, .inl (cf103, 8, .inl f103)), (qf102, .inl (cf102, 2048, .inl f102)), (qf100, .inl (cf100, 48000, .inl f100))]) hD hS hA [0, 2, 3, 1] rfl
      refine va_calli (va_runV (As := [.int s0_25]) (rest := []) ⟨hx, hb, hml, hown, hts⟩ (tm_sortOf l dC dI H.size h0 z25 s0_25 qf100 qf102 qf103 v132 cf103 f103 cf102 f102 cf100 f100 nf u4_0 hlh_25 hfh_25_100 hfh_25_102 hfh_25_103 hfh_25_132 hu_4) (cwV 1 hts gv_h9_67 rfl rfl rfl (by decide +kernel) ⟨Nat.le_of_ble_eq_true rfl, Nat.le_of_ble_eq_true rfl⟩) ⟨fun a U g mk q => by obtain ⟨q0, q1, qP, qK, qD⟩ := q; exact ⟨q0, q1, qP, va_K.moved (u := U) (U := U.calling g mk a) (Vm.Alike.refl U.vm) qK, qD⟩, va_recv hKc hPc (ci := 13) (q0 := 0) rfl rfl, fun U hU hW => ⟨rfl, by rw [hU], by rw [hU]; exact hPc, va_K.moved hW.alike hKc, hDc.weaken (fun _ _ _ _ => trivial)⟩⟩ rfl rfl hl.1 rfl (lv_room (Nat.le_of_ble_eq_true rfl)) dX13_right_118 ⟨Nat.le_of_ble_eq_true rfl, Nat.le_of_ble_eq_true rfl⟩) hS (fun q _ h => hFc q h) hFc ?_
      clear hS
      intro r_6 u t H1 locs ht hvm hw hB hz1 hk1 hS
      obtain ⟨z_4, rfl⟩ : ∃ z, z = u := ⟨_, rfl⟩
      obtain ⟨hP1, hK1, hD1⟩ := hB
      rw [ht] at hP1
      have hK1 := va_K.moved hvm.symm hK1
      try dsimp only at hw
      have hPD := va_join (wr := [(qf104, .inl (cf104, 8, .inl f104)), (qf118, .inl (cf118, 2100, .inl g118_25)), (qf119, .inl (cf119, 2100, .inl g119_25)), (qf105, .inl (cf105, 8, .inl f105)), (qf106, .inl (cf106, 8, .inl f106)), (qf108, .inl (cf108, 8, .inl f108)), (qf107, .inl (cf107, 96, .inl f107)), (qf109, .inl (cf109, 96, .inl f109))]) (w1 := [(h0, .inr (13, z_4)), (qf103, .inl (cf103, 8, .inl f103)), (qf102, .inl (cf102, 2048, .inl f102)), (qf100, .inl (cf100, 48000, .inl f100))]) hP hD [0, 2, 3, 1] [4, 5, 6, 7, 8, 9, 10, 11] rfl rfl (by decide) (by decide) hk1 hFc hP1 hD1
      clear hP hD
      obtain ⟨hP, hD⟩ := hPD
      replace hK := (hK.sub (tys' := [(cf104, .int), (cf118, .int), (cf119, .int), (cf105, .int), (cf106, .int), (cf108, .int), (cf107, .int), (cf109, .int)]) [3, 4, 5, 6, 7, 8, 9, 10] rfl).app hK1
      clear hPc hDc hKc hFc hP1 hK1 hD1 hz1 hk1 ht hvm
      generalize H1 = H at hP hS ⊢
      replace hP : va_P (dC, dI) vwCl [(qf104, .inl (cf104, 8, .inl f104)), (qf118, .inl (cf118, 2100, .inl g118_25)), (qf119, .inl (cf119, 2100, .inl g119_25)), (qf105, .inl (cf105, 8, .inl f105)), (qf106, .inl (cf106, 8, .inl f106)), (qf108, .inl (cf108, 8, .inl f108)), (qf107, .inl (cf107, 96, .inl f107)), (qf109, .inl (cf109, 96, .inl f109)), (h0, .inr (13, z_4)), (qf103, .inl (cf103, 8, .inl f103)), (qf102, .inl (cf102, 2048, .inl f102)), (qf100, .inl (cf100, 48000, .inl f100))] H := hP
      replace hD : va_D A [(qf104, .inl (cf104, 8, .inl f104)), (qf118, .inl (cf118, 2100, .inl g118_25)), (qf119, .inl (cf119, 2100, .inl g119_25)), (qf105, .inl (cf105, 8, .inl f105)), (qf106, .inl (cf106, 8, .inl f106)), (qf108, .inl (cf108, 8, .inl f108)), (qf107, .inl (cf107, 96, .inl f107)), (qf109, .inl (cf109, 96, .inl f109)), (h0, .inr (13, z_4)), (qf103, .inl (cf103, 8, .inl f103)), (qf102, .inl (cf102, 2048, .inl f102)), (qf100, .inl (cf100, 48000, .inl f100))] := hD
      replace hK : va_K (dC, dI) vwCl [(cf104, .int), (cf118, .int), (cf119, .int), (cf105, .int), (cf106, .int), (cf108, .int), (cf107, .int), (cf109, .int), (cf103, .int), (cf102, .int), (cf100, .int)] s := hK
      obtain ⟨hwa_4, hln_4, hre_4⟩ := hw
      have hfk_4_98 : z_4[98]? = some (.int v98) := (hre_4 98 ).trans (hfh_25_98)
      have hfk_4_100 : z_4[100]? = some (.ref qf100) := (hre_4 100 ).trans (hfh_25_100)
      have hfk_4_102 : z_4[102]? = some (.ref qf102) := (hre_4 102 ).trans (hfh_25_102)
      have hfk_4_103 : z_4[103]? = some (.ref qf103) := (hre_4 103 ).trans (hfh_25_103)
      have hfk_4_104 : z_4[104]? = some (.ref qf104) := (hre_4 104 ).trans (hfh_25_104)
      have hfk_4_105 : z_4[105]? = some (.ref qf105) := (hre_4 105 ).trans (hfh_25_105)
      have hfk_4_106 : z_4[106]? = some (.ref qf106) := (hre_4 106 ).trans (hfh_25_106)
      have hfk_4_107 : z_4[107]? = some (.ref qf107) := (hre_4 107 ).trans (hfh_25_107)
      have hfk_4_108 : z_4[108]? = some (.ref qf108) := (hre_4 108 ).trans (hfh_25_108)
      have hfk_4_109 : z_4[109]? = some (.ref qf109) := (hre_4 109 ).trans (hfh_25_109)
      have hfk_4_117 : z_4[117]? = some (.int x117_25) := (hre_4 117 ).trans (hfh_25_117)
      have hfk_4_118 : z_4[118]? = some (.ref qf118) := (hre_4 118 ).trans (hfh_25_118)
      have hfk_4_119 : z_4[119]? = some (.ref qf119) := (hre_4 119 ).trans (hfh_25_119)
      have hfk_4_120 : z_4[120]? = some (.int x120_25) := (hre_4 120 ).trans (hfh_25_120)
      have hfk_4_121 : z_4[121]? = some (.int x121_25) := (hre_4 121 ).trans (hfh_25_121)
      have hfk_4_132 : z_4[132]? = some (.int v132) := (hre_4 132 ).trans (hfh_25_132)
      have hfk_4_134 : z_4[134]? = some (.int v134) := (hre_4 134 ).trans (hfh_25_134)
      have hrq_4 : ∀ j : Nat, j ≠ 117 → j ≠ 120 → j ≠ 121 → z_4[j]? = zs[j]? := fun j g117 g120 g121 => (hre_4 j ).trans (hrh_25 j g117 g120 g121)
      obtain rfl := hwa_4
      refine lv_iconst (v := 2) hx hb dX13_right_121 (by decide) ?_
      refine lv_icmp_ne (tgt := 129) hx hb dX13_right_122 (by decide) (fun c_7 => ?_) (fun c_7 => ?_)
      · rw [if_neg c_7] at hsp
        refine lv_iconst (v := 0) hx hb dX13_right_129 (by decide) ?_
        have hr0 := Option.some.inj hsp
        clear hsp
        obtain ⟨hq0, hr1⟩ := Prod.mk.inj hr0
        clear hr0
        obtain ⟨hq1, hr2⟩ := Prod.mk.inj hr1
        clear hr1
        obtain ⟨hq2, hr3⟩ := Prod.mk.inj hr2
        clear hr2
        obtain ⟨hq3, hr4⟩ := Prod.mk.inj hr3
        clear hr3
        obtain ⟨hq4, hr5⟩ := Prod.mk.inj hr4
        clear hr4
        subst hq0
        subst hq1
        subst hq2
        subst hq3
        subst hq4
        subst hr5
        have hP9 := hP.sub (ws' := [(h0, .inr (13, z_4)), (qf100, .inl (cf100, 48000, .inl f100)), (qf103, .inl (cf103, 8, .inl f103)), (qf102, .inl (cf102, 2048, .inl f102)), (qf104, .inl (cf104, 8, .inl f104)), (qf118, .inl (cf118, 2100, .inl g118_25)), (qf119, .inl (cf119, 2100, .inl g119_25)), (qf105, .inl (cf105, 8, .inl f105)), (qf106, .inl (cf106, 8, .inl f106)), (qf108, .inl (cf108, 8, .inl f108)), (qf107, .inl (cf107, 96, .inl f107)), (qf109, .inl (cf109, 96, .inl f109))]) [8, 11, 9, 10, 0, 1, 2, 3, 4, 5, 6, 7] rfl
        have hD9 := hD.sub (ws' := [(h0, .inr (13, z_4)), (qf100, .inl (cf100, 48000, .inl f100)), (qf103, .inl (cf103, 8, .inl f103)), (qf102, .inl (cf102, 2048, .inl f102)), (qf104, .inl (cf104, 8, .inl f104)), (qf118, .inl (cf118, 2100, .inl g118_25)), (qf119, .inl (cf119, 2100, .inl g119_25)), (qf105, .inl (cf105, 8, .inl f105)), (qf106, .inl (cf106, 8, .inl f106)), (qf108, .inl (cf108, 8, .inl f108)), (qf107, .inl (cf107, 96, .inl f107)), (qf109, .inl (cf109, 96, .inl f109))]) [8, 11, 9, 10, 0, 1, 2, 3, 4, 5, 6, 7] (by decide) rfl
        have hK9 := hK.sub (tys' := [(cf100, .int), (cf103, .int), (cf102, .int), (cf104, .int), (cf118, .int), (cf119, .int), (cf105, .int), (cf106, .int), (cf108, .int), (cf107, .int), (cf109, .int)]) [10, 8, 9, 0, 1, 2, 3, 4, 5, 6, 7] rfl
        exact W.zret hx hb hr (by decide) (fun t ht hW => ⟨⟨(0), (z_4), rfl, ⟨⟨rfl, Or.inl rfl⟩, hln_4, hrq_4, hfk_4_117, hfk_4_120, hfk_4_121⟩, by rw [ht]; exact hP9, va_K.moved hW.alike hK9, hD9⟩, hS.F ht⟩) hS.2.2 dX13_right_130
      · rw [if_pos c_7] at hsp
        refine lv_iconst (v := 1) hx hb dX13_right_125 (by decide) ?_
        refine lv_goto (tgt := 130) hx hb dX13_right_126 (by decide) ?_
        have hr0 := Option.some.inj hsp
        clear hsp
        obtain ⟨hq0, hr1⟩ := Prod.mk.inj hr0
        clear hr0
        obtain ⟨hq1, hr2⟩ := Prod.mk.inj hr1
        clear hr1
        obtain ⟨hq2, hr3⟩ := Prod.mk.inj hr2
        clear hr2
        obtain ⟨hq3, hr4⟩ := Prod.mk.inj hr3
        clear hr3
        obtain ⟨hq4, hr5⟩ := Prod.mk.inj hr4
        clear hr4
        subst hq0
        subst hq1
        subst hq2
        subst hq3
        subst hq4
        subst hr5
        have hP9 := hP.sub (ws' := [(h0, .inr (13, z_4)), (qf100, .inl (cf100, 48000, .inl f100)), (qf103, .inl (cf103, 8, .inl f103)), (qf102, .inl (cf102, 2048, .inl f102)), (qf104, .inl (cf104, 8, .inl f104)), (qf118, .inl (cf118, 2100, .inl g118_25)), (qf119, .inl (cf119, 2100, .inl g119_25)), (qf105, .inl (cf105, 8, .inl f105)), (qf106, .inl (cf106, 8, .inl f106)), (qf108, .inl (cf108, 8, .inl f108)), (qf107, .inl (cf107, 96, .inl f107)), (qf109, .inl (cf109, 96, .inl f109))]) [8, 11, 9, 10, 0, 1, 2, 3, 4, 5, 6, 7] rfl
        have hD9 := hD.sub (ws' := [(h0, .inr (13, z_4)), (qf100, .inl (cf100, 48000, .inl f100)), (qf103, .inl (cf103, 8, .inl f103)), (qf102, .inl (cf102, 2048, .inl f102)), (qf104, .inl (cf104, 8, .inl f104)), (qf118, .inl (cf118, 2100, .inl g118_25)), (qf119, .inl (cf119, 2100, .inl g119_25)), (qf105, .inl (cf105, 8, .inl f105)), (qf106, .inl (cf106, 8, .inl f106)), (qf108, .inl (cf108, 8, .inl f108)), (qf107, .inl (cf107, 96, .inl f107)), (qf109, .inl (cf109, 96, .inl f109))]) [8, 11, 9, 10, 0, 1, 2, 3, 4, 5, 6, 7] (by decide) rfl
        have hK9 := hK.sub (tys' := [(cf100, .int), (cf103, .int), (cf102, .int), (cf104, .int), (cf118, .int), (cf119, .int), (cf105, .int), (cf106, .int), (cf108, .int), (cf107, .int), (cf109, .int)]) [10, 8, 9, 0, 1, 2, 3, 4, 5, 6, 7] rfl
        exact W.zret hx hb hr (by decide) (fun t ht hW => ⟨⟨(1), (z_4), rfl, ⟨⟨rfl, Or.inr rfl⟩, hln_4, hrq_4, hfk_4_117, hfk_4_120, hfk_4_121⟩, by rw [ht]; exact hP9, va_K.moved hW.alike hK9, hD9⟩, hS.F ht⟩) hS.2.2 dX13_right_130
    rw [if_neg hs_5] at hsp
    by_cases hs_8 : l2_25 = 180
    · rw [if_pos hs_8] at hsp
      refine lv_lookup (tgt := 187) hx hb dX13_right_27 (by decide) (off := 160) (by rw [hs_8]; rfl) (by decide) ?_
      exact hj_187 (H, locs, ls, z25, l2_25, s0_25, g118_25, g119_25, x117_25, x120_25, x121_25) ⟨lv_sub hl [1, 2, 0] rfl, hS, hD.sub (ws' := [(h0, .inr (13, z25)), (qf100, .inl (cf100, 48000, .inl f100)), (qf103, .inl (cf103, 8, .inl f103)), (qf102, .inl (cf102, 2048, .inl f102)), (qf104, .inl (cf104, 8, .inl f104)), (qf118, .inl (cf118, 2100, .inl g118_25)), (qf119, .inl (cf119, 2100, .inl g119_25)), (qf105, .inl (cf105, 8, .inl f105)), (qf106, .inl (cf106, 8, .inl f106)), (qf108, .inl (cf108, 8, .inl f108)), (qf107, .inl (cf107, 96, .inl f107)), (qf109, .inl (cf109, 96, .inl f109))]) [0, 1, 2, 3, 4, 5, 6, 7, 8, 9, 10, 11] (by decide) rfl, hP.sub (ws' := [(h0, .inr (13, z25)), (qf100, .inl (cf100, 48000, .inl f100)), (qf103, .inl (cf103, 8, .inl f103)), (qf102, .inl (cf102, 2048, .inl f102)), (qf104, .inl (cf104, 8, .inl f104)), (qf118, .inl (cf118, 2100, .inl g118_25)), (qf119, .inl (cf119, 2100, .inl g119_25)), (qf105, .inl (cf105, 8, .inl f105)), (qf106, .inl (cf106, 8, .inl f106)), (qf108, .inl (cf108, 8, .inl f108)), (qf107, .inl (cf107, 96, .inl f107)), (qf109, .inl (cf109, 96, .inl f109))]) [0, 1, 2, 3, 4, 5, 6, 7, 8, 9, 10, 11] rfl, hfh_25_98, hfh_25_100, hfh_25_102, hfh_25_103, hfh_25_104, hfh_25_105, hfh_25_106, hfh_25_107, hfh_25_108, hfh_25_109, hfh_25_117, hfh_25_118, hfh_25_119, hfh_25_120, hfh_25_121, hfh_25_132, hfh_25_134, hlh_25, hrh_25, hsp⟩
    rw [if_neg hs_8] at hsp
    by_cases hs_9 : l2_25 = 181
    · rw [if_pos hs_9] at hsp
      refine lv_lookup (tgt := 187) hx hb dX13_right_27 (by decide) (off := 160) (by rw [hs_9]; rfl) (by decide) ?_
      exact hj_187 (H, locs, ls, z25, l2_25, s0_25, g118_25, g119_25, x117_25, x120_25, x121_25) ⟨lv_sub hl [1, 2, 0] rfl, hS, hD.sub (ws' := [(h0, .inr (13, z25)), (qf100, .inl (cf100, 48000, .inl f100)), (qf103, .inl (cf103, 8, .inl f103)), (qf102, .inl (cf102, 2048, .inl f102)), (qf104, .inl (cf104, 8, .inl f104)), (qf118, .inl (cf118, 2100, .inl g118_25)), (qf119, .inl (cf119, 2100, .inl g119_25)), (qf105, .inl (cf105, 8, .inl f105)), (qf106, .inl (cf106, 8, .inl f106)), (qf108, .inl (cf108, 8, .inl f108)), (qf107, .inl (cf107, 96, .inl f107)), (qf109, .inl (cf109, 96, .inl f109))]) [0, 1, 2, 3, 4, 5, 6, 7, 8, 9, 10, 11] (by decide) rfl, hP.sub (ws' := [(h0, .inr (13, z25)), (qf100, .inl (cf100, 48000, .inl f100)), (qf103, .inl (cf103, 8, .inl f103)), (qf102, .inl (cf102, 2048, .inl f102)), (qf104, .inl (cf104, 8, .inl f104)), (qf118, .inl (cf118, 2100, .inl g118_25)), (qf119, .inl (cf119, 2100, .inl g119_25)), (qf105, .inl (cf105, 8, .inl f105)), (qf106, .inl (cf106, 8, .inl f106)), (qf108, .inl (cf108, 8, .inl f108)), (qf107, .inl (cf107, 96, .inl f107)), (qf109, .inl (cf109, 96, .inl f109))]) [0, 1, 2, 3, 4, 5, 6, 7, 8, 9, 10, 11] rfl, hfh_25_98, hfh_25_100, hfh_25_102, hfh_25_103, hfh_25_104, hfh_25_105, hfh_25_106, hfh_25_107, hfh_25_108, hfh_25_109, hfh_25_117, hfh_25_118, hfh_25_119, hfh_25_120, hfh_25_121, hfh_25_132, hfh_25_134, hlh_25, hrh_25, hsp⟩
    rw [if_neg hs_9] at hsp
    by_cases hs_10 : l2_25 = 182
    · rw [if_pos hs_10] at hsp
      refine lv_lookup (tgt := 187) hx hb dX13_right_27 (by decide) (off := 160) (by rw [hs_10]; rfl) (by decide) ?_
      exact hj_187 (H, locs, ls, z25, l2_25, s0_25, g118_25, g119_25, x117_25, x120_25, x121_25) ⟨lv_sub hl [1, 2, 0] rfl, hS, hD.sub (ws' := [(h0, .inr (13, z25)), (qf100, .inl (cf100, 48000, .inl f100)), (qf103, .inl (cf103, 8, .inl f103)), (qf102, .inl (cf102, 2048, .inl f102)), (qf104, .inl (cf104, 8, .inl f104)), (qf118, .inl (cf118, 2100, .inl g118_25)), (qf119, .inl (cf119, 2100, .inl g119_25)), (qf105, .inl (cf105, 8, .inl f105)), (qf106, .inl (cf106, 8, .inl f106)), (qf108, .inl (cf108, 8, .inl f108)), (qf107, .inl (cf107, 96, .inl f107)), (qf109, .inl (cf109, 96, .inl f109))]) [0, 1, 2, 3, 4, 5, 6, 7, 8, 9, 10, 11] (by decide) rfl, hP.sub (ws' := [(h0, .inr (13, z25)), (qf100, .inl (cf100, 48000, .inl f100)), (qf103, .inl (cf103, 8, .inl f103)), (qf102, .inl (cf102, 2048, .inl f102)), (qf104, .inl (cf104, 8, .inl f104)), (qf118, .inl (cf118, 2100, .inl g118_25)), (qf119, .inl (cf119, 2100, .inl g119_25)), (qf105, .inl (cf105, 8, .inl f105)), (qf106, .inl (cf106, 8, .inl f106)), (qf108, .inl (cf108, 8, .inl f108)), (qf107, .inl (cf107, 96, .inl f107)), (qf109, .inl (cf109, 96, .inl f109))]) [0, 1, 2, 3, 4, 5, 6, 7, 8, 9, 10, 11] rfl, hfh_25_98, hfh_25_100, hfh_25_102, hfh_25_103, hfh_25_104, hfh_25_105, hfh_25_106, hfh_25_107, hfh_25_108, hfh_25_109, hfh_25_117, hfh_25_118, hfh_25_119, hfh_25_120, hfh_25_121, hfh_25_132, hfh_25_134, hlh_25, hrh_25, hsp⟩
    rw [if_neg hs_10] at hsp
    by_cases hs_11 : l2_25 = 184
    · rw [if_pos hs_11] at hsp
      refine lv_lookup (tgt := 187) hx hb dX13_right_27 (by decide) (off := 160) (by rw [hs_11]; rfl) (by decide) ?_
      exact hj_187 (H, locs, ls, z25, l2_25, s0_25, g118_25, g119_25, x117_25, x120_25, x121_25) ⟨lv_sub hl [1, 2, 0] rfl, hS, hD.sub (ws' := [(h0, .inr (13, z25)), (qf100, .inl (cf100, 48000, .inl f100)), (qf103, .inl (cf103, 8, .inl f103)), (qf102, .inl (cf102, 2048, .inl f102)), (qf104, .inl (cf104, 8, .inl f104)), (qf118, .inl (cf118, 2100, .inl g118_25)), (qf119, .inl (cf119, 2100, .inl g119_25)), (qf105, .inl (cf105, 8, .inl f105)), (qf106, .inl (cf106, 8, .inl f106)), (qf108, .inl (cf108, 8, .inl f108)), (qf107, .inl (cf107, 96, .inl f107)), (qf109, .inl (cf109, 96, .inl f109))]) [0, 1, 2, 3, 4, 5, 6, 7, 8, 9, 10, 11] (by decide) rfl, hP.sub (ws' := [(h0, .inr (13, z25)), (qf100, .inl (cf100, 48000, .inl f100)), (qf103, .inl (cf103, 8, .inl f103)), (qf102, .inl (cf102, 2048, .inl f102)), (qf104, .inl (cf104, 8, .inl f104)), (qf118, .inl (cf118, 2100, .inl g118_25)), (qf119, .inl (cf119, 2100, .inl g119_25)), (qf105, .inl (cf105, 8, .inl f105)), (qf106, .inl (cf106, 8, .inl f106)), (qf108, .inl (cf108, 8, .inl f108)), (qf107, .inl (cf107, 96, .inl f107)), (qf109, .inl (cf109, 96, .inl f109))]) [0, 1, 2, 3, 4, 5, 6, 7, 8, 9, 10, 11] rfl, hfh_25_98, hfh_25_100, hfh_25_102, hfh_25_103, hfh_25_104, hfh_25_105, hfh_25_106, hfh_25_107, hfh_25_108, hfh_25_109, hfh_25_117, hfh_25_118, hfh_25_119, hfh_25_120, hfh_25_121, hfh_25_132, hfh_25_134, hlh_25, hrh_25, hsp⟩
    rw [if_neg hs_11] at hsp
    by_cases hs_12 : l2_25 = 187
    · rw [if_pos hs_12] at hsp
      refine lv_lookup (tgt := 131) hx hb dX13_right_27 (by decide) (off := 104) (by rw [hs_12]; rfl) (by decide) ?_
      exact hj_131 (H, locs, ls, z25, s0_25, g118_25, g119_25, x117_25, x120_25, x121_25) ⟨lv_sub hl [1, 0] rfl, hS, hD.sub (ws' := [(h0, .inr (13, z25)), (qf100, .inl (cf100, 48000, .inl f100)), (qf103, .inl (cf103, 8, .inl f103)), (qf102, .inl (cf102, 2048, .inl f102)), (qf104, .inl (cf104, 8, .inl f104)), (qf118, .inl (cf118, 2100, .inl g118_25)), (qf119, .inl (cf119, 2100, .inl g119_25)), (qf105, .inl (cf105, 8, .inl f105)), (qf106, .inl (cf106, 8, .inl f106)), (qf108, .inl (cf108, 8, .inl f108)), (qf107, .inl (cf107, 96, .inl f107)), (qf109, .inl (cf109, 96, .inl f109))]) [0, 1, 2, 3, 4, 5, 6, 7, 8, 9, 10, 11] (by decide) rfl, hP.sub (ws' := [(h0, .inr (13, z25)), (qf100, .inl (cf100, 48000, .inl f100)), (qf103, .inl (cf103, 8, .inl f103)), (qf102, .inl (cf102, 2048, .inl f102)), (qf104, .inl (cf104, 8, .inl f104)), (qf118, .inl (cf118, 2100, .inl g118_25)), (qf119, .inl (cf119, 2100, .inl g119_25)), (qf105, .inl (cf105, 8, .inl f105)), (qf106, .inl (cf106, 8, .inl f106)), (qf108, .inl (cf108, 8, .inl f108)), (qf107, .inl (cf107, 96, .inl f107)), (qf109, .inl (cf109, 96, .inl f109))]) [0, 1, 2, 3, 4, 5, 6, 7, 8, 9, 10, 11] rfl, hfh_25_98, hfh_25_100, hfh_25_102, hfh_25_103, hfh_25_104, hfh_25_105, hfh_25_106, hfh_25_107, hfh_25_108, hfh_25_109, hfh_25_117, hfh_25_118, hfh_25_119, hfh_25_120, hfh_25_121, hfh_25_132, hfh_25_134, hlh_25, hrh_25, hsp⟩
    rw [if_neg hs_12] at hsp
    by_cases hs_13 : l2_25 = 188
    · rw [if_pos hs_13] at hsp
      refine lv_lookup (tgt := 175) hx hb dX13_right_27 (by decide) (off := 148) (by rw [hs_13]; rfl) (by decide) ?_
      refine lv_iload_n hx hb dX13_right_175 rfl (lv_at hl 0 rfl) ?_
      refine lv_bipush (v := 10) hx hb dX13_right_176 (by decide) ?_
      refine lv_icmp_ne (tgt := 185) hx hb dX13_right_178 (by decide) (fun c_14 => ?_) (fun c_14 => ?_)
      · rw [if_neg c_14] at hsp
        refine lv_iconst (v := 0) hx hb dX13_right_185 (by decide) ?_
        have hr0 := Option.some.inj hsp
        clear hsp
        obtain ⟨hq0, hr1⟩ := Prod.mk.inj hr0
        clear hr0
        obtain ⟨hq1, hr2⟩ := Prod.mk.inj hr1
        clear hr1
        obtain ⟨hq2, hr3⟩ := Prod.mk.inj hr2
        clear hr2
        obtain ⟨hq3, hr4⟩ := Prod.mk.inj hr3
        clear hr3
        obtain ⟨hq4, hr5⟩ := Prod.mk.inj hr4
        clear hr4
        subst hq0
        subst hq1
        subst hq2
        subst hq3
        subst hq4
        subst hr5
        have hP9 := hP.sub (ws' := [(h0, .inr (13, z25)), (qf100, .inl (cf100, 48000, .inl f100)), (qf103, .inl (cf103, 8, .inl f103)), (qf102, .inl (cf102, 2048, .inl f102)), (qf104, .inl (cf104, 8, .inl f104)), (qf118, .inl (cf118, 2100, .inl g118_25)), (qf119, .inl (cf119, 2100, .inl g119_25)), (qf105, .inl (cf105, 8, .inl f105)), (qf106, .inl (cf106, 8, .inl f106)), (qf108, .inl (cf108, 8, .inl f108)), (qf107, .inl (cf107, 96, .inl f107)), (qf109, .inl (cf109, 96, .inl f109))]) [0, 1, 2, 3, 4, 5, 6, 7, 8, 9, 10, 11] rfl
        have hD9 := hD.sub (ws' := [(h0, .inr (13, z25)), (qf100, .inl (cf100, 48000, .inl f100)), (qf103, .inl (cf103, 8, .inl f103)), (qf102, .inl (cf102, 2048, .inl f102)), (qf104, .inl (cf104, 8, .inl f104)), (qf118, .inl (cf118, 2100, .inl g118_25)), (qf119, .inl (cf119, 2100, .inl g119_25)), (qf105, .inl (cf105, 8, .inl f105)), (qf106, .inl (cf106, 8, .inl f106)), (qf108, .inl (cf108, 8, .inl f108)), (qf107, .inl (cf107, 96, .inl f107)), (qf109, .inl (cf109, 96, .inl f109))]) [0, 1, 2, 3, 4, 5, 6, 7, 8, 9, 10, 11] (by decide) rfl
        have hK9 := hK.sub (tys' := [(cf100, .int), (cf103, .int), (cf102, .int), (cf104, .int), (cf118, .int), (cf119, .int), (cf105, .int), (cf106, .int), (cf108, .int), (cf107, .int), (cf109, .int)]) [0, 1, 2, 3, 4, 5, 6, 7, 8, 9, 10] rfl
        exact W.zret hx hb hr (by decide) (fun t ht hW => ⟨⟨(0), (z25), rfl, ⟨⟨rfl, Or.inl rfl⟩, hlh_25, hrh_25, hfh_25_117, hfh_25_120, hfh_25_121⟩, by rw [ht]; exact hP9, va_K.moved hW.alike hK9, hD9⟩, hS.F ht⟩) hS.2.2 dX13_right_186
      · rw [if_pos c_14] at hsp
        refine lv_iconst (v := 1) hx hb dX13_right_181 (by decide) ?_
        refine lv_goto (tgt := 186) hx hb dX13_right_182 (by decide) ?_
        have hr0 := Option.some.inj hsp
        clear hsp
        obtain ⟨hq0, hr1⟩ := Prod.mk.inj hr0
        clear hr0
        obtain ⟨hq1, hr2⟩ := Prod.mk.inj hr1
        clear hr1
        obtain ⟨hq2, hr3⟩ := Prod.mk.inj hr2
        clear hr2
        obtain ⟨hq3, hr4⟩ := Prod.mk.inj hr3
        clear hr3
        obtain ⟨hq4, hr5⟩ := Prod.mk.inj hr4
        clear hr4
        subst hq0
        subst hq1
        subst hq2
        subst hq3
        subst hq4
        subst hr5
        have hP9 := hP.sub (ws' := [(h0, .inr (13, z25)), (qf100, .inl (cf100, 48000, .inl f100)), (qf103, .inl (cf103, 8, .inl f103)), (qf102, .inl (cf102, 2048, .inl f102)), (qf104, .inl (cf104, 8, .inl f104)), (qf118, .inl (cf118, 2100, .inl g118_25)), (qf119, .inl (cf119, 2100, .inl g119_25)), (qf105, .inl (cf105, 8, .inl f105)), (qf106, .inl (cf106, 8, .inl f106)), (qf108, .inl (cf108, 8, .inl f108)), (qf107, .inl (cf107, 96, .inl f107)), (qf109, .inl (cf109, 96, .inl f109))]) [0, 1, 2, 3, 4, 5, 6, 7, 8, 9, 10, 11] rfl
        have hD9 := hD.sub (ws' := [(h0, .inr (13, z25)), (qf100, .inl (cf100, 48000, .inl f100)), (qf103, .inl (cf103, 8, .inl f103)), (qf102, .inl (cf102, 2048, .inl f102)), (qf104, .inl (cf104, 8, .inl f104)), (qf118, .inl (cf118, 2100, .inl g118_25)), (qf119, .inl (cf119, 2100, .inl g119_25)), (qf105, .inl (cf105, 8, .inl f105)), (qf106, .inl (cf106, 8, .inl f106)), (qf108, .inl (cf108, 8, .inl f108)), (qf107, .inl (cf107, 96, .inl f107)), (qf109, .inl (cf109, 96, .inl f109))]) [0, 1, 2, 3, 4, 5, 6, 7, 8, 9, 10, 11] (by decide) rfl
        have hK9 := hK.sub (tys' := [(cf100, .int), (cf103, .int), (cf102, .int), (cf104, .int), (cf118, .int), (cf119, .int), (cf105, .int), (cf106, .int), (cf108, .int), (cf107, .int), (cf109, .int)]) [0, 1, 2, 3, 4, 5, 6, 7, 8, 9, 10] rfl
        exact W.zret hx hb hr (by decide) (fun t ht hW => ⟨⟨(1), (z25), rfl, ⟨⟨rfl, Or.inr rfl⟩, hlh_25, hrh_25, hfh_25_117, hfh_25_120, hfh_25_121⟩, by rw [ht]; exact hP9, va_K.moved hW.alike hK9, hD9⟩, hS.F ht⟩) hS.2.2 dX13_right_186
    rw [if_neg hs_13] at hsp
    by_cases hs_15 : l2_25 = 189
    · rw [if_pos hs_15] at hsp
      refine lv_lookup (tgt := 131) hx hb dX13_right_27 (by decide) (off := 104) (by rw [hs_15]; rfl) (by decide) ?_
      exact hj_131 (H, locs, ls, z25, s0_25, g118_25, g119_25, x117_25, x120_25, x121_25) ⟨lv_sub hl [1, 0] rfl, hS, hD.sub (ws' := [(h0, .inr (13, z25)), (qf100, .inl (cf100, 48000, .inl f100)), (qf103, .inl (cf103, 8, .inl f103)), (qf102, .inl (cf102, 2048, .inl f102)), (qf104, .inl (cf104, 8, .inl f104)), (qf118, .inl (cf118, 2100, .inl g118_25)), (qf119, .inl (cf119, 2100, .inl g119_25)), (qf105, .inl (cf105, 8, .inl f105)), (qf106, .inl (cf106, 8, .inl f106)), (qf108, .inl (cf108, 8, .inl f108)), (qf107, .inl (cf107, 96, .inl f107)), (qf109, .inl (cf109, 96, .inl f109))]) [0, 1, 2, 3, 4, 5, 6, 7, 8, 9, 10, 11] (by decide) rfl, hP.sub (ws' := [(h0, .inr (13, z25)), (qf100, .inl (cf100, 48000, .inl f100)), (qf103, .inl (cf103, 8, .inl f103)), (qf102, .inl (cf102, 2048, .inl f102)), (qf104, .inl (cf104, 8, .inl f104)), (qf118, .inl (cf118, 2100, .inl g118_25)), (qf119, .inl (cf119, 2100, .inl g119_25)), (qf105, .inl (cf105, 8, .inl f105)), (qf106, .inl (cf106, 8, .inl f106)), (qf108, .inl (cf108, 8, .inl f108)), (qf107, .inl (cf107, 96, .inl f107)), (qf109, .inl (cf109, 96, .inl f109))]) [0, 1, 2, 3, 4, 5, 6, 7, 8, 9, 10, 11] rfl, hfh_25_98, hfh_25_100, hfh_25_102, hfh_25_103, hfh_25_104, hfh_25_105, hfh_25_106, hfh_25_107, hfh_25_108, hfh_25_109, hfh_25_117, hfh_25_118, hfh_25_119, hfh_25_120, hfh_25_121, hfh_25_132, hfh_25_134, hlh_25, hrh_25, hsp⟩
    rw [if_neg hs_15] at hsp
    by_cases hs_16 : l2_25 = 192
    · rw [if_pos hs_16] at hsp
      refine lv_lookup (tgt := 131) hx hb dX13_right_27 (by decide) (off := 104) (by rw [hs_16]; rfl) (by decide) ?_
      exact hj_131 (H, locs, ls, z25, s0_25, g118_25, g119_25, x117_25, x120_25, x121_25) ⟨lv_sub hl [1, 0] rfl, hS, hD.sub (ws' := [(h0, .inr (13, z25)), (qf100, .inl (cf100, 48000, .inl f100)), (qf103, .inl (cf103, 8, .inl f103)), (qf102, .inl (cf102, 2048, .inl f102)), (qf104, .inl (cf104, 8, .inl f104)), (qf118, .inl (cf118, 2100, .inl g118_25)), (qf119, .inl (cf119, 2100, .inl g119_25)), (qf105, .inl (cf105, 8, .inl f105)), (qf106, .inl (cf106, 8, .inl f106)), (qf108, .inl (cf108, 8, .inl f108)), (qf107, .inl (cf107, 96, .inl f107)), (qf109, .inl (cf109, 96, .inl f109))]) [0, 1, 2, 3, 4, 5, 6, 7, 8, 9, 10, 11] (by decide) rfl, hP.sub (ws' := [(h0, .inr (13, z25)), (qf100, .inl (cf100, 48000, .inl f100)), (qf103, .inl (cf103, 8, .inl f103)), (qf102, .inl (cf102, 2048, .inl f102)), (qf104, .inl (cf104, 8, .inl f104)), (qf118, .inl (cf118, 2100, .inl g118_25)), (qf119, .inl (cf119, 2100, .inl g119_25)), (qf105, .inl (cf105, 8, .inl f105)), (qf106, .inl (cf106, 8, .inl f106)), (qf108, .inl (cf108, 8, .inl f108)), (qf107, .inl (cf107, 96, .inl f107)), (qf109, .inl (cf109, 96, .inl f109))]) [0, 1, 2, 3, 4, 5, 6, 7, 8, 9, 10, 11] rfl, hfh_25_98, hfh_25_100, hfh_25_102, hfh_25_103, hfh_25_104, hfh_25_105, hfh_25_106, hfh_25_107, hfh_25_108, hfh_25_109, hfh_25_117, hfh_25_118, hfh_25_119, hfh_25_120, hfh_25_121, hfh_25_132, hfh_25_134, hlh_25, hrh_25, hsp⟩
    rw [if_neg hs_16] at hsp
    by_cases hs_17 : l2_25 = 193
    · rw [if_pos hs_17] at hsp
      refine lv_lookup (tgt := 131) hx hb dX13_right_27 (by decide) (off := 104) (by rw [hs_17]; rfl) (by decide) ?_
      exact hj_131 (H, locs, ls, z25, s0_25, g118_25, g119_25, x117_25, x120_25, x121_25) ⟨lv_sub hl [1, 0] rfl, hS, hD.sub (ws' := [(h0, .inr (13, z25)), (qf100, .inl (cf100, 48000, .inl f100)), (qf103, .inl (cf103, 8, .inl f103)), (qf102, .inl (cf102, 2048, .inl f102)), (qf104, .inl (cf104, 8, .inl f104)), (qf118, .inl (cf118, 2100, .inl g118_25)), (qf119, .inl (cf119, 2100, .inl g119_25)), (qf105, .inl (cf105, 8, .inl f105)), (qf106, .inl (cf106, 8, .inl f106)), (qf108, .inl (cf108, 8, .inl f108)), (qf107, .inl (cf107, 96, .inl f107)), (qf109, .inl (cf109, 96, .inl f109))]) [0, 1, 2, 3, 4, 5, 6, 7, 8, 9, 10, 11] (by decide) rfl, hP.sub (ws' := [(h0, .inr (13, z25)), (qf100, .inl (cf100, 48000, .inl f100)), (qf103, .inl (cf103, 8, .inl f103)), (qf102, .inl (cf102, 2048, .inl f102)), (qf104, .inl (cf104, 8, .inl f104)), (qf118, .inl (cf118, 2100, .inl g118_25)), (qf119, .inl (cf119, 2100, .inl g119_25)), (qf105, .inl (cf105, 8, .inl f105)), (qf106, .inl (cf106, 8, .inl f106)), (qf108, .inl (cf108, 8, .inl f108)), (qf107, .inl (cf107, 96, .inl f107)), (qf109, .inl (cf109, 96, .inl f109))]) [0, 1, 2, 3, 4, 5, 6, 7, 8, 9, 10, 11] rfl, hfh_25_98, hfh_25_100, hfh_25_102, hfh_25_103, hfh_25_104, hfh_25_105, hfh_25_106, hfh_25_107, hfh_25_108, hfh_25_109, hfh_25_117, hfh_25_118, hfh_25_119, hfh_25_120, hfh_25_121, hfh_25_132, hfh_25_134, hlh_25, hrh_25, hsp⟩
    rw [if_neg hs_17] at hsp
    refine lv_lookup (tgt := 365) hx hb dX13_right_27 (by decide) (off := 338) (by show Op.lookupswitch.offset [(18, 89), (180, 160), (181, 160), (182, 160), (184, 160), (187, 104), (188, 148), (189, 104), (192, 104), (193, 104)] 338 (l2_25 : Int32).toInt = 338; rw [lv_osw hs_5 (a := 18) rfl, lv_osw hs_8 (a := 180) rfl, lv_osw hs_9 (a := 181) rfl, lv_osw hs_10 (a := 182) rfl, lv_osw hs_11 (a := 184) rfl, lv_osw hs_12 (a := 187) rfl, lv_osw hs_13 (a := 188) rfl, lv_osw hs_15 (a := 189) rfl, lv_osw hs_16 (a := 192) rfl, lv_osw hs_17 (a := 193) rfl]; rfl) (by decide) ?_
    refine lv_iconst (v := 1) hx hb dX13_right_365 (by decide) ?_
    have hr0 := Option.some.inj hsp
    clear hsp
    obtain ⟨hq0, hr1⟩ := Prod.mk.inj hr0
    clear hr0
    obtain ⟨hq1, hr2⟩ := Prod.mk.inj hr1
    clear hr1
    obtain ⟨hq2, hr3⟩ := Prod.mk.inj hr2
    clear hr2
    obtain ⟨hq3, hr4⟩ := Prod.mk.inj hr3
    clear hr3
    obtain ⟨hq4, hr5⟩ := Prod.mk.inj hr4
    clear hr4
    subst hq0
    subst hq1
    subst hq2
    subst hq3
    subst hq4
    subst hr5
    have hP9 := hP.sub (ws' := [(h0, .inr (13, z25)), (qf100, .inl (cf100, 48000, .inl f100)), (qf103, .inl (cf103, 8, .inl f103)), (qf102, .inl (cf102, 2048, .inl f102)), (qf104, .inl (cf104, 8, .inl f104)), (qf118, .inl (cf118, 2100, .inl g118_25)), (qf119, .inl (cf119, 2100, .inl g119_25)), (qf105, .inl (cf105, 8, .inl f105)), (qf106, .inl (cf106, 8, .inl f106)), (qf108, .inl (cf108, 8, .inl f108)), (qf107, .inl (cf107, 96, .inl f107)), (qf109, .inl (cf109, 96, .inl f109))]) [0, 1, 2, 3, 4, 5, 6, 7, 8, 9, 10, 11] rfl
    have hD9 := hD.sub (ws' := [(h0, .inr (13, z25)), (qf100, .inl (cf100, 48000, .inl f100)), (qf103, .inl (cf103, 8, .inl f103)), (qf102, .inl (cf102, 2048, .inl f102)), (qf104, .inl (cf104, 8, .inl f104)), (qf118, .inl (cf118, 2100, .inl g118_25)), (qf119, .inl (cf119, 2100, .inl g119_25)), (qf105, .inl (cf105, 8, .inl f105)), (qf106, .inl (cf106, 8, .inl f106)), (qf108, .inl (cf108, 8, .inl f108)), (qf107, .inl (cf107, 96, .inl f107)), (qf109, .inl (cf109, 96, .inl f109))]) [0, 1, 2, 3, 4, 5, 6, 7, 8, 9, 10, 11] (by decide) rfl
    have hK9 := hK.sub (tys' := [(cf100, .int), (cf103, .int), (cf102, .int), (cf104, .int), (cf118, .int), (cf119, .int), (cf105, .int), (cf106, .int), (cf108, .int), (cf107, .int), (cf109, .int)]) [0, 1, 2, 3, 4, 5, 6, 7, 8, 9, 10] rfl
    exact W.zret hx hb hr (by decide) (fun t ht hW => ⟨⟨(1), (z25), rfl, ⟨⟨rfl, Or.inr rfl⟩, hlh_25, hrh_25, hfh_25_117, hfh_25_120, hfh_25_121⟩, by rw [ht]; exact hP9, va_K.moved hW.alike hK9, hD9⟩, hS.F ht⟩) hS.2.2 dX13_right_366
  intro hj_25
  refine lv_aload_n hx hb dX13_right_0 rfl (lv_at hl 0 rfl) ?_
  refine lv_iload_n hx hb dX13_right_1 rfl (lv_at hl 1 rfl) ?_
  obtain ⟨u1_0, hu_1, hsp⟩ := ox_bind hsp
  try dsimp only at hsp
  have hPc := hP.sub (ws' := [(h0, .inr (13, zs)), (qf100, .inl (cf100, 48000, .inl f100))]) [0, 1] rfl
  have hDc := hD.sub (ws' := [(h0, .inr (13, zs)), (qf100, .inl (cf100, 48000, .inl f100))]) [0, 1] (by decide) rfl
  have hKc := hK.sub (tys' := [(cf100, .int)]) [0] rfl
  have hFc := va_free (wc := [(h0, .inr (13, zs)), (qf100, .inl (cf100, 48000, .inl f100))]) hD hS hA [0, 1] rfl
  refine va_calli (va_runV (As := [.int a1]) (rest := []) ⟨hx, hb, hml, hown, hts⟩ (tm_code l dC dI H.size h0 zs a1 qf100 v132 v134 cf100 f100 nf u1_0 hlen hf100 hf132 hf134 hu_1) (cwV 1 hts gv_h9_65 rfl rfl rfl (by decide +kernel) ⟨Nat.le_of_ble_eq_true rfl, Nat.le_of_ble_eq_true rfl⟩) ⟨fun a U g mk q => by obtain ⟨q0, q1, qP, qK, qD⟩ := q; exact ⟨q0, q1, qP, va_K.moved (u := U) (U := U.calling g mk a) (Vm.Alike.refl U.vm) qK, qD⟩, va_recv hKc hPc (ci := 13) (q0 := 0) rfl rfl, fun U hU hW => ⟨rfl, by rw [hU], by rw [hU]; exact hPc, va_K.moved hW.alike hKc, hDc.weaken (fun _ _ _ _ => trivial)⟩⟩ rfl rfl hl.1 rfl (lv_room (Nat.le_of_ble_eq_true rfl)) dX13_right_2 ⟨Nat.le_of_ble_eq_true rfl, Nat.le_of_ble_eq_true rfl⟩) hS (fun q _ h => hFc q h) hFc ?_
  clear hS
  intro r_1 u t H1 locs ht hvm hw hB hz1 hk1 hS
  obtain ⟨z_1, rfl⟩ : ∃ z, z = u := ⟨_, rfl⟩
  obtain ⟨hP1, hK1, hD1⟩ := hB
  rw [ht] at hP1
  have hK1 := va_K.moved hvm.symm hK1
  try dsimp only at hw
  have hPD := va_join (wr := [(qf103, .inl (cf103, 8, .inl f103)), (qf102, .inl (cf102, 2048, .inl f102)), (qf104, .inl (cf104, 8, .inl f104)), (qf118, .inl (cf118, 2100, .inl f118)), (qf119, .inl (cf119, 2100, .inl f119)), (qf105, .inl (cf105, 8, .inl f105)), (qf106, .inl (cf106, 8, .inl f106)), (qf108, .inl (cf108, 8, .inl f108)), (qf107, .inl (cf107, 96, .inl f107)), (qf109, .inl (cf109, 96, .inl f109))]) (w1 := [(h0, .inr (13, z_1)), (qf100, .inl (cf100, 48000, .inl f100))]) hP hD [0, 1] [2, 3, 4, 5, 6, 7, 8, 9, 10, 11] rfl rfl (by decide) (by decide) hk1 hFc hP1 hD1
  clear hP hD
  obtain ⟨hP, hD⟩ := hPD
  replace hK := (hK.sub (tys' := [(cf103, .int), (cf102, .int), (cf104, .int), (cf118, .int), (cf119, .int), (cf105, .int), (cf106, .int), (cf108, .int), (cf107, .int), (cf109, .int)]) [1, 2, 3, 4, 5, 6, 7, 8, 9, 10] rfl).app hK1
  clear hPc hDc hKc hFc hP1 hK1 hD1 hz1 hk1 ht hvm
  generalize H1 = H at hP hS ⊢
  replace hP : va_P (dC, dI) vwCl [(qf103, .inl (cf103, 8, .inl f103)), (qf102, .inl (cf102, 2048, .inl f102)), (qf104, .inl (cf104, 8, .inl f104)), (qf118, .inl (cf118, 2100, .inl f118)), (qf119, .inl (cf119, 2100, .inl f119)), (qf105, .inl (cf105, 8, .inl f105)), (qf106, .inl (cf106, 8, .inl f106)), (qf108, .inl (cf108, 8, .inl f108)), (qf107, .inl (cf107, 96, .inl f107)), (qf109, .inl (cf109, 96, .inl f109)), (h0, .inr (13, z_1)), (qf100, .inl (cf100, 48000, .inl f100))] H := hP
  replace hD : va_D A [(qf103, .inl (cf103, 8, .inl f103)), (qf102, .inl (cf102, 2048, .inl f102)), (qf104, .inl (cf104, 8, .inl f104)), (qf118, .inl (cf118, 2100, .inl f118)), (qf119, .inl (cf119, 2100, .inl f119)), (qf105, .inl (cf105, 8, .inl f105)), (qf106, .inl (cf106, 8, .inl f106)), (qf108, .inl (cf108, 8, .inl f108)), (qf107, .inl (cf107, 96, .inl f107)), (qf109, .inl (cf109, 96, .inl f109)), (h0, .inr (13, z_1)), (qf100, .inl (cf100, 48000, .inl f100))] := hD
  replace hK : va_K (dC, dI) vwCl [(cf103, .int), (cf102, .int), (cf104, .int), (cf118, .int), (cf119, .int), (cf105, .int), (cf106, .int), (cf108, .int), (cf107, .int), (cf109, .int), (cf100, .int)] s := hK
  obtain ⟨hwa_1, hln_1, hre_1⟩ := hw
  have hfk_1_98 : z_1[98]? = some (.int v98) := (hre_1 98 ).trans (hf98)
  have hfk_1_100 : z_1[100]? = some (.ref qf100) := (hre_1 100 ).trans (hf100)
  have hfk_1_102 : z_1[102]? = some (.ref qf102) := (hre_1 102 ).trans (hf102)
  have hfk_1_103 : z_1[103]? = some (.ref qf103) := (hre_1 103 ).trans (hf103)
  have hfk_1_104 : z_1[104]? = some (.ref qf104) := (hre_1 104 ).trans (hf104)
  have hfk_1_105 : z_1[105]? = some (.ref qf105) := (hre_1 105 ).trans (hf105)
  have hfk_1_106 : z_1[106]? = some (.ref qf106) := (hre_1 106 ).trans (hf106)
  have hfk_1_107 : z_1[107]? = some (.ref qf107) := (hre_1 107 ).trans (hf107)
  have hfk_1_108 : z_1[108]? = some (.ref qf108) := (hre_1 108 ).trans (hf108)
  have hfk_1_109 : z_1[109]? = some (.ref qf109) := (hre_1 109 ).trans (hf109)
  have hfk_1_117 : z_1[117]? = some (.int v117) := (hre_1 117 ).trans (hf117)
  have hfk_1_118 : z_1[118]? = some (.ref qf118) := (hre_1 118 ).trans (hf118)
  have hfk_1_119 : z_1[119]? = some (.ref qf119) := (hre_1 119 ).trans (hf119)
  have hfk_1_120 : z_1[120]? = some (.int v120) := (hre_1 120 ).trans (hf120)
  have hfk_1_121 : z_1[121]? = some (.int v121) := (hre_1 121 ).trans (hf121)
  have hfk_1_132 : z_1[132]? = some (.int v132) := (hre_1 132 ).trans (hf132)
  have hfk_1_134 : z_1[134]? = some (.int v134) := (hre_1 134 ).trans (hf134)
  have hrq_1 : ∀ j : Nat, j ≠ 117 → j ≠ 120 → j ≠ 121 → z_1[j]? = zs[j]? := fun j g117 g120 g121 => (hre_1 j ).trans (hrs0 j g117 g120 g121)
  obtain rfl := hwa_1
  refine lv_istore_n (lv' := [(2, .int u1_0), (0, .ref h0), (1, .int a1)]) hx hb dX13_right_5 rfl hl (by decide) rfl (fun ls hl => ?_)
  refine lv_iload_n hx hb dX13_right_6 rfl (lv_at hl 0 rfl) ?_
  obtain ⟨u2_0, hu_2, hsp⟩ := ox_bind hsp
  try dsimp only at hsp
  have hPc := hP.sub (ws' := []) [] rfl
  have hDc := hD.sub (ws' := []) [] (by decide) rfl
  have hKc := hK.sub (tys' := []) [] rfl
  have hFc := va_free (wc := []) hD hS hA [] rfl
  refine va_calli (va_runS (As := [.int u1_0]) (rest := []) ⟨hx, hb, hml, hown, hts⟩ (tm_widthOf l dC dI H.size u1_0 nf u2_0 hu_2) (va_cwS 1 hts gv_h9_66 rfl rfl rfl (by decide +kernel) ⟨Nat.le_of_ble_eq_true rfl, Nat.le_of_ble_eq_true rfl⟩) ⟨fun a U g mk q => by obtain ⟨q0, q1, qP, qK, qD⟩ := q; exact ⟨q0, q1, qP, va_K.moved (u := U) (U := U.calling g mk a) (Vm.Alike.refl U.vm) qK, qD⟩, fun U hU hW => ⟨rfl, by rw [hU], by rw [hU]; exact hPc, va_K.moved hW.alike hKc, hDc.weaken (fun _ _ _ _ => trivial)⟩⟩ rfl rfl hl.1 rfl (lv_room (Nat.le_of_ble_eq_true rfl)) dX13_right_7 ⟨Nat.le_of_ble_eq_true rfl, Nat.le_of_ble_eq_true rfl⟩) hS (fun q _ h => hFc q h) hFc ?_
  clear hS
  intro r_2 u t H1 locs ht hvm hw hB hz1 hk1 hS
  obtain ⟨⟩ := u
  obtain ⟨hP1, hK1, hD1⟩ := hB
  rw [ht] at hP1
  have hK1 := va_K.moved hvm.symm hK1
  try dsimp only at hw
  have hPD := va_join (wr := [(qf103, .inl (cf103, 8, .inl f103)), (qf102, .inl (cf102, 2048, .inl f102)), (qf104, .inl (cf104, 8, .inl f104)), (qf118, .inl (cf118, 2100, .inl f118)), (qf119, .inl (cf119, 2100, .inl f119)), (qf105, .inl (cf105, 8, .inl f105)), (qf106, .inl (cf106, 8, .inl f106)), (qf108, .inl (cf108, 8, .inl f108)), (qf107, .inl (cf107, 96, .inl f107)), (qf109, .inl (cf109, 96, .inl f109)), (h0, .inr (13, z_1)), (qf100, .inl (cf100, 48000, .inl f100))]) (w1 := []) hP hD [] [0, 1, 2, 3, 4, 5, 6, 7, 8, 9, 10, 11] rfl rfl (by decide) (by decide) hk1 hFc hP1 hD1
  clear hP hD
  obtain ⟨hP, hD⟩ := hPD
  replace hK := (hK.sub (tys' := [(cf103, .int), (cf102, .int), (cf104, .int), (cf118, .int), (cf119, .int), (cf105, .int), (cf106, .int), (cf108, .int), (cf107, .int), (cf109, .int), (cf100, .int)]) [0, 1, 2, 3, 4, 5, 6, 7, 8, 9, 10] rfl).app hK1
  clear hPc hDc hKc hFc hP1 hK1 hD1 hz1 hk1 ht hvm
  generalize H1 = H at hP hS ⊢
  replace hP : va_P (dC, dI) vwCl [(qf103, .inl (cf103, 8, .inl f103)), (qf102, .inl (cf102, 2048, .inl f102)), (qf104, .inl (cf104, 8, .inl f104)), (qf118, .inl (cf118, 2100, .inl f118)), (qf119, .inl (cf119, 2100, .inl f119)), (qf105, .inl (cf105, 8, .inl f105)), (qf106, .inl (cf106, 8, .inl f106)), (qf108, .inl (cf108, 8, .inl f108)), (qf107, .inl (cf107, 96, .inl f107)), (qf109, .inl (cf109, 96, .inl f109)), (h0, .inr (13, z_1)), (qf100, .inl (cf100, 48000, .inl f100))] H := hP
  replace hD : va_D A [(qf103, .inl (cf103, 8, .inl f103)), (qf102, .inl (cf102, 2048, .inl f102)), (qf104, .inl (cf104, 8, .inl f104)), (qf118, .inl (cf118, 2100, .inl f118)), (qf119, .inl (cf119, 2100, .inl f119)), (qf105, .inl (cf105, 8, .inl f105)), (qf106, .inl (cf106, 8, .inl f106)), (qf108, .inl (cf108, 8, .inl f108)), (qf107, .inl (cf107, 96, .inl f107)), (qf109, .inl (cf109, 96, .inl f109)), (h0, .inr (13, z_1)), (qf100, .inl (cf100, 48000, .inl f100))] := hD
  replace hK : va_K (dC, dI) vwCl [(cf103, .int), (cf102, .int), (cf104, .int), (cf118, .int), (cf119, .int), (cf105, .int), (cf106, .int), (cf108, .int), (cf107, .int), (cf109, .int), (cf100, .int)] s := hK
  obtain rfl := hw
  refine lv_iconst (v := 2) hx hb dX13_right_10 (by decide) ?_
  refine lv_icmp_ne (tgt := 24) hx hb dX13_right_11 (by decide) (fun c_3 => ?_) (fun c_3 => ?_)
  · rw [if_neg c_3] at hsp
    refine lv_iconst (v := 0) hx hb dX13_right_24 (by decide) ?_
    exact hj_25 (H, locs, ls, z_1, u1_0, 0, f118, f119, v117, v120, v121) ⟨lv_sub hl [1, 0] rfl, hS, hD.sub (ws' := [(h0, .inr (13, z_1)), (qf100, .inl (cf100, 48000, .inl f100)), (qf103, .inl (cf103, 8, .inl f103)), (qf102, .inl (cf102, 2048, .inl f102)), (qf104, .inl (cf104, 8, .inl f104)), (qf118, .inl (cf118, 2100, .inl f118)), (qf119, .inl (cf119, 2100, .inl f119)), (qf105, .inl (cf105, 8, .inl f105)), (qf106, .inl (cf106, 8, .inl f106)), (qf108, .inl (cf108, 8, .inl f108)), (qf107, .inl (cf107, 96, .inl f107)), (qf109, .inl (cf109, 96, .inl f109))]) [10, 11, 0, 1, 2, 3, 4, 5, 6, 7, 8, 9] (by decide) rfl, hP.sub (ws' := [(h0, .inr (13, z_1)), (qf100, .inl (cf100, 48000, .inl f100)), (qf103, .inl (cf103, 8, .inl f103)), (qf102, .inl (cf102, 2048, .inl f102)), (qf104, .inl (cf104, 8, .inl f104)), (qf118, .inl (cf118, 2100, .inl f118)), (qf119, .inl (cf119, 2100, .inl f119)), (qf105, .inl (cf105, 8, .inl f105)), (qf106, .inl (cf106, 8, .inl f106)), (qf108, .inl (cf108, 8, .inl f108)), (qf107, .inl (cf107, 96, .inl f107)), (qf109, .inl (cf109, 96, .inl f109))]) [10, 11, 0, 1, 2, 3, 4, 5, 6, 7, 8, 9] rfl, hfk_1_98, hfk_1_100, hfk_1_102, hfk_1_103, hfk_1_104, hfk_1_105, hfk_1_106, hfk_1_107, hfk_1_108, hfk_1_109, hfk_1_117, hfk_1_118, hfk_1_119, hfk_1_120, hfk_1_121, hfk_1_132, hfk_1_134, hln_1, hrq_1, hsp⟩
  · rw [if_pos c_3] at hsp
    refine lv_aload_n hx hb dX13_right_14 rfl (lv_at hl 1 rfl) ?_
    refine lv_iload_n hx hb dX13_right_15 rfl (lv_at hl 2 rfl) ?_
    refine lv_iconst (v := 1) hx hb dX13_right_16 (by decide) ?_
    refine lv_iadd hx hb dX13_right_17 ?_
    obtain ⟨u3_0, hu_3, hsp⟩ := ox_bind hsp
    try dsimp only at hsp
    have hPc := hP.sub (ws' := [(h0, .inr (13, z_1)), (qf100, .inl (cf100, 48000, .inl f100))]) [10, 11] rfl
    have hDc := hD.sub (ws' := [(h0, .inr (13, z_1)), (qf100, .inl (cf100, 48000, .inl f100))]) [10, 11] (by decide) rfl
    have hKc := hK.sub (tys' := [(cf100, .int)]) [10] rfl
    have hFc := va_free (wc := [(h0, .inr (13, z_1)), (qf100, .inl (cf100, 48000, .inl f100))]) hD hS hA [10, 11] rfl
    refine va_calli (va_runV (As := [.int (a1 + 1)]) (rest := []) ⟨hx, hb, hml, hown, hts⟩ (tm_code l dC dI H.size h0 z_1 ((a1 + 1)) qf100 v132 v134 cf100 f100 nf u3_0 hln_1 hfk_1_100 hfk_1_132 hfk_1_134 hu_3) (cwV 1 hts gv_h9_65 rfl rfl rfl (by decide +kernel) ⟨Nat.le_of_ble_eq_true rfl, Nat.le_of_ble_eq_true rfl⟩) ⟨fun a U g mk q => by obtain ⟨q0, q1, qP, qK, qD⟩ := q; exact ⟨q0, q1, qP, va_K.moved (u := U) (U := U.calling g mk a) (Vm.Alike.refl U.vm) qK, qD⟩, va_recv hKc hPc (ci := 13) (q0 := 0) rfl rfl, fun U hU hW => ⟨rfl, by rw [hU], by rw [hU]; exact hPc, va_K.moved hW.alike hKc, hDc.weaken (fun _ _ _ _ => trivial)⟩⟩ rfl rfl hl.1 rfl (lv_room (Nat.le_of_ble_eq_true rfl)) dX13_right_18 ⟨Nat.le_of_ble_eq_true rfl, Nat.le_of_ble_eq_true rfl⟩) hS (fun q _ h => hFc q h) hFc ?_
    clear hS
    intro r_4 u t H1 locs ht hvm hw hB hz1 hk1 hS
    obtain ⟨z_3, rfl⟩ : ∃ z, z = u := ⟨_, rfl⟩
    obtain ⟨hP1, hK1, hD1⟩ := hB
    rw [ht] at hP1
    have hK1 := va_K.moved hvm.symm hK1
    try dsimp only at hw
    have hPD := va_join (wr := [(qf103, .inl (cf103, 8, .inl f103)), (qf102, .inl (cf102, 2048, .inl f102)), (qf104, .inl (cf104, 8, .inl f104)), (qf118, .inl (cf118, 2100, .inl f118)), (qf119, .inl (cf119, 2100, .inl f119)), (qf105, .inl (cf105, 8, .inl f105)), (qf106, .inl (cf106, 8, .inl f106)), (qf108, .inl (cf108, 8, .inl f108)), (qf107, .inl (cf107, 96, .inl f107)), (qf109, .inl (cf109, 96, .inl f109))]) (w1 := [(h0, .inr (13, z_3)), (qf100, .inl (cf100, 48000, .inl f100))]) hP hD [10, 11] [0, 1, 2, 3, 4, 5, 6, 7, 8, 9] rfl rfl (by decide) (by decide) hk1 hFc hP1 hD1
    clear hP hD
    obtain ⟨hP, hD⟩ := hPD
    replace hK := (hK.sub (tys' := [(cf103, .int), (cf102, .int), (cf104, .int), (cf118, .int), (cf119, .int), (cf105, .int), (cf106, .int), (cf108, .int), (cf107, .int), (cf109, .int)]) [0, 1, 2, 3, 4, 5, 6, 7, 8, 9] rfl).app hK1
    clear hPc hDc hKc hFc hP1 hK1 hD1 hz1 hk1 ht hvm
    generalize H1 = H at hP hS ⊢
    replace hP : va_P (dC, dI) vwCl [(qf103, .inl (cf103, 8, .inl f103)), (qf102, .inl (cf102, 2048, .inl f102)), (qf104, .inl (cf104, 8, .inl f104)), (qf118, .inl (cf118, 2100, .inl f118)), (qf119, .inl (cf119, 2100, .inl f119)), (qf105, .inl (cf105, 8, .inl f105)), (qf106, .inl (cf106, 8, .inl f106)), (qf108, .inl (cf108, 8, .inl f108)), (qf107, .inl (cf107, 96, .inl f107)), (qf109, .inl (cf109, 96, .inl f109)), (h0, .inr (13, z_3)), (qf100, .inl (cf100, 48000, .inl f100))] H := hP
    replace hD : va_D A [(qf103, .inl (cf103, 8, .inl f103)), (qf102, .inl (cf102, 2048, .inl f102)), (qf104, .inl (cf104, 8, .inl f104)), (qf118, .inl (cf118, 2100, .inl f118)), (qf119, .inl (cf119, 2100, .inl f119)), (qf105, .inl (cf105, 8, .inl f105)), (qf106, .inl (cf106, 8, .inl f106)), (qf108, .inl (cf108, 8, .inl f108)), (qf107, .inl (cf107, 96, .inl f107)), (qf109, .inl (cf109, 96, .inl f109)), (h0, .inr (13, z_3)), (qf100, .inl (cf100, 48000, .inl f100))] := hD
    replace hK : va_K (dC, dI) vwCl [(cf103, .int), (cf102, .int), (cf104, .int), (cf118, .int), (cf119, .int), (cf105, .int), (cf106, .int), (cf108, .int), (cf107, .int), (cf109, .int), (cf100, .int)] s := hK
    obtain ⟨hwa_3, hln_3, hre_3⟩ := hw
    have hfk_3_98 : z_3[98]? = some (.int v98) := (hre_3 98 ).trans (hfk_1_98)
    have hfk_3_100 : z_3[100]? = some (.ref qf100) := (hre_3 100 ).trans (hfk_1_100)
    have hfk_3_102 : z_3[102]? = some (.ref qf102) := (hre_3 102 ).trans (hfk_1_102)
    have hfk_3_103 : z_3[103]? = some (.ref qf103) := (hre_3 103 ).trans (hfk_1_103)
    have hfk_3_104 : z_3[104]? = some (.ref qf104) := (hre_3 104 ).trans (hfk_1_104)
    have hfk_3_105 : z_3[105]? = some (.ref qf105) := (hre_3 105 ).trans (hfk_1_105)
    have hfk_3_106 : z_3[106]? = some (.ref qf106) := (hre_3 106 ).trans (hfk_1_106)
    have hfk_3_107 : z_3[107]? = some (.ref qf107) := (hre_3 107 ).trans (hfk_1_107)
    have hfk_3_108 : z_3[108]? = some (.ref qf108) := (hre_3 108 ).trans (hfk_1_108)
    have hfk_3_109 : z_3[109]? = some (.ref qf109) := (hre_3 109 ).trans (hfk_1_109)
    have hfk_3_117 : z_3[117]? = some (.int v117) := (hre_3 117 ).trans (hfk_1_117)
    have hfk_3_118 : z_3[118]? = some (.ref qf118) := (hre_3 118 ).trans (hfk_1_118)
    have hfk_3_119 : z_3[119]? = some (.ref qf119) := (hre_3 119 ).trans (hfk_1_119)
    have hfk_3_120 : z_3[120]? = some (.int v120) := (hre_3 120 ).trans (hfk_1_120)
    have hfk_3_121 : z_3[121]? = some (.int v121) := (hre_3 121 ).trans (hfk_1_121)
    have hfk_3_132 : z_3[132]? = some (.int v132) := (hre_3 132 ).trans (hfk_1_132)
    have hfk_3_134 : z_3[134]? = some (.int v134) := (hre_3 134 ).trans (hfk_1_134)
    have hrq_3 : ∀ j : Nat, j ≠ 117 → j ≠ 120 → j ≠ 121 → z_3[j]? = zs[j]? := fun j g117 g120 g121 => (hre_3 j ).trans (hrq_1 j g117 g120 g121)
    obtain rfl := hwa_3
    refine lv_goto (tgt := 25) hx hb dX13_right_21 (by decide) ?_
    exact hj_25 (H, locs, ls, z_3, u1_0, u3_0, f118, f119, v117, v120, v121) ⟨lv_sub hl [1, 0] rfl, hS, hD.sub (ws' := [(h0, .inr (13, z_3)), (qf100, .inl (cf100, 48000, .inl f100)), (qf103, .inl (cf103, 8, .inl f103)), (qf102, .inl (cf102, 2048, .inl f102)), (qf104, .inl (cf104, 8, .inl f104)), (qf118, .inl (cf118, 2100, .inl f118)), (qf119, .inl (cf119, 2100, .inl f119)), (qf105, .inl (cf105, 8, .inl f105)), (qf106, .inl (cf106, 8, .inl f106)), (qf108, .inl (cf108, 8, .inl f108)), (qf107, .inl (cf107, 96, .inl f107)), (qf109, .inl (cf109, 96, .inl f109))]) [10, 11, 0, 1, 2, 3, 4, 5, 6, 7, 8, 9] (by decide) rfl, hP.sub (ws' := [(h0, .inr (13, z_3)), (qf100, .inl (cf100, 48000, .inl f100)), (qf103, .inl (cf103, 8, .inl f103)), (qf102, .inl (cf102, 2048, .inl f102)), (qf104, .inl (cf104, 8, .inl f104)), (qf118, .inl (cf118, 2100, .inl f118)), (qf119, .inl (cf119, 2100, .inl f119)), (qf105, .inl (cf105, 8, .inl f105)), (qf106, .inl (cf106, 8, .inl f106)), (qf108, .inl (cf108, 8, .inl f108)), (qf107, .inl (cf107, 96, .inl f107)), (qf109, .inl (cf109, 96, .inl f109))]) [10, 11, 0, 1, 2, 3, 4, 5, 6, 7, 8, 9] rfl, hfk_3_98, hfk_3_100, hfk_3_102, hfk_3_103, hfk_3_104, hfk_3_105, hfk_3_106, hfk_3_107, hfk_3_108, hfk_3_109, hfk_3_117, hfk_3_118, hfk_3_119, hfk_3_120, hfk_3_121, hfk_3_132, hfk_3_134, hln_3, hrq_3, hsp⟩
def sp_vm_pullFit (nf : Nat) (a1 : Int32) (v98 : Int32) (v131 : Int32) (f128 : Nat → Int32) (f105 : Nat → Int32) (f102 : Nat → Int32) (f100 : Nat → Int32) (f104 : Nat → Int32) (nS477 : Nat) (fS477 : Nat → Int32) : Option (Int32 × Int32) := ((sp_tm_pull nf v131 f128).bind (fun p1 => (if p1.1 = (-1) then (some (0, p1.2)) else ((sp_vm_goes nf p1.1 a1 v98 f105 f102 f100 f104 nS477 fS477).bind (fun p2 => (if p2 = 0 then (some (0, p1.2)) else (some (1, p1.2))))))))

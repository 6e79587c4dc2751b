set_option maxHeartbeats 4000000 in
set_option maxRecDepth 100000 in
/-- ClassMillModel.classFits -/
theorem vm_classFits (l : Launch) (dC : Nat → ClassId) (dI : Nat → Nat → Nat) (sz : Nat) (h0 : Nat) (zs : (List Value)) (a1 : Int32) (v98 : Int32) (qf100 : Nat) (qf102 : Nat) (qf104 : Nat) (qf105 : Nat) (qf106 : Nat) (qf107 : Nat) (qf108 : Nat) (qf109 : Nat) (v117 : Int32) (qf118 : Nat) (qf119 : Nat) (v120 : Int32) (v121 : Int32) (v122 : Int32) (v123 : Int32) (v124 : Int32) (v125 : Int32) (cf105 : ClassId) (f105 : (Nat → Int32)) (cf102 : ClassId) (f102 : (Nat → Int32)) (cf100 : ClassId) (f100 : (Nat → Int32)) (cf104 : ClassId) (f104 : (Nat → Int32)) (cf106 : ClassId) (f106 : (Nat → Int32)) (cf107 : ClassId) (f107 : (Nat → Int32)) (cf109 : ClassId) (f109 : (Nat → Int32)) (cf118 : ClassId) (f118 : (Nat → Int32)) (cf119 : ClassId) (f119 : (Nat → Int32)) (cf108 : ClassId) (f108 : (Nat → Int32)) (nS477 : Nat) (fS477 : (Nat → Int32)) (hS477 : Nat) (qS477 : Nat) (tS477 : String) (nf : Nat) (r0 : Int32) (o118 : (Nat → Int32)) (o119 : (Nat → Int32)) (w117 : Int32) (w120 : Int32) (w121 : Int32) (w122 : Int32) (w123 : Int32) (w124 : Int32) (w125 : Int32) (hlen : zs.length = 155) (hf98 : zs[98]? = some (.int v98)) (hf100 : zs[100]? = some (.ref qf100)) (hf102 : zs[102]? = some (.ref qf102)) (hf104 : zs[104]? = some (.ref qf104)) (hf105 : zs[105]? = some (.ref qf105)) (hf106 : zs[106]? = some (.ref qf106)) (hf107 : zs[107]? = some (.ref qf107)) (hf108 : zs[108]? = some (.ref qf108)) (hf109 : zs[109]? = some (.ref qf109)) (hf117 : zs[117]? = some (.int v117)) (hf118 : zs[118]? = some (.ref qf118)) (hf119 : zs[119]? = some (.ref qf119)) (hf120 : zs[120]? = some (.int v120)) (hf121 : zs[121]? = some (.int v121)) (hf122 : zs[122]? = some (.int v122)) (hf123 : zs[123]? = some (.int v123)) (hf124 : zs[124]? = some (.int v124)) (hf125 : zs[125]? = some (.int v125)) (hsp : sp_vm_classFits nf a1 v98 v117 v120 v121 v122 v123 v124 v125 f105 f102 f100 f104 f106 f107 f109 f118 f119 f108 nS477 fS477 = some (r0, o118, o119, w117, w120, w121, w122, w123, w124, w125)) : Met l yX13_classFits (.code yX13_classFits cX13_classFits 8 (some .boolean) :: VS_h9) ({ frames := 10, cells := 0, slots := 0, locals := 233 }) (va_Pc [.ref h0, .int a1] (fun U => U.heap.size = sz ∧ va_P (dC, dI) vwCl [(h0, .inr (13, zs)), (qf105, .inl (cf105, 8, .inl f105)), (qf102, .inl (cf102, 2048, .inl f102)), (qf100, .inl (cf100, 48000, .inl f100)), (qf104, .inl (cf104, 8, .inl f104)), (qf106, .inl (cf106, 8, .inl f106)), (qf107, .inl (cf107, 96, .inl f107)), (qf109, .inl (cf109, 96, .inl f109)), (qf118, .inl (cf118, 2100, .inl f118)), (qf119, .inl (cf119, 2100, .inl f119)), (qf108, .inl (cf108, 8, .inl f108))] U.heap ∧ va_K (dC, dI) vwCl [(cf105, .int), (cf102, .int), (cf100, .int), (cf104, .int), (cf106, .int), (cf107, .int), (cf109, .int), (cf118, .int), (cf119, .int), (cf108, .int)] U ∧ va_D (fun _ => True) [(h0, .inr (13, zs)), (qf105, .inl (cf105, 8, .inl f105)), (qf102, .inl (cf102, 2048, .inl f102)), (qf100, .inl (cf100, 48000, .inl f100)), (qf104, .inl (cf104, 8, .inl f104)), (qf106, .inl (cf106, 8, .inl f106)), (qf107, .inl (cf107, 96, .inl f107)), (qf109, .inl (cf109, 96, .inl f109)), (qf118, .inl (cf118, 2100, .inl f118)), (qf119, .inl (cf119, 2100, .inl f119)), (qf108, .inl (cf108, 8, .inl f108))] ∧ pz_W nS477 fS477 hS477 qS477 (va_A [(h0, .inr (13, zs)), (qf105, .inl (cf105, 8, .inl f105)), (qf102, .inl (cf102, 2048, .inl f102)), (qf100, .inl (cf100, 48000, .inl f100)), (qf104, .inl (cf104, 8, .inl f104)), (qf106, .inl (cf106, 8, .inl f106)), (qf107, .inl (cf107, 96, .inl f107)), (qf109, .inl (cf109, 96, .inl f109)), (qf118, .inl (cf118, 2100, .inl f118)), (qf119, .inl (cf119, 2100, .inl f119)), (qf108, .inl (cf108, 8, .inl f108))] sz) U U.heap ∧ vk_R RX13 477 tS477 hS477 U)) (va_Qi (fun (r : Int32) (u : (List Value)) => match u with | (zo1) => (r0 = r ∧ (r0 = 0 ∨ r0 = 1)) ∧ zo1.length = 155 ∧ (∀ j : Nat, j ≠ 117 → j ≠ 120 → j ≠ 121 → j ≠ 122 → j ≠ 123 → j ≠ 124 → j ≠ 125 → zo1[j]? = zs[j]?) ∧ zo1[117]? = some (.int w117) ∧ zo1[120]? = some (.int w120) ∧ zo1[121]? = some (.int w121) ∧ zo1[122]? = some (.int w122) ∧ zo1[123]? = some (.int w123) ∧ zo1[124]? = some (.int w124) ∧ zo1[125]? = some (.int w125)) (fun (u : (List Value)) (t : State) => match u with | (zo1) => va_P (dC, dI) vwCl [(h0, .inr (13, zo1)), (qf105, .inl (cf105, 8, .inl f105)), (qf102, .inl (cf102, 2048, .inl f102)), (qf100, .inl (cf100, 48000, .inl f100)), (qf104, .inl (cf104, 8, .inl f104)), (qf106, .inl (cf106, 8, .inl f106)), (qf107, .inl (cf107, 96, .inl f107)), (qf109, .inl (cf109, 96, .inl f109)), (qf118, .inl (cf118, 2100, .inl o118)), (qf119, .inl (cf119, 2100, .inl o119)), (qf108, .inl (cf108, 8, .inl f108))] t.heap ∧ va_K (dC, dI) vwCl [(cf105, .int), (cf102, .int), (cf100, .int), (cf104, .int), (cf106, .int), (cf107, .int), (cf109, .int), (cf118, .int), (cf119, .int), (cf108, .int)] t ∧ va_D (va_A [(h0, .inr (13, zs)), (qf105, .inl (cf105, 8, .inl f105)), (qf102, .inl (cf102, 2048, .inl f102)), (qf100, .inl (cf100, 48000, .inl f100)), (qf104, .inl (cf104, 8, .inl f104)), (qf106, .inl (cf106, 8, .inl f106)), (qf107, .inl (cf107, 96, .inl f107)), (qf109, .inl (cf109, 96, .inl f109)), (qf118, .inl (cf118, 2100, .inl f118)), (qf119, .inl (cf119, 2100, .inl f119)), (qf108, .inl (cf108, 8, .inl f108))] sz) [(h0, .inr (13, zo1)), (qf105, .inl (cf105, 8, .inl f105)), (qf102, .inl (cf102, 2048, .inl f102)), (qf100, .inl (cf100, 48000, .inl f100)), (qf104, .inl (cf104, 8, .inl f104)), (qf106, .inl (cf106, 8, .inl f106)), (qf107, .inl (cf107, 96, .inl f107)), (qf109, .inl (cf109, 96, .inl f109)), (qf118, .inl (cf118, 2100, .inl o118)), (qf119, .inl (cf119, 2100, .inl o119)), (qf108, .inl (cf108, 8, .inl f108))]) (va_A [(h0, .inr (13, zs)), (qf105, .inl (cf105, 8, .inl f105)), (qf102, .inl (cf102, 2048, .inl f102)), (qf100, .inl (cf100, 48000, .inl f100)), (qf104, .inl (cf104, 8, .inl f104)), (qf106, .inl (cf106, 8, .inl f106)), (qf107, .inl (cf107, 96, .inl f107)), (qf109, .inl (cf109, 96, .inl f109)), (qf118, .inl (cf118, 2100, .inl f118)), (qf119, .inl (cf119, 2100, .inl f119)), (qf108, .inl (cf108, 8, .inl f108))] sz)) 0 0 (va_A [(h0, .inr (13, zs)), (qf105, .inl (cf105, 8, .inl f105)), (qf102, .inl (cf102, 2048, .inl f102)), (qf100, .inl (cf100, 48000, .inl f100)), (qf104, .inl (cf104, 8, .inl f104)), (qf106, .inl (cf106, 8, .inl f106)), (qf107, .inl (cf107, 96, .inl f107)), (qf109, .inl (cf109, 96, .inl f109)), (qf118, .inl (cf118, 2100, .inl f118)), (qf119, .inl (cf119, 2100, .inl f119)), (qf108, .inl (cf108, 8, .inl f108))] sz) := by
  refine Met.ofW (cc := cX13_classFits) (maxL := 8) (ret := (some .boolean)) (by decide) rfl ?_
  intro p e s m args below meth c s₁ B hml hv
  obtain ⟨rfl, hsz, hP, hK, hD0, hZWS477, hZRS477⟩ := hv
  have hx := B.exec
  have hb := B.bytes
  have hr := B.returns
  have hts := atoms_spec (ws := (.code yX13_classFits cX13_classFits 8 (some .boolean) :: VS_h9)) B.pre
  replace hts := fun w (h : w ∈ VS_h9) => hts w (List.mem_cons_of_mem _ h)
  have hown : s.vm.findClass RX13 = some m.cls := findClass_of_methodNamed B.named
  have hlocks := B.notSynchronized
  subst hsz
  have hD := hD0.self (sz := s.heap.size)
  generalize hAe : va_A [(h0, .inr (13, zs)), (qf105, .inl (cf105, 8, .inl f105)), (qf102, .inl (cf102, 2048, .inl f102)), (qf100, .inl (cf100, 48000, .inl f100)), (qf104, .inl (cf104, 8, .inl f104)), (qf106, .inl (cf106, 8, .inl f106)), (qf107, .inl (cf107, 96, .inl f107)), (qf109, .inl (cf109, 96, .inl f109)), (qf118, .inl (cf118, 2100, .inl f118)), (qf119, .inl (cf119, 2100, .inl f119)), (qf108, .inl (cf108, 8, .inl f108))] s.heap.size = A at hD hZWS477 ⊢
  have hA : ∀ q : Nat, s.heap.size ≤ q → A q := fun q h => by rw [← hAe]; exact Or.inr h
  have hP : va_P (dC, dI) vwCl [(h0, .inr (13, zs)), (qf105, .inl (cf105, 8, .inl f105)), (qf102, .inl (cf102, 2048, .inl f102)), (qf100, .inl (cf100, 48000, .inl f100)), (qf104, .inl (cf104, 8, .inl f104)), (qf106, .inl (cf106, 8, .inl f106)), (qf107, .inl (cf107, 96, .inl f107)), (qf109, .inl (cf109, 96, .inl f109)), (qf118, .inl (cf118, 2100, .inl f118)), (qf119, .inl (cf119, 2100, .inl f119)), (qf108, .inl (cf108, 8, .inl f108))] s.heap := hP
  have hl := lv_entry ([.ref h0, .int a1]) (n := 8) (Nat.le_of_ble_eq_true rfl)
  rw [lg_entry_eq]
  generalize (lg_sl ([.ref h0, .int a1]) ++ List.replicate (8 - (lg_sl ([.ref h0, .int a1])).length) Slot.unset).toArray = ls at hl ⊢
  have hl : lv_has ls 8 [(0, .ref h0), (1, .int a1)] := hl
  obtain ⟨H, hH⟩ : ∃ H : Heap, s.heap = H := ⟨_, rfl⟩
  rw [hH] at hP ⊢
  have hS : va_S A s.heap H [] := by rw [← hH]; exact va_S.rf
  obtain ⟨locs, hlo⟩ : ∃ locs : List Loc, locs = [] := ⟨_, rfl⟩
  rw [← hlo] at hS ⊢
  have hrs0 : ∀ j : Nat, j ≠ 117 → j ≠ 120 → j ≠ 121 → j ≠ 122 → j ≠ 123 → j ≠ 124 → j ≠ 125 → zs[j]? = zs[j]? := fun _ _ _ _ _ _ _ _  => rfl
  unfold sp_vm_classFits at hsp
  refine jn_use (α := Heap × List Loc × Array Slot × List Value × Int32 × Int32 × Int32 × (Nat → Int32) × (Nat → Int32) × Int32 × Int32 × Int32 × Int32 × Int32 × Int32 × Int32) (fun x9 => x9.1) (fun x9 => x9.2.1) (fun x9 => F0 m 60 x9.2.2.1 []) (fun x9 => match x9 with | (H, locs, ls, z60, l1_60, l2_60, l3_60, g118_60, g119_60, x117_60, x120_60, x121_60, x122_60, x123_60, x124_60, x125_60) => lv_has ls 8 [(0, .ref h0), (1, .int l1_60), (2, .int l2_60), (3, .int l3_60)] ∧ va_S A s.heap H locs ∧ va_D A [(h0, .inr (13, z60)), (qf105, .inl (cf105, 8, .inl f105)), (qf102, .inl (cf102, 2048, .inl f102)), (qf100, .inl (cf100, 48000, .inl f100)), (qf104, .inl (cf104, 8, .inl f104)), (qf106, .inl (cf106, 8, .inl f106)), (qf107, .inl (cf107, 96, .inl f107)), (qf109, .inl (cf109, 96, .inl f109)), (qf118, .inl (cf118, 2100, .inl g118_60)), (qf119, .inl (cf119, 2100, .inl g119_60)), (qf108, .inl (cf108, 8, .inl f108))] ∧ va_P (dC, dI) vwCl [(h0, .inr (13, z60)), (qf105, .inl (cf105, 8, .inl f105)), (qf102, .inl (cf102, 2048, .inl f102)), (qf100, .inl (cf100, 48000, .inl f100)), (qf104, .inl (cf104, 8, .inl f104)), (qf106, .inl (cf106, 8, .inl f106)), (qf107, .inl (cf107, 96, .inl f107)), (qf109, .inl (cf109, 96, .inl f109)), (qf118, .inl (cf118, 2100, .inl g118_60)), (qf119, .inl (cf119, 2100, .inl g119_60)), (qf108, .inl (cf108, 8, .inl f108))] H ∧ z60[98]? = some (.int v98) ∧ z60[100]? = some (.ref qf100) ∧ z60[102]? = some (.ref qf102) ∧ z60[104]? = some (.ref qf104) ∧ z60[105]? = some (.ref qf105) ∧ z60[106]? = some (.ref qf106) ∧ z60[107]? = some (.ref qf107) ∧ z60[108]? = some (.ref qf108) ∧ z60[109]? = some (.ref qf109) ∧ z60[117]? = some (.int x117_60) ∧ z60[118]? = some (.ref qf118) ∧ z60[119]? = some (.ref qf119) ∧ z60[120]? = some (.int x120_60) ∧ z60[121]? = some (.int x121_60) ∧ z60[122]? = some (.int x122_60) ∧ z60[123]? = some (.int x123_60) ∧ z60[124]? = some (.int x124_60) ∧ z60[125]? = some (.int x125_60) ∧ z60.length = 155 ∧ (∀ j : Nat, j ≠ 117 → j ≠ 120 → j ≠ 121 → j ≠ 122 → j ≠ 123 → j ≠ 124 → j ≠ 125 → z60[j]? = zs[j]?) ∧ jn_vm_classFits_60 nf a1 v98 v117 v120 v121 v122 v123 v124 v125 f105 f102 f100 f104 f106 f107 f109 f118 f119 f108 nS477 fS477 l1_60 l2_60 l3_60 g118_60 g119_60 x117_60 x120_60 x121_60 x122_60 x123_60 x124_60 x125_60 = some (r0, o118, o119, w117, w120, w121, w122, w123, w124, w125)) ?_ ?_
  · intro x9 hJ9
    obtain ⟨H, locs, ls, z60, l1_60, l2_60, l3_60, g118_60, g119_60, x117_60, x120_60, x121_60, x122_60, x123_60, x124_60, x125_60⟩ := x9
    obtain ⟨hl, hS, hD, hP, hfh_60_98, hfh_60_100, hfh_60_102, hfh_60_104, hfh_60_105, hfh_60_106, hfh_60_107, hfh_60_108, hfh_60_109, hfh_60_117, hfh_60_118, hfh_60_119, hfh_60_120, hfh_60_121, hfh_60_122, hfh_60_123, hfh_60_124, hfh_60_125, hlh_60, hrh_60, hsp⟩ := hJ9
    replace hl : lv_has ls 8 [(0, .ref h0), (1, .int l1_60), (2, .int l2_60), (3, .int l3_60)] := hl
    replace hS : va_S A s.heap H locs := hS
    replace hD : va_D A [(h0, .inr (13, z60)), (qf105, .inl (cf105, 8, .inl f105)), (qf102, .inl (cf102, 2048, .inl f102)), (qf100, .inl (cf100, 48000, .inl f100)), (qf104, .inl (cf104, 8, .inl f104)), (qf106, .inl (cf106, 8, .inl f106)), (qf107, .inl (cf107, 96, .inl f107)), (qf109, .inl (cf109, 96, .inl f109)), (qf118, .inl (cf118, 2100, .inl g118_60)), (qf119, .inl (cf119, 2100, .inl g119_60)), (qf108, .inl (cf108, 8, .inl f108))] := hD
    replace hP : va_P (dC, dI) vwCl [(h0, .inr (13, z60)), (qf105, .inl (cf105, 8, .inl f105)), (qf102, .inl (cf102, 2048, .inl f102)), (qf100, .inl (cf100, 48000, .inl f100)), (qf104, .inl (cf104, 8, .inl f104)), (qf106, .inl (cf106, 8, .inl f106)), (qf107, .inl (cf107, 96, .inl f107)), (qf109, .inl (cf109, 96, .inl f109)), (qf118, .inl (cf118, 2100, .inl g118_60)), (qf119, .inl (cf119, 2100, .inl g119_60)), (qf108, .inl (cf108, 8, .inl f108))] H := hP
    replace hsp : jn_vm_classFits_60 nf a1 v98 v117 v120 v121 v122 v123 v124 v125 f105 f102 f100 f104 f106 f107 f109 f118 f119 f108 nS477 fS477 l1_60 l2_60 l3_60 g118_60 g119_60 x117_60 x120_60 x121_60 x122_60 x123_60 x124_60 x125_60 = some (r0, o118, o119, w117, w120, w121, w122, w123, w124, w125) := hsp
    show W _ _ _ _ _ _ _ _ _ _ H locs _ _ _ (F0 m 60 ls [])
    unfold jn_vm_classFits_60 at hsp
    try dsimp only at hsp
    refine lv_iload_n hx hb dX13_classFits_60 rfl (lv_at hl 3 rfl) ?_
    refine lv_iconst (v := (-1)) hx hb dX13_classFits_61 (by decide) ?_
    refine lv_icmp_eq (tgt := 74) hx hb dX13_classFits_62 (by decide) (fun c_11 => ?_) (fun c_11 => ?_)
    · rw [if_pos c_11] at hsp
      refine lv_iconst (v := 0) hx hb dX13_classFits_74 (by decide) ?_
      refine lv_istore (lv' := [(4, .int 0), (0, .ref h0), (1, .int l1_60), (2, .int l2_60), (3, .int l3_60)]) hx hb dX13_classFits_75 hl (by decide) rfl (fun ls hl => ?_)
      replace hl : lv_has ls 8 [(4, .int 0), (0, .ref h0), (1, .int l1_60), (2, .int l2_60)] := lv_sub hl [0, 1, 2, 3] rfl
      replace hP := hP.sub (ws' := [(h0, .inr (13, z60)), (qf105, .inl (cf105, 8, .inl f105)), (qf102, .inl (cf102, 2048, .inl f102)), (qf100, .inl (cf100, 48000, .inl f100)), (qf104, .inl (cf104, 8, .inl f104)), (qf106, .inl (cf106, 8, .inl f106)), (qf107, .inl (cf107, 96, .inl f107)), (qf109, .inl (cf109, 96, .inl f109)), (qf118, .inl (cf118, 2100, .inl g118_60)), (qf119, .inl (cf119, 2100, .inl g119_60)), (qf108, .inl (cf108, 8, .inl f108))]) [0, 1, 2, 3, 4, 5, 6, 7, 8, 9, 10] rfl
      replace hD := hD.sub (ws' := [(h0, .inr (13, z60)), (qf105, .inl (cf105, 8, .inl f105)), (qf102, .inl (cf102, 2048, .inl f102)), (qf100, .inl (cf100, 48000, .inl f100)), (qf104, .inl (cf104, 8, .inl f104)), (qf106, .inl (cf106, 8, .inl f106)), (qf107, .inl (cf107, 96, .inl f107)), (qf109, .inl (cf109, 96, .inl f109)), (qf118, .inl (cf118, 2100, .inl g118_60)), (qf119, .inl (cf119, 2100, .inl g119_60)), (qf108, .inl (cf108, 8, .inl f108))]) [0, 1, 2, 3, 4, 5, 6, 7, 8, 9, 10] (by decide) rfl
      replace hK := hK.sub (tys' := [(cf105, .int), (cf102, .int), (cf100, .int), (cf104, .int), (cf106, .int), (cf107, .int), (cf109, .int), (cf118, .int), (cf119, .int), (cf108, .int)]) [0, 1, 2, 3, 4, 5, 6, 7, 8, 9] rfl
      obtain ⟨n_77, hn_77⟩ : ∃ z : Nat, z = nf := ⟨_, rfl⟩
      obtain ⟨l1_77, el1_77⟩ : ∃ z : Int32, z = l1_60 := ⟨_, rfl⟩
      obtain ⟨l2_77, el2_77⟩ : ∃ z : Int32, z = l2_60 := ⟨_, rfl⟩
      obtain ⟨l4_77, el4_77⟩ : ∃ z : Int32, z = 0 := ⟨_, rfl⟩
      obtain ⟨g118_77, eg118_77⟩ : ∃ z : Nat → Int32, z = g118_60 := ⟨_, rfl⟩
      obtain ⟨g119_77, eg119_77⟩ : ∃ z : Nat → Int32, z = g119_60 := ⟨_, rfl⟩
      obtain ⟨x117_77, ex117_77⟩ : ∃ z : Int32, z = x117_60 := ⟨_, rfl⟩
      obtain ⟨x120_77, ex120_77⟩ : ∃ z : Int32, z = x120_60 := ⟨_, rfl⟩
      obtain ⟨x121_77, ex121_77⟩ : ∃ z : Int32, z = x121_60 := ⟨_, rfl⟩
      obtain ⟨x122_77, ex122_77⟩ : ∃ z : Int32, z = x122_60 := ⟨_, rfl⟩
      obtain ⟨x123_77, ex123_77⟩ : ∃ z : Int32, z = x123_60 := ⟨_, rfl⟩
      obtain ⟨x124_77, ex124_77⟩ : ∃ z : Int32, z = x124_60 := ⟨_, rfl⟩
      obtain ⟨x125_77, ex125_77⟩ : ∃ z : Int32, z = x125_60 := ⟨_, rfl⟩
      replace hsp : lp_vm_classFits_77 nf n_77 a1 v98 v117 v120 v121 v122 v123 v124 v125 f105 f102 f100 f104 f106 f107 f109 f118 f119 f108 nS477 fS477 l1_77 l2_77 l4_77 g118_77 g119_77 x117_77 x120_77 x121_77 x122_77 x123_77 x124_77 x125_77 = some (r0, o118, o119, w117, w120, w121, w122, w123, w124, w125) := by rw [hn_77, el1_77, el2_77, el4_77, eg118_77, eg119_77, ex117_77, ex120_77, ex121_77, ex122_77, ex123_77, ex124_77, ex125_77]; exact hsp
      replace hl : lv_has ls 8 [(4, .int l4_77), (0, .ref h0), (1, .int l1_77), (2, .int l2_77)] := by rw [el1_77, el2_77, el4_77]; exact hl
      obtain ⟨z77, ez77⟩ : ∃ z : List Value, z = z60 := ⟨_, rfl⟩
      have hfh_77_98 : z77[98]? = some (.int v98) := by rw [ez77]; exact hfh_60_98
      have hfh_77_100 : z77[100]? = some (.ref qf100) := by rw [ez77]; exact hfh_60_100
      have hfh_77_102 : z77[102]? = some (.ref qf102) := by rw [ez77]; exact hfh_60_102
      have hfh_77_104 : z77[104]? = some (.ref qf104) := by rw [ez77]; exact hfh_60_104
      have hfh_77_105 : z77[105]? = some (.ref qf105) := by rw [ez77]; exact hfh_60_105
      have hfh_77_106 : z77[106]? = some (.ref qf106) := by rw [ez77]; exact hfh_60_106
      have hfh_77_107 : z77[107]? = some (.ref qf107) := by rw [ez77]; exact hfh_60_107
      have hfh_77_108 : z77[108]? = some (.ref qf108) := by rw [ez77]; exact hfh_60_108
      have hfh_77_109 : z77[109]? = some (.ref qf109) := by rw [ez77]; exact hfh_60_109
      have hfh_77_117 : z77[117]? = some (.int x117_77) := by rw [ez77, ex117_77]; exact hfh_60_117
      have hfh_77_118 : z77[118]? = some (.ref qf118) := by rw [ez77]; exact hfh_60_118
      have hfh_77_119 : z77[119]? = some (.ref qf119) := by rw [ez77]; exact hfh_60_119
      have hfh_77_120 : z77[120]? = some (.int x120_77) := by rw [ez77, ex120_77]; exact hfh_60_120
      have hfh_77_121 : z77[121]? = some (.int x121_77) := by rw [ez77, ex121_77]; exact hfh_60_121
      have hfh_77_122 : z77[122]? = some (.int x122_77) := by rw [ez77, ex122_77]; exact hfh_60_122
      have hfh_77_123 : z77[123]? = some (.int x123_77) := by rw [ez77, ex123_77]; exact hfh_60_123
      have hfh_77_124 : z77[124]? = some (.int x124_77) := by rw [ez77, ex124_77]; exact hfh_60_124
      have hfh_77_125 : z77[125]? = some (.int x125_77) := by rw [ez77, ex125_77]; exact hfh_60_125
      have hlh_77 : z77.length = 155 := by rw [ez77]; exact hlh_60
      have hrh_77 : ∀ j : Nat, j ≠ 117 → j ≠ 120 → j ≠ 121 → j ≠ 122 → j ≠ 123 → j ≠ 124 → j ≠ 125 → z77[j]? = zs[j]? := by rw [ez77]; exact hrh_60
      replace hP : va_P (dC, dI) vwCl [(h0, .inr (13, z77)), (qf105, .inl (cf105, 8, .inl f105)), (qf102, .inl (cf102, 2048, .inl f102)), (qf100, .inl (cf100, 48000, .inl f100)), (qf104, .inl (cf104, 8, .inl f104)), (qf106, .inl (cf106, 8, .inl f106)), (qf107, .inl (cf107, 96, .inl f107)), (qf109, .inl (cf109, 96, .inl f109)), (qf118, .inl (cf118, 2100, .inl g118_77)), (qf119, .inl (cf119, 2100, .inl g119_77)), (qf108, .inl (cf108, 8, .inl f108))] H := by rw [ez77, eg118_77, eg119_77]; exact hP
      replace hD : va_D A [(h0, .inr (13, z77)), (qf105, .inl (cf105, 8, .inl f105)), (qf102, .inl (cf102, 2048, .inl f102)), (qf100, .inl (cf100, 48000, .inl f100)), (qf104, .inl (cf104, 8, .inl f104)), (qf106, .inl (cf106, 8, .inl f106)), (qf107, .inl (cf107, 96, .inl f107)), (qf109, .inl (cf109, 96, .inl f109)), (qf118, .inl (cf118, 2100, .inl g118_77)), (qf119, .inl (cf119, 2100, .inl g119_77)), (qf108, .inl (cf108, 8, .inl f108))] := by rw [ez77, eg118_77, eg119_77]; exact hD
      clear hn_77 ez77 el1_77 el2_77 el4_77 eg118_77 eg119_77 ex117_77 ex120_77 ex121_77 ex122_77 ex123_77 ex124_77 ex125_77
      try clear hlo
      try clear hH
      revert hsp
      revert hP
      revert hD
      revert hS
      revert hl
      revert hrh_77
      revert hlh_77
      revert hfh_77_125
      revert hfh_77_124
      revert hfh_77_123
      revert hfh_77_122
      revert hfh_77_121
      revert hfh_77_120
      revert hfh_77_119
      revert hfh_77_118
      revert hfh_77_117
      revert hfh_77_109
      revert hfh_77_108
      revert hfh_77_107
      revert hfh_77_106
      revert hfh_77_105
      revert hfh_77_104
      revert hfh_77_102
      revert hfh_77_100
      revert hfh_77_98
      revert x125_77
      revert x124_77
      revert x123_77
      revert x122_77
      revert x121_77
      revert x120_77
      revert x117_77
      revert g119_77
      revert g118_77
      revert l4_77
      revert l2_77
      revert l1_77
      revert z77
      revert ls
      revert locs
      revert H
      induction n_77 with
      | zero => intro H locs ls z77 l1_77 l2_77 l4_77 g118_77 g119_77 x117_77 x120_77 x121_77 x122_77 x123_77 x124_77 x125_77 hfh_77_98 hfh_77_100 hfh_77_102 hfh_77_104 hfh_77_105 hfh_77_106 hfh_77_107 hfh_77_108 hfh_77_109 hfh_77_117 hfh_77_118 hfh_77_119 hfh_77_120 hfh_77_121 hfh_77_122 hfh_77_123 hfh_77_124 hfh_77_125 hlh_77 hrh_77 hl hS hD hP hsp; unfold lp_vm_classFits_77 at hsp; cases hsp
      | succ n_77 ih_77 =>
        intro H locs ls z77 l1_77 l2_77 l4_77 g118_77 g119_77 x117_77 x120_77 x121_77 x122_77 x123_77 x124_77 x125_77 hfh_77_98 hfh_77_100 hfh_77_102 hfh_77_104 hfh_77_105 hfh_77_106 hfh_77_107 hfh_77_108 hfh_77_109 hfh_77_117 hfh_77_118 hfh_77_119 hfh_77_120 hfh_77_121 hfh_77_122 hfh_77_123 hfh_77_124 hfh_77_125 hlh_77 hrh_77 hl hS hD hP hsp
        unfold lp_vm_classFits_77 at hsp
        try dsimp only at hsp
        refine jn_use (α := Heap × List Loc × Array Slot × List Value × Int32 × Int32 × Int32 × Int32 × (Nat → Int32) × (Nat → Int32) × Int32 × Int32 × Int32 × Int32 × Int32 × Int32 × Int32) (fun x9 => x9.1) (fun x9 => x9.2.1) (fun x9 => F0 m 104 x9.2.2.1 [.int (x9.2.2.2.2.2.2.2.1)]) (fun x9 => match x9 with | (H, locs, ls, z104, l1_104, l2_104, l4_104, s0_104, g118_104, g119_104, x117_104, x120_104, x121_104, x122_104, x123_104, x124_104, x125_104) => lv_has ls 8 [(0, .ref h0), (1, .int l1_104), (2, .int l2_104), (4, .int l4_104)] ∧ va_S A s.heap H locs ∧ va_D A [(h0, .inr (13, z104)), (qf105, .inl (cf105, 8, .inl f105)), (qf102, .inl (cf102, 2048, .inl f102)), (qf100, .inl (cf100, 48000, .inl f100)), (qf104, .inl (cf104, 8, .inl f104)), (qf106, .inl (cf106, 8, .inl f106)), (qf107, .inl (cf107, 96, .inl f107)), (qf109, .inl (cf109, 96, .inl f109)), (qf118, .inl (cf118, 2100, .inl g118_104)), (qf119, .inl (cf119, 2100, .inl g119_104)), (qf108, .inl (cf108, 8, .inl f108))] ∧ va_P (dC, dI) vwCl [(h0, .inr (13, z104)), (qf105, .inl (cf105, 8, .inl f105)), (qf102, .inl (cf102, 2048, .inl f102)), (qf100, .inl (cf100, 48000, .inl f100)), (qf104, .inl (cf104, 8, .inl f104)), (qf106, .inl (cf106, 8, .inl f106)), (qf107, .inl (cf107, 96, .inl f107)), (qf109, .inl (cf109, 96, .inl f109)), (qf118, .inl (cf118, 2100, .inl g118_104)), (qf119, .inl (cf119, 2100, .inl g119_104)), (qf108, .inl (cf108, 8, .inl f108))] H ∧ z104[98]? = some (.int v98) ∧ z104[100]? = some (.ref qf100) ∧ z104[102]? = some (.ref qf102) ∧ z104[104]? = some (.ref qf104) ∧ z104[105]? = some (.ref qf105) ∧ z104[106]? = some (.ref qf106) ∧ z104[107]? = some (.ref qf107) ∧ z104[108]? = some (.ref qf108) ∧ z104[109]? = some (.ref qf109) ∧ z104[117]? = some (.int x117_104) ∧ z104[118]? = some (.ref qf118) ∧ z104[119]? = some (.ref qf119) ∧ z104[120]? = some (.int x120_104) ∧ z104[121]? = some (.int x121_104) ∧ z104[122]? = some (.int x122_104) ∧ z104[123]? = some (.int x123_104) ∧ z104[124]? = some (.int x124_104) ∧ z104[125]? = some (.int x125_104) ∧ z104.length = 155 ∧ (∀ j : Nat, j ≠ 117 → j ≠ 120 → j ≠ 121 → j ≠ 122 → j ≠ 123 → j ≠ 124 → j ≠ 125 → z104[j]? = zs[j]?) ∧ jn_vm_classFits_104 nf a1 v98 v117 v120 v121 v122 v123 v124 v125 f105 f102 f100 f104 f106 f107 f109 f118 f119 f108 nS477 fS477 (lp_vm_classFits_77 nf n_77 a1 v98 v117 v120 v121 v122 v123 v124 v125 f105 f102 f100 f104 f106 f107 f109 f118 f119 f108 nS477 fS477) l1_104 l2_104 l4_104 s0_104 g118_104 g119_104 x117_104 x120_104 x121_104 x122_104 x123_104 x124_104 x125_104 = some (r0, o118, o119, w117, w120, w121, w122, w123, w124, w125)) ?_ ?_
        · intro x9 hJ9
          obtain ⟨H, locs, ls, z104, l1_104, l2_104, l4_104, s0_104, g118_104, g119_104, x117_104, x120_104, x121_104, x122_104, x123_104, x124_104, x125_104⟩ := x9
          obtain ⟨hl, hS, hD, hP, hfh_104_98, hfh_104_100, hfh_104_102, hfh_104_104, hfh_104_105, hfh_104_106, hfh_104_107, hfh_104_108, hfh_104_109, hfh_104_117, hfh_104_118, hfh_104_119, hfh_104_120, hfh_104_121, hfh_104_122, hfh_104_123, hfh_104_124, hfh_104_125, hlh_104, hrh_104, hsp⟩ := hJ9
          replace hl : lv_has ls 8 [(0, .ref h0), (1, .int l1_104), (2, .int l2_104), (4, .int l4_104)] := hl
          replace hS : va_S A s.heap H locs := hS
          replace hD : va_D A [(h0, .inr (13, z104)), (qf105, .inl (cf105, 8, .inl f105)), (qf102, .inl (cf102, 2048, .inl f102)), (qf100, .inl (cf100, 48000, .inl f100)), (qf104, .inl (cf104, 8, .inl f104)), (qf106, .inl (cf106, 8, .inl f106)), (qf107, .inl (cf107, 96, .inl f107)), (qf109, .inl (cf109, 96, .inl f109)), (qf118, .inl (cf118, 2100, .inl g118_104)), (qf119, .inl (cf119, 2100, .inl g119_104)), (qf108, .inl (cf108, 8, .inl f108))] := hD
          replace hP : va_P (dC, dI) vwCl [(h0, .inr (13, z104)), (qf105, .inl (cf105, 8, .inl f105)), (qf102, .inl (cf102, 2048, .inl f102)), (qf100, .inl (cf100, 48000, .inl f100)), (qf104, .inl (cf104, 8, .inl f104)), (qf106, .inl (cf106, 8, .inl f106)), (qf107, .inl (cf107, 96, .inl f107)), (qf109, .inl (cf109, 96, .inl f109)), (qf118, .inl (cf118, 2100, .inl g118_104)), (qf119, .inl (cf119, 2100, .inl g119_104)), (qf108, .inl (cf108, 8, .inl f108))] H := hP
          replace hsp : jn_vm_classFits_104 nf a1 v98 v117 v120 v121 v122 v123 v124 v125 f105 f102 f100 f104 f106 f107 f109 f118 f119 f108 nS477 fS477 (lp_vm_classFits_77 nf n_77 a1 v98 v117 v120 v121 v122 v123 v124 v125 f105 f102 f100 f104 f106 f107 f109 f118 f119 f108 nS477 fS477) l1_104 l2_104 l4_104 s0_104 g118_104 g119_104 x117_104 x120_104 x121_104 x122_104 x123_104 x124_104 x125_104 = some (r0, o118, o119, w117, w120, w121, w122, w123, w124, w125) := hsp
          show W _ _ _ _ _ _ _ _ _ _ H locs _ _ _ (F0 m 104 ls [.int s0_104])
          unfold jn_vm_classFits_104 at hsp
          try dsimp only at hsp
          refine lv_istore (lv' := [(5, .int s0_104), (0, .ref h0), (1, .int l1_104), (2, .int l2_104), (4, .int l4_104)]) hx hb dX13_classFits_104 hl (by decide) rfl (fun ls hl => ?_)
          refine lv_iconst (v := 0) hx hb dX13_classFits_106 (by decide) ?_
          refine lv_istore (lv' := [(6, .int 0), (5, .int s0_104), (0, .ref h0), (1, .int l1_104), (2, .int l2_104), (4, .int l4_104)]) hx hb dX13_classFits_107 hl (by decide) rfl (fun ls hl => ?_)
          replace hl : lv_has ls 8 [(6, .int 0), (5, .int s0_104), (0, .ref h0), (1, .int l1_104), (2, .int l2_104), (4, .int l4_104)] := lv_sub hl [0, 1, 2, 3, 4, 5] rfl
          replace hP := hP.sub (ws' := [(h0, .inr (13, z104)), (qf105, .inl (cf105, 8, .inl f105)), (qf102, .inl (cf102, 2048, .inl f102)), (qf100, .inl (cf100, 48000, .inl f100)), (qf104, .inl (cf104, 8, .inl f104)), (qf106, .inl (cf106, 8, .inl f106)), (qf107, .inl (cf107, 96, .inl f107)), (qf109, .inl (cf109, 96, .inl f109)), (qf118, .inl (cf118, 2100, .inl g118_104)), (qf119, .inl (cf119, 2100, .inl g119_104)), (qf108, .inl (cf108, 8, .inl f108))]) [0, 1, 2, 3, 4, 5, 6, 7, 8, 9, 10] rfl
          replace hD := hD.sub (ws' := [(h0, .inr (13, z104)), (qf105, .inl (cf105, 8, .inl f105)), (qf102, .inl (cf102, 2048, .inl f102)), (qf100, .inl (cf100, 48000, .inl f100)), (qf104, .inl (cf104, 8, .inl f104)), (qf106, .inl (cf106, 8, .inl f106)), (qf107, .inl (cf107, 96, .inl f107)), (qf109, .inl (cf109, 96, .inl f109)), (qf118, .inl (cf118, 2100, .inl g118_104)), (qf119, .inl (cf119, 2100, .inl g119_104)), (qf108, .inl (cf108, 8, .inl f108))]) [0, 1, 2, 3, 4, 5, 6, 7, 8, 9, 10] (by decide) rfl
          replace hK := hK.sub (tys' := [(cf105, .int), (cf102, .int), (cf100, .int), (cf104, .int), (cf106, .int), (cf107, .int), (cf109, .int), (cf118, .int), (cf119, .int), (cf108, .int)]) [0, 1, 2, 3, 4, 5, 6, 7, 8, 9] rfl
          obtain ⟨n_109, hn_109⟩ : ∃ z : Nat, z = nf := ⟨_, rfl⟩
          obtain ⟨l1_109, el1_109⟩ : ∃ z : Int32, z = l1_104 := ⟨_, rfl⟩
          obtain ⟨l2_109, el2_109⟩ : ∃ z : Int32, z = l2_104 := ⟨_, rfl⟩
          obtain ⟨l4_109, el4_109⟩ : ∃ z : Int32, z = l4_104 := ⟨_, rfl⟩
          obtain ⟨l5_109, el5_109⟩ : ∃ z : Int32, z = s0_104 := ⟨_, rfl⟩
          obtain ⟨l6_109, el6_109⟩ : ∃ z : Int32, z = 0 := ⟨_, rfl⟩
          obtain ⟨g118_109, eg118_109⟩ : ∃ z : Nat → Int32, z = g118_104 := ⟨_, rfl⟩
          obtain ⟨g119_109, eg119_109⟩ : ∃ z : Nat → Int32, z = g119_104 := ⟨_, rfl⟩
          obtain ⟨x117_109, ex117_109⟩ : ∃ z : Int32, z = x117_104 := ⟨_, rfl⟩
          obtain ⟨x120_109, ex120_109⟩ : ∃ z : Int32, z = x120_104 := ⟨_, rfl⟩
          obtain ⟨x121_109, ex121_109⟩ : ∃ z : Int32, z = x121_104 := ⟨_, rfl⟩
          obtain ⟨x122_109, ex122_109⟩ : ∃ z : Int32, z = x122_104 := ⟨_, rfl⟩
          obtain ⟨x123_109, ex123_109⟩ : ∃ z : Int32, z = x123_104 := ⟨_, rfl⟩
          obtain ⟨x124_109, ex124_109⟩ : ∃ z : Int32, z = x124_104 := ⟨_, rfl⟩
          obtain ⟨x125_109, ex125_109⟩ : ∃ z : Int32, z = x125_104 := ⟨_, rfl⟩
          replace hsp : lp_vm_classFits_109 nf n_109 a1 v98 v117 v120 v121 v122 v123 v124 v125 f105 f102 f100 f104 f106 f107 f109 f118 f119 f108 nS477 fS477 (lp_vm_classFits_77 nf n_77 a1 v98 v117 v120 v121 v122 v123 v124 v125 f105 f102 f100 f104 f106 f107 f109 f118 f119 f108 nS477 fS477) l1_109 l2_109 l4_109 l5_109 l6_109 g118_109 g119_109 x117_109 x120_109 x121_109 x122_109 x123_109 x124_109 x125_109 = some (r0, o118, o119, w117, w120, w121, w122, w123, w124, w125) := by rw [hn_109, el1_109, el2_109, el4_109, el5_109, el6_109, eg118_109, eg119_109, ex117_109, ex120_109, ex121_109, ex122_109, ex123_109, ex124_109, ex125_109]; exact hsp
          replace hl : lv_has ls 8 [(6, .int l6_109), (5, .int l5_109), (0, .ref h0), (1, .int l1_109), (2, .int l2_109), (4, .int l4_109)] := by rw [el1_109, el2_109, el4_109, el5_109, el6_109]; exact hl
          obtain ⟨z109, ez109⟩ : ∃ z : List Value, z = z104 := ⟨_, rfl⟩
          have hfh_109_98 : z109[98]? = some (.int v98) := by rw [ez109]; exact hfh_104_98
          have hfh_109_100 : z109[100]? = some (.ref qf100) := by rw [ez109]; exact hfh_104_100
          have hfh_109_102 : z109[102]? = some (.ref qf102) := by rw [ez109]; exact hfh_104_102
          have hfh_109_104 : z109[104]? = some (.ref qf104) := by rw [ez109]; exact hfh_104_104
          have hfh_109_105 : z109[105]? = some (.ref qf105) := by rw [ez109]; exact hfh_104_105
          have hfh_109_106 : z109[106]? = some (.ref qf106) := by rw [ez109]; exact hfh_104_106
          have hfh_109_107 : z109[107]? = some (.ref qf107) := by rw [ez109]; exact hfh_104_107
          have hfh_109_108 : z109[108]? = some (.ref qf108) := by rw [ez109]; exact hfh_104_108
          have hfh_109_109 : z109[109]? = some (.ref qf109) := by rw [ez109]; exact hfh_104_109
          have hfh_109_117 : z109[117]? = some (.int x117_109) := by rw [ez109, ex117_109]; exact hfh_104_117
          have hfh_109_118 : z109[118]? = some (.ref qf118) := by rw [ez109]; exact hfh_104_118
          have hfh_109_119 : z109[119]? = some (.ref qf119) := by rw [ez109]; exact hfh_104_119
          have hfh_109_120 : z109[120]? = some (.int x120_109) := by rw [ez109, ex120_109]; exact hfh_104_120
          have hfh_109_121 : z109[121]? = some (.int x121_109) := by rw [ez109, ex121_109]; exact hfh_104_121
          have hfh_109_122 : z109[122]? = some (.int x122_109) := by rw [ez109, ex122_109]; exact hfh_104_122
          have hfh_109_123 : z109[123]? = some (.int x123_109) := by rw [ez109, ex123_109]; exact hfh_104_123
          have hfh_109_124 : z109[124]? = some (.int x124_109) := by rw [ez109, ex124_109]; exact hfh_104_124
          have hfh_109_125 : z109[125]? = some (.int x125_109) := by rw [ez109, ex125_109]; exact hfh_104_125
          have hlh_109 : z109.length = 155 := by rw [ez109]; exact hlh_104
          have hrh_109 : ∀ j : Nat, j ≠ 117 → j ≠ 120 → j ≠ 121 → j ≠ 122 → j ≠ 123 → j ≠ 124 → j ≠ 125 → z109[j]? = zs[j]? := by rw [ez109]; exact hrh_104
          replace hP : va_P (dC, dI) vwCl [(h0, .inr (13, z109)), (qf105, .inl (cf105, 8, .inl f105)), (qf102, .inl (cf102, 2048, .inl f102)), (qf100, .inl (cf100, 48000, .inl f100)), (qf104, .inl (cf104, 8, .inl f104)), (qf106, .inl (cf106, 8, .inl f106)), (qf107, .inl (cf107, 96, .inl f107)), (qf109, .inl (cf109, 96, .inl f109)), (qf118, .inl (cf118, 2100, .inl g118_109)), (qf119, .inl (cf119, 2100, .inl g119_109)), (qf108, .inl (cf108, 8, .inl f108))] H := by rw [ez109, eg118_109, eg119_109]; exact hP
          replace hD : va_D A [(h0, .inr (13, z109)), (qf105, .inl (cf105, 8, .inl f105)), (qf102, .inl (cf102, 2048, .inl f102)), (qf100, .inl (cf100, 48000, .inl f100)), (qf104, .inl (cf104, 8, .inl f104)), (qf106, .inl (cf106, 8, .inl f106)), (qf107, .inl (cf107, 96, .inl f107)), (qf109, .inl (cf109, 96, .inl f109)), (qf118, .inl (cf118, 2100, .inl g118_109)), (qf119, .inl (cf119, 2100, .inl g119_109)), (qf108, .inl (cf108, 8, .inl f108))] := by rw [ez109, eg118_109, eg119_109]; exact hD
          clear hn_109 ez109 el1_109 el2_109 el4_109 el5_109 el6_109 eg118_109 eg119_109 ex117_109 ex120_109 ex121_109 ex122_109 ex123_109 ex124_109 ex125_109
          try clear hlo
          try clear hH
          revert hsp
          revert hP
          revert hD
          revert hS
          revert hl
          revert hrh_109
          revert hlh_109
          revert hfh_109_125
          revert hfh_109_124
          revert hfh_109_123
          revert hfh_109_122
          revert hfh_109_121
          revert hfh_109_120
          revert hfh_109_119
          revert hfh_109_118
          revert hfh_109_117
          revert hfh_109_109
          revert hfh_109_108
          revert hfh_109_107
          revert hfh_109_106
          revert hfh_109_105
          revert hfh_109_104
          revert hfh_109_102
          revert hfh_109_100
          revert hfh_109_98
          revert x125_109
          revert x124_109
          revert x123_109
          revert x122_109
          revert x121_109
          revert x120_109
          revert x117_109
          revert g119_109
          revert g118_109
          revert l6_109
          revert l5_109
          revert l4_109
          revert l2_109
          revert l1_109
          revert z109
          revert ls
          revert locs
          revert H
          induction n_109 with
          | zero => intro H locs ls z109 l1_109 l2_109 l4_109 l5_109 l6_109 g118_109 g119_109 x117_109 x120_109 x121_109 x122_109 x123_109 x124_109 x125_109 hfh_109_98 hfh_109_100 hfh_109_102 hfh_109_104 hfh_109_105 hfh_109_106 hfh_109_107 hfh_109_108 hfh_109_109 hfh_109_117 hfh_109_118 hfh_109_119 hfh_109_120 hfh_109_121 hfh_109_122 hfh_109_123 hfh_109_124 hfh_109_125 hlh_109 hrh_109 hl hS hD hP hsp; unfold lp_vm_classFits_109 at hsp; cases hsp
          | succ n_109 ih_109 =>
            intro H locs ls z109 l1_109 l2_109 l4_109 l5_109 l6_109 g118_109 g119_109 x117_109 x120_109 x121_109 x122_109 x123_109 x124_109 x125_109 hfh_109_98 hfh_109_100 hfh_109_102 hfh_109_104 hfh_109_105 hfh_109_106 hfh_109_107 hfh_109_108 hfh_109_109 hfh_109_117 hfh_109_118 hfh_109_119 hfh_109_120 hfh_109_121 hfh_109_122 hfh_109_123 hfh_109_124 hfh_109_125 hlh_109 hrh_109 hl hS hD hP hsp
            unfold lp_vm_classFits_109 at hsp
            try dsimp only at hsp
            refine lv_iload hx hb dX13_classFits_109 (lv_at hl 0 rfl) ?_
            refine lv_iload hx hb dX13_classFits_111 (lv_at hl 1 rfl) ?_
            refine lv_icmp_ge (tgt := 195) hx hb dX13_classFits_113 (by decide) (fun c_36 => ?_) (fun c_36 => ?_)
            · rw [if_pos c_36] at hsp
              refine lv_iinc (v := (l4_109 + 1)) (lv' := [(4, .int (l4_109 + 1)), (6, .int l6_109), (5, .int l5_109), (0, .ref h0), (1, .int l1_109), (2, .int l2_109)]) hx hb dX13_classFits_195 hl (k := 5) rfl rfl (by decide) rfl (fun ls hl => ?_)
              refine lv_goto (tgt := 77) hx hb dX13_classFits_198 (by decide) ?_
              exact ih_77 H locs ls z109 l1_109 l2_109 (l4_109 + 1) g118_109 g119_109 x117_109 x120_109 x121_109 x122_109 x123_109 x124_109 x125_109 (hfh_109_98) (hfh_109_100) (hfh_109_102) (hfh_109_104) (hfh_109_105) (hfh_109_106) (hfh_109_107) (hfh_109_108) (hfh_109_109) (hfh_109_117) (hfh_109_118) (hfh_109_119) (hfh_109_120) (hfh_109_121) (hfh_109_122) (hfh_109_123) (hfh_109_124) (hfh_109_125) hlh_109 hrh_109 (lv_sub hl [0, 3, 4, 5] rfl) hS (hD.sub (ws' := [(h0, .inr (13, z109)), (qf105, .inl (cf105, 8, .inl f105)), (qf102, .inl (cf102, 2048, .inl f102)), (qf100, .inl (cf100, 48000, .inl f100)), (qf104, .inl (cf104, 8, .inl f104)), (qf106, .inl (cf106, 8, .inl f106)), (qf107, .inl (cf107, 96, .inl f107)), (qf109, .inl (cf109, 96, .inl f109)), (qf118, .inl (cf118, 2100, .inl g118_109)), (qf119, .inl (cf119, 2100, .inl g119_109)), (qf108, .inl (cf108, 8, .inl f108))]) [0, 1, 2, 3, 4, 5, 6, 7, 8, 9, 10] (by decide) rfl) (hP.sub (ws' := [(h0, .inr (13, z109)), (qf105, .inl (cf105, 8, .inl f105)), (qf102, .inl (cf102, 2048, .inl f102)), (qf100, .inl (cf100, 48000, .inl f100)), (qf104, .inl (cf104, 8, .inl f104)), (qf106, .inl (cf106, 8, .inl f106)), (qf107, .inl (cf107, 96, .inl f107)), (qf109, .inl (cf109, 96, .inl f109)), (qf118, .inl (cf118, 2100, .inl g118_109)), (qf119, .inl (cf119, 2100, .inl g119_109)), (qf108, .inl (cf108, 8, .inl f108))]) [0, 1, 2, 3, 4, 5, 6, 7, 8, 9, 10] rfl) hsp
            · rw [if_neg c_36] at hsp
              refine lv_iload hx hb dX13_classFits_116 (lv_at hl 0 rfl) ?_
              refine lv_iconst (v := 1) hx hb dX13_classFits_118 (by decide) ?_
              refine lv_iadd hx hb dX13_classFits_119 ?_
              refine lv_istore (lv' := [(7, .int (l6_109 + 1)), (6, .int l6_109), (5, .int l5_109), (0, .ref h0), (1, .int l1_109), (2, .int l2_109), (4, .int l4_109)]) hx hb dX13_classFits_120 hl (by decide) rfl (fun ls hl => ?_)
              replace hl : lv_has ls 8 [(7, .int (l6_109 + 1)), (6, .int l6_109), (5, .int l5_109), (0, .ref h0), (1, .int l1_109), (2, .int l2_109), (4, .int l4_109)] := lv_sub hl [0, 1, 2, 3, 4, 5, 6] rfl
              replace hP := hP.sub (ws' := [(h0, .inr (13, z109)), (qf105, .inl (cf105, 8, .inl f105)), (qf102, .inl (cf102, 2048, .inl f102)), (qf100, .inl (cf100, 48000, .inl f100)), (qf104, .inl (cf104, 8, .inl f104)), (qf106, .inl (cf106, 8, .inl f106)), (qf107, .inl (cf107, 96, .inl f107)), (qf109, .inl (cf109, 96, .inl f109)), (qf118, .inl (cf118, 2100, .inl g118_109)), (qf119, .inl (cf119, 2100, .inl g119_109)), (qf108, .inl (cf108, 8, .inl f108))]) [0, 1, 2, 3, 4, 5, 6, 7, 8, 9, 10] rfl
              replace hD := hD.sub (ws' := [(h0, .inr (13, z109)), (qf105, .inl (cf105, 8, .inl f105)), (qf102, .inl (cf102, 2048, .inl f102)), (qf100, .inl (cf100, 48000, .inl f100)), (qf104, .inl (cf104, 8, .inl f104)), (qf106, .inl (cf106, 8, .inl f106)), (qf107, .inl (cf107, 96, .inl f107)), (qf109, .inl (cf109, 96, .inl f109)), (qf118, .inl (cf118, 2100, .inl g118_109)), (qf119, .inl (cf119, 2100, .inl g119_109)), (qf108, .inl (cf108, 8, .inl f108))]) [0, 1, 2, 3, 4, 5, 6, 7, 8, 9, 10] (by decide) rfl
              replace hK := hK.sub (tys' := [(cf105, .int), (cf102, .int), (cf100, .int), (cf104, .int), (cf106, .int), (cf107, .int), (cf109, .int), (cf118, .int), (cf119, .int), (cf108, .int)]) [0, 1, 2, 3, 4, 5, 6, 7, 8, 9] rfl
              obtain ⟨n_122, hn_122⟩ : ∃ z : Nat, z = nf := ⟨_, rfl⟩
              obtain ⟨l1_122, el1_122⟩ : ∃ z : Int32, z = l1_109 := ⟨_, rfl⟩
              obtain ⟨l2_122, el2_122⟩ : ∃ z : Int32, z = l2_109 := ⟨_, rfl⟩
              obtain ⟨l4_122, el4_122⟩ : ∃ z : Int32, z = l4_109 := ⟨_, rfl⟩
              obtain ⟨l5_122, el5_122⟩ : ∃ z : Int32, z = l5_109 := ⟨_, rfl⟩
              obtain ⟨l6_122, el6_122⟩ : ∃ z : Int32, z = l6_109 := ⟨_, rfl⟩
              obtain ⟨l7_122, el7_122⟩ : ∃ z : Int32, z = (l6_109 + 1) := ⟨_, rfl⟩
              obtain ⟨g118_122, eg118_122⟩ : ∃ z : Nat → Int32, z = g118_109 := ⟨_, rfl⟩
              obtain ⟨g119_122, eg119_122⟩ : ∃ z : Nat → Int32, z = g119_109 := ⟨_, rfl⟩
              obtain ⟨x117_122, ex117_122⟩ : ∃ z : Int32, z = x117_109 := ⟨_, rfl⟩
              obtain ⟨x120_122, ex120_122⟩ : ∃ z : Int32, z = x120_109 := ⟨_, rfl⟩
              obtain ⟨x121_122, ex121_122⟩ : ∃ z : Int32, z = x121_109 := ⟨_, rfl⟩
              obtain ⟨x122_122, ex122_122⟩ : ∃ z : Int32, z = x122_109 := ⟨_, rfl⟩
              obtain ⟨x123_122, ex123_122⟩ : ∃ z : Int32, z = x123_109 := ⟨_, rfl⟩
              obtain ⟨x124_122, ex124_122⟩ : ∃ z : Int32, z = x124_109 := ⟨_, rfl⟩
              obtain ⟨x125_122, ex125_122⟩ : ∃ z : Int32, z = x125_109 := ⟨_, rfl⟩
              replace hsp : lp_vm_classFits_122 nf n_122 a1 v98 v117 v120 v121 v122 v123 v124 v125 f105 f102 f100 f104 f106 f107 f109 f118 f119 f108 nS477 fS477 (lp_vm_classFits_77 nf n_77 a1 v98 v117 v120 v121 v122 v123 v124 v125 f105 f102 f100 f104 f106 f107 f109 f118 f119 f108 nS477 fS477) (lp_vm_classFits_109 nf n_109 a1 v98 v117 v120 v121 v122 v123 v124 v125 f105 f102 f100 f104 f106 f107 f109 f118 f119 f108 nS477 fS477 (lp_vm_classFits_77 nf n_77 a1 v98 v117 v120 v121 v122 v123 v124 v125 f105 f102 f100 f104 f106 f107 f109 f118 f119 f108 nS477 fS477)) l1_122 l2_122 l4_122 l5_122 l6_122 l7_122 g118_122 g119_122 x117_122 x120_122 x121_122 x122_122 x123_122 x124_122 x125_122 = some (r0, o118, o119, w117, w120, w121, w122, w123, w124, w125) := by rw [hn_122, el1_122, el2_122, el4_122, el5_122, el6_122, el7_122, eg118_122, eg119_122, ex117_122, ex120_122, ex121_122, ex122_122, ex123_122, ex124_122, ex125_122]; exact hsp
              replace hl : lv_has ls 8 [(7, .int l7_122), (6, .int l6_122), (5, .int l5_122), (0, .ref h0), (1, .int l1_122), (2, .int l2_122), (4, .int l4_122)] := by rw [el1_122, el2_122, el4_122, el5_122, el6_122, el7_122]; exact hl
              obtain ⟨z122, ez122⟩ : ∃ z : List Value, z = z109 := ⟨_, rfl⟩
              have hfh_122_98 : z122[98]? = some (.int v98) := by rw [ez122]; exact hfh_109_98
              have hfh_122_100 : z122[100]? = some (.ref qf100) := by rw [ez122]; exact hfh_109_100
              have hfh_122_102 : z122[102]? = some (.ref qf102) := by rw [ez122]; exact hfh_109_102
              have hfh_122_104 : z122[104]? = some (.ref qf104) := by rw [ez122]; exact hfh_109_104
              have hfh_122_105 : z122[105]? = some (.ref qf105) := by rw [ez122]; exact hfh_109_105
              have hfh_122_106 : z122[106]? = some (.ref qf106) := by rw [ez122]; exact hfh_109_106
              have hfh_122_107 : z122[107]? = some (.ref qf107) := by rw [ez122]; exact hfh_109_107
              have hfh_122_108 : z122[108]? = some (.ref qf108) := by rw [ez122]; exact hfh_109_108
              have hfh_122_109 : z122[109]? = some (.ref qf109) := by rw [ez122]; exact hfh_109_109
              have hfh_122_117 : z122[117]? = some (.int x117_122) := by rw [ez122, ex117_122]; exact hfh_109_117
              have hfh_122_118 : z122[118]? = some (.ref qf118) := by rw [ez122]; exact hfh_109_118
              have hfh_122_119 : z122[119]? = some (.ref qf119) := by rw [ez122]; exact hfh_109_119
              have hfh_122_120 : z122[120]? = some (.int x120_122) := by rw [ez122, ex120_122]; exact hfh_109_120
              have hfh_122_121 : z122[121]? = some (.int x121_122) := by rw [ez122, ex121_122]; exact hfh_109_121
              have hfh_122_122 : z122[122]? = some (.int x122_122) := by rw [ez122, ex122_122]; exact hfh_109_122
              have hfh_122_123 : z122[123]? = some (.int x123_122) := by rw [ez122, ex123_122]; exact hfh_109_123
              have hfh_122_124 : z122[124]? = some (.int x124_122) := by rw [ez122, ex124_122]; exact hfh_109_124
              have hfh_122_125 : z122[125]? = some (.int x125_122) := by rw [ez122, ex125_122]; exact hfh_109_125
              have hlh_122 : z122.length = 155 := by rw [ez122]; exact hlh_109
              have hrh_122 : ∀ j : Nat, j ≠ 117 → j ≠ 120 → j ≠ 121 → j ≠ 122 → j ≠ 123 → j ≠ 124 → j ≠ 125 → z122[j]? = zs[j]? := by rw [ez122]; exact hrh_109
              replace hP : va_P (dC, dI) vwCl [(h0, .inr (13, z122)), (qf105, .inl (cf105, 8, .inl f105)), (qf102, .inl (cf102, 2048, .inl f102)), (qf100, .inl (cf100, 48000, .inl f100)), (qf104, .inl (cf104, 8, .inl f104)), (qf106, .inl (cf106, 8, .inl f106)), (qf107, .inl (cf107, 96, .inl f107)), (qf109, .inl (cf109, 96, .inl f109)), (qf118, .inl (cf118, 2100, .inl g118_122)), (qf119, .inl (cf119, 2100, .inl g119_122)), (qf108, .inl (cf108, 8, .inl f108))] H := by rw [ez122, eg118_122, eg119_122]; exact hP
              replace hD : va_D A [(h0, .inr (13, z122)), (qf105, .inl (cf105, 8, .inl f105)), (qf102, .inl (cf102, 2048, .inl f102)), (qf100, .inl (cf100, 48000, .inl f100)), (qf104, .inl (cf104, 8, .inl f104)), (qf106, .inl (cf106, 8, .inl f106)), (qf107, .inl (cf107, 96, .inl f107)), (qf109, .inl (cf109, 96, .inl f109)), (qf118, .inl (cf118, 2100, .inl g118_122)), (qf119, .inl (cf119, 2100, .inl g119_122)), (qf108, .inl (cf108, 8, .inl f108))] := by rw [ez122, eg118_122, eg119_122]; exact hD
              clear hn_122 ez122 el1_122 el2_122 el4_122 el5_122 el6_122 el7_122 eg118_122 eg119_122 ex117_122 ex120_122 ex121_122 ex122_122 ex123_122 ex124_122 ex125_122
              try clear hlo
              try clear hH
              revert hsp
              revert hP
              revert hD
              revert hS
              revert hl
              revert hrh_122
              revert hlh_122
              revert hfh_122_125
              revert hfh_122_124
              revert hfh_122_123
              revert hfh_122_122
              revert hfh_122_121
              revert hfh_122_120
              revert hfh_122_119
              revert hfh_122_118
              revert hfh_122_117
              revert hfh_122_109
              revert hfh_122_108
              revert hfh_122_107
              revert hfh_122_106
              revert hfh_122_105
              revert hfh_122_104
              revert hfh_122_102
              revert hfh_122_100
              revert hfh_122_98
              revert x125_122
              revert x124_122
              revert x123_122
              revert x122_122
              revert x121_122
              revert x120_122
              revert x117_122
              revert g119_122
              revert g118_122
              revert l7_122
              revert l6_122
              revert l5_122
              revert l4_122
              revert l2_122
              revert l1_122
              revert z122
              revert ls
              revert locs
              revert H
              induction n_122 with
              | zero => intro H locs ls z122 l1_122 l2_122 l4_122 l5_122 l6_122 l7_122 g118_122 g119_122 x117_122 x120_122 x121_122 x122_122 x123_122 x124_122 x125_122 hfh_122_98 hfh_122_100 hfh_122_102 hfh_122_104 hfh_122_105 hfh_122_106 hfh_122_107 hfh_122_108 hfh_122_109 hfh_122_117 hfh_122_118 hfh_122_119 hfh_122_120 hfh_122_121 hfh_122_122 hfh_122_123 hfh_122_124 hfh_122_125 hlh_122 hrh_122 hl hS hD hP hsp; unfold lp_vm_classFits_122 at hsp; cases hsp
              | succ n_122 ih_122 =>
                intro H locs ls z122 l1_122 l2_122 l4_122 l5_122 l6_122 l7_122 g118_122 g119_122 x117_122 x120_122 x121_122 x122_122 x123_122 x124_122 x125_122 hfh_122_98 hfh_122_100 hfh_122_102 hfh_122_104 hfh_122_105 hfh_122_106 hfh_122_107 hfh_122_108 hfh_122_109 hfh_122_117 hfh_122_118 hfh_122_119 hfh_122_120 hfh_122_121 hfh_122_122 hfh_122_123 hfh_122_124 hfh_122_125 hlh_122 hrh_122 hl hS hD hP hsp
                unfold lp_vm_classFits_122 at hsp
                try dsimp only at hsp
                refine jn_use (α := Heap × List Loc × Array Slot × List Value × Int32 × Int32 × Int32 × Int32 × Int32 × Int32 × Int32 × Int32 × Int32 × Int32 × Int32 × Int32 × (Nat → Int32) × (Nat → Int32) × Int32 × Int32 × Int32 × Int32 × Int32 × Int32 × Int32) (fun x9 => x9.1) (fun x9 => x9.2.1) (fun x9 => F0 m 165 x9.2.2.1 [.int (x9.2.2.2.2.2.2.2.2.2.2.1), .int (x9.2.2.2.2.2.2.2.2.2.2.2.1), .int (x9.2.2.2.2.2.2.2.2.2.2.2.2.1), .ref h0, .int (x9.2.2.2.2.2.2.2.2.2.2.2.2.2.1), .int (x9.2.2.2.2.2.2.2.2.2.2.2.2.2.2.1), .int (x9.2.2.2.2.2.2.2.2.2.2.2.2.2.2.2.1), .ref h0]) (fun x9 => match x9 with | (H, locs, ls, z165, l1_165, l2_165, l4_165, l5_165, l6_165, l7_165, s0_165, s1_165, s2_165, s4_165, s5_165, s6_165, g118_165, g119_165, x117_165, x120_165, x121_165, x122_165, x123_165, x124_165, x125_165) => lv_has ls 8 [(0, .ref h0), (1, .int l1_165), (2, .int l2_165), (4, .int l4_165), (5, .int l5_165), (6, .int l6_165), (7, .int l7_165)] ∧ va_S A s.heap H locs ∧ va_D A [(h0, .inr (13, z165)), (qf105, .inl (cf105, 8, .inl f105)), (qf102, .inl (cf102, 2048, .inl f102)), (qf100, .inl (cf100, 48000, .inl f100)), (qf104, .inl (cf104, 8, .inl f104)), (qf106, .inl (cf106, 8, .inl f106)), (qf107, .inl (cf107, 96, .inl f107)), (qf109, .inl (cf109, 96, .inl f109)), (qf118, .inl (cf118, 2100, .inl g118_165)), (qf119, .inl (cf119, 2100, .inl g119_165)), (qf108, .inl (cf108, 8, .inl f108))] ∧ va_P (dC, dI) vwCl [(h0, .inr (13, z165)), (qf105, .inl (cf105, 8, .inl f105)), (qf102, .inl (cf102, 2048, .inl f102)), (qf100, .inl (cf100, 48000, .inl f100)), (qf104, .inl (cf104, 8, .inl f104)), (qf106, .inl (cf106, 8, .inl f106)), (qf107, .inl (cf107, 96, .inl f107)), (qf109, .inl (cf109, 96, .inl f109)), (qf118, .inl (cf118, 2100, .inl g118_165)), (qf119, .inl (cf119, 2100, .inl g119_165)), (qf108, .inl (cf108, 8, .inl f108))] H ∧ z165[98]? = some (.int v98) ∧ z165[100]? = some (.ref qf100) ∧ z165[102]? = some (.ref qf102) ∧ z165[104]? = some (.ref qf104) ∧ z165[105]? = some (.ref qf105) ∧ z165[106]? = some (.ref qf106) ∧ z165[107]? = some (.ref qf107) ∧ z165[108]? = some (.ref qf108) ∧ z165[109]? = some (.ref qf109) ∧ z165[117]? = some (.int x117_165) ∧ z165[118]? = some (.ref qf118) ∧ z165[119]? = some (.ref qf119) ∧ z165[120]? = some (.int x120_165) ∧ z165[121]? = some (.int x121_165) ∧ z165[122]? = some (.int x122_165) ∧ z165[123]? = some (.int x123_165) ∧ z165[124]? = some (.int x124_165) ∧ z165[125]? = some (.int x125_165) ∧ z165.length = 155 ∧ (∀ j : Nat, j ≠ 117 → j ≠ 120 → j ≠ 121 → j ≠ 122 → j ≠ 123 → j ≠ 124 → j ≠ 125 → z165[j]? = zs[j]?) ∧ jn_vm_classFits_165 nf a1 v98 v117 v120 v121 v122 v123 v124 v125 f105 f102 f100 f104 f106 f107 f109 f118 f119 f108 nS477 fS477 (lp_vm_classFits_77 nf n_77 a1 v98 v117 v120 v121 v122 v123 v124 v125 f105 f102 f100 f104 f106 f107 f109 f118 f119 f108 nS477 fS477) (lp_vm_classFits_109 nf n_109 a1 v98 v117 v120 v121 v122 v123 v124 v125 f105 f102 f100 f104 f106 f107 f109 f118 f119 f108 nS477 fS477 (lp_vm_classFits_77 nf n_77 a1 v98 v117 v120 v121 v122 v123 v124 v125 f105 f102 f100 f104 f106 f107 f109 f118 f119 f108 nS477 fS477)) (lp_vm_classFits_122 nf n_122 a1 v98 v117 v120 v121 v122 v123 v124 v125 f105 f102 f100 f104 f106 f107 f109 f118 f119 f108 nS477 fS477 (lp_vm_classFits_77 nf n_77 a1 v98 v117 v120 v121 v122 v123 v124 v125 f105 f102 f100 f104 f106 f107 f109 f118 f119 f108 nS477 fS477) (lp_vm_classFits_109 nf n_109 a1 v98 v117 v120 v121 v122 v123 v124 v125 f105 f102 f100 f104 f106 f107 f109 f118 f119 f108 nS477 fS477 (lp_vm_classFits_77 nf n_77 a1 v98 v117 v120 v121 v122 v123 v124 v125 f105 f102 f100 f104 f106 f107 f109 f118 f119 f108 nS477 fS477))) l1_165 l2_165 l4_165 l5_165 l6_165 l7_165 s0_165 s1_165 s2_165 s4_165 s5_165 s6_165 g118_165 g119_165 x117_165 x120_165 x121_165 x122_165 x123_165 x124_165 x125_165 = some (r0, o118, o119, w117, w120, w121, w122, w123, w124, w125)) ?_ ?_
                · intro x9 hJ9
                  obtain ⟨H, locs, ls, z165, l1_165, l2_165, l4_165, l5_165, l6_165, l7_165, s0_165, s1_165, s2_165, s4_165, s5_165, s6_165, g118_165, g119_165, x117_165, x120_165, x121_165, x122_165, x123_165, x124_165, x125_165⟩ := x9
                  obtain ⟨hl, hS, hD, hP, hfh_165_98, hfh_165_100, hfh_165_102, hfh_165_104, hfh_165_105, hfh_165_106, hfh_165_107, hfh_165_108, hfh_165_109, hfh_165_117, hfh_165_118, hfh_165_119, hfh_165_120, hfh_165_121, hfh_165_122, hfh_165_123, hfh_165_124, hfh_165_125, hlh_165, hrh_165, hsp⟩ := hJ9
                  replace hl : lv_has ls 8 [(0, .ref h0), (1, .int l1_165), (2, .int l2_165), (4, .int l4_165), (5, .int l5_165), (6, .int l6_165), (7, .int l7_165)] := hl
                  replace hS : va_S A s.heap H locs := hS
                  replace hD : va_D A [(h0, .inr (13, z165)), (qf105, .inl (cf105, 8, .inl f105)), (qf102, .inl (cf102, 2048, .inl f102)), (qf100, .inl (cf100, 48000, .inl f100)), (qf104, .inl (cf104, 8, .inl f104)), (qf106, .inl (cf106, 8, .inl f106)), (qf107, .inl (cf107, 96, .inl f107)), (qf109, .inl (cf109, 96, .inl f109)), (qf118, .inl (cf118, 2100, .inl g118_165)), (qf119, .inl (cf119, 2100, .inl g119_165)), (qf108, .inl (cf108, 8, .inl f108))] := hD
                  replace hP : va_P (dC, dI) vwCl [(h0, .inr (13, z165)), (qf105, .inl (cf105, 8, .inl f105)), (qf102, .inl (cf102, 2048, .inl f102)), (qf100, .inl (cf100, 48000, .inl f100)), (qf104, .inl (cf104, 8, .inl f104)), (qf106, .inl (cf106, 8, .inl f106)), (qf107, .inl (cf107, 96, .inl f107)), (qf109, .inl (cf109, 96, .inl f109)), (qf118, .inl (cf118, 2100, .inl g118_165)), (qf119, .inl (cf119, 2100, .inl g119_165)), (qf108, .inl (cf108, 8, .inl f108))] H := hP
                  replace hsp : jn_vm_classFits_165 nf a1 v98 v117 v120 v121 v122 v123 v124 v125 f105 f102 f100 f104 f106 f107 f109 f118 f119 f108 nS477 fS477 (lp_vm_classFits_77 nf n_77 a1 v98 v117 v120 v121 v122 v123 v124 v125 f105 f102 f100 f104 f106 f107 f109 f118 f119 f108 nS477 fS477) (lp_vm_classFits_109 nf n_109 a1 v98 v117 v120 v121 v122 v123 v124 v125 f105 f102 f100 f104 f106 f107 f109 f118 f119 f108 nS477 fS477 (lp_vm_classFits_77 nf n_77 a1 v98 v117 v120 v121 v122 v123 v124 v125 f105 f102 f100 f104 f106 f107 f109 f118 f119 f108 nS477 fS477)) (lp_vm_classFits_122 nf n_122 a1 v98 v117 v120 v121 v122 v123 v124 v125 f105 f102 f100 f104 f106 f107 f109 f118 f119 f108 nS477 fS477 (lp_vm_classFits_77 nf n_77 a1 v98 v117 v120 v121 v122 v123 v124 v125 f105 f102 f100 f104 f106 f107 f109 f118 f119 f108 nS477 fS477) (lp_vm_classFits_109 nf n_109 a1 v98 v117 v120 v121 v122 v123 v124 v125 f105 f102 f100 f104 f106 f107 f109 f118 f119 f108 nS477 fS477 (lp_vm_classFits_77 nf n_77 a1 v98 v117 v120 v121 v122 v123 v124 v125 f105 f102 f100 f104 f106 f107 f109 f118 f119 f108 nS477 fS477))) l1_165 l2_165 l4_165 l5_165 l6_165 l7_165 s0_165 s1_165 s2_165 s4_165 s5_165 s6_165 g118_165 g119_165 x117_165 x120_165 x121_165 x122_165 x123_165 x124_165 x125_165 = some (r0, o118, o119, w117, w120, w121, w122, w123, w124, w125) := hsp
                  show W _ _ _ _ _ _ _ _ _ _ H locs _ _ _ (F0 m 165 ls [.int s0_165, .int s1_165, .int s2_165, .ref h0, .int s4_165, .int s5_165, .int s6_165, .ref h0])
                  unfold jn_vm_classFits_165 at hsp
                  try dsimp only at hsp
                  obtain ⟨u18_0, hu_18, hsp⟩ := ox_bind hsp
                  try dsimp only at hsp
                  have hPc := hP.sub (ws' := [(h0, .inr (13, z165)), (qf107, .inl (cf107, 96, .inl f107)), (qf100, .inl (cf100, 48000, .inl f100)), (qf109, .inl (cf109, 96, .inl f109))]) [0, 6, 3, 7] rfl
                  have hDc := hD.sub (ws' := [(h0, .inr (13, z165)), (qf107, .inl (cf107, 96, .inl f107)), (qf100, .inl (cf100, 48000, .inl f100)), (qf109, .inl (cf109, 96, .inl f109))]) [0, 6, 3, 7] (by decide) rfl
                  have hKc := hK.sub (tys' := [(cf107, .int), (cf100, .int), (cf109, .int)]) [5, 2, 6] rfl
                  have hFc := va_free (wc := [(h0, .inr (13, z165)), (qf107, .inl (cf107, 96, .inl f107)), (qf100, .inl (cf100, 48000, .inl f100)), (qf109, .inl (cf109, 96, .inl f109))]) hD hS hA [0, 6, 3, 7] rfl
                  refine va_calli (va_runV (As := [.int s2_165, .int s1_165, .int s0_165]) (rest := [.int s4_165, .int s5_165, .int s6_165, .ref h0]) ⟨hx, hb, hml, hown, hts⟩ (tm_nameText l dC dI H.size h0 z165 s2_165 s1_165 s0_165 qf100 qf107 qf109 cf107 f107 cf100 f100 cf109 f109 nf u18_0 hlh_165 hfh_165_100 hfh_165_107 hfh_165_109 hu_18) (cwV 3 hts gv_h9_106 rfl rfl rfl (by decide +kernel) ⟨Nat.le_of_ble_eq_true rfl, Nat.le_of_ble_eq_true rfl⟩) ⟨fun a U g mk q => by obtain ⟨q0, q1, qP, qK, qD⟩ := q; exact ⟨q0, q1, qP, va_K.moved (u := U) (U := U.calling g mk a) (Vm.Alike.refl U.vm) qK, qD⟩, va_recv hKc hPc (ci := 13) (q0 := 0) rfl rfl, fun U hU hW => ⟨rfl, by rw [hU], by rw [hU]; exact hPc, va_K.moved hW.alike hKc, hDc.weaken (fun _ _ _ _ => trivial)⟩⟩ rfl rfl hl.1 rfl (lv_room (Nat.le_of_ble_eq_true rfl)) dX13_classFits_165 ⟨Nat.le_of_ble_eq_true rfl, Nat.le_of_ble_eq_true rfl⟩) hS (fun q _ h => hFc q h) hFc ?_
                  clear hS
                  intro r_41 u t H1 locs ht hvm hw hB hz1 hk1 hS
                  obtain ⟨z_18, rfl⟩ : ∃ z, z = u := ⟨_, rfl⟩
                  obtain ⟨hP1, hK1, hD1⟩ := hB
                  rw [ht] at hP1
                  have hK1 := va_K.moved hvm.symm hK1
                  try dsimp only at hw
                  have hPD := va_join (wr := [(qf105, .inl (cf105, 8, .inl f105)), (qf102, .inl (cf102, 2048, .inl f102)), (qf104, .inl (cf104, 8, .inl f104)), (qf106, .inl (cf106, 8, .inl f106)), (qf118, .inl (cf118, 2100, .inl g118_165)), (qf119, .inl (cf119, 2100, .inl g119_165)), (qf108, .inl (cf108, 8, .inl f108))]) (w1 := [(h0, .inr (13, z_18)), (qf107, .inl (cf107, 96, .inl f107)), (qf100, .inl (cf100, 48000, .inl f100)), (qf109, .inl (cf109, 96, .inl f109))]) hP hD [0, 6, 3, 7] [1, 2, 4, 5, 8, 9, 10] rfl rfl (by decide) (by decide) hk1 hFc hP1 hD1
                  clear hP hD
                  obtain ⟨hP, hD⟩ := hPD
                  replace hK := (hK.sub (tys' := [(cf105, .int), (cf102, .int), (cf104, .int), (cf106, .int), (cf118, .int), (cf119, .int), (cf108, .int)]) [0, 1, 3, 4, 7, 8, 9] rfl).app hK1
                  clear hPc hDc hKc hFc hP1 hK1 hD1 hz1 hk1 ht hvm
                  generalize H1 = H at hP hS ⊢
                  replace hP : va_P (dC, dI) vwCl [(qf105, .inl (cf105, 8, .inl f105)), (qf102, .inl (cf102, 2048, .inl f102)), (qf104, .inl (cf104, 8, .inl f104)), (qf106, .inl (cf106, 8, .inl f106)), (qf118, .inl (cf118, 2100, .inl g118_165)), (qf119, .inl (cf119, 2100, .inl g119_165)), (qf108, .inl (cf108, 8, .inl f108)), (h0, .inr (13, z_18)), (qf107, .inl (cf107, 96, .inl f107)), (qf100, .inl (cf100, 48000, .inl f100)), (qf109, .inl (cf109, 96, .inl f109))] H := hP
                  replace hD : va_D A [(qf105, .inl (cf105, 8, .inl f105)), (qf102, .inl (cf102, 2048, .inl f102)), (qf104, .inl (cf104, 8, .inl f104)), (qf106, .inl (cf106, 8, .inl f106)), (qf118, .inl (cf118, 2100, .inl g118_165)), (qf119, .inl (cf119, 2100, .inl g119_165)), (qf108, .inl (cf108, 8, .inl f108)), (h0, .inr (13, z_18)), (qf107, .inl (cf107, 96, .inl f107)), (qf100, .inl (cf100, 48000, .inl f100)), (qf109, .inl (cf109, 96, .inl f109))] := hD
                  replace hK : va_K (dC, dI) vwCl [(cf105, .int), (cf102, .int), (cf104, .int), (cf106, .int), (cf118, .int), (cf119, .int), (cf108, .int), (cf107, .int), (cf100, .int), (cf109, .int)] s := hK
                  obtain ⟨hwa_18, hln_18, hre_18⟩ := hw
                  have hfk_18_98 : z_18[98]? = some (.int v98) := (hre_18 98 ).trans (hfh_165_98)
                  have hfk_18_100 : z_18[100]? = some (.ref qf100) := (hre_18 100 ).trans (hfh_165_100)
                  have hfk_18_102 : z_18[102]? = some (.ref qf102) := (hre_18 102 ).trans (hfh_165_102)
                  have hfk_18_104 : z_18[104]? = some (.ref qf104) := (hre_18 104 ).trans (hfh_165_104)
                  have hfk_18_105 : z_18[105]? = some (.ref qf105) := (hre_18 105 ).trans (hfh_165_105)
                  have hfk_18_106 : z_18[106]? = some (.ref qf106) := (hre_18 106 ).trans (hfh_165_106)
                  have hfk_18_107 : z_18[107]? = some (.ref qf107) := (hre_18 107 ).trans (hfh_165_107)
                  have hfk_18_108 : z_18[108]? = some (.ref qf108) := (hre_18 108 ).trans (hfh_165_108)
                  have hfk_18_109 : z_18[109]? = some (.ref qf109) := (hre_18 109 ).trans (hfh_165_109)
                  have hfk_18_117 : z_18[117]? = some (.int x117_165) := (hre_18 117 ).trans (hfh_165_117)
                  have hfk_18_118 : z_18[118]? = some (.ref qf118) := (hre_18 118 ).trans (hfh_165_118)
                  have hfk_18_119 : z_18[119]? = some (.ref qf119) := (hre_18 119 ).trans (hfh_165_119)
                  have hfk_18_120 : z_18[120]? = some (.int x120_165) := (hre_18 120 ).trans (hfh_165_120)
                  have hfk_18_121 : z_18[121]? = some (.int x121_165) := (hre_18 121 ).trans (hfh_165_121)
                  have hfk_18_122 : z_18[122]? = some (.int x122_165) := (hre_18 122 ).trans (hfh_165_122)
                  have hfk_18_123 : z_18[123]? = some (.int x123_165) := (hre_18 123 ).trans (hfh_165_123)
                  have hfk_18_124 : z_18[124]? = some (.int x124_165) := (hre_18 124 ).trans (hfh_165_124)
                  have hfk_18_125 : z_18[125]? = some (.int x125_165) := (hre_18 125 ).trans (hfh_165_125)
                  have hrq_18 : ∀ j : Nat, j ≠ 117 → j ≠ 120 → j ≠ 121 → j ≠ 122 → j ≠ 123 → j ≠ 124 → j ≠ 125 → z_18[j]? = zs[j]? := fun j g117 g120 g121 g122 g123 g124 g125 => (hre_18 j ).trans (hrh_165 j g117 g120 g121 g122 g123 g124 g125)
                  obtain rfl := hwa_18
                  obtain ⟨u19_0, hu_19, hsp⟩ := ox_bind hsp
                  try dsimp only at hsp
                  have hPc := hP.sub (ws' := [(h0, .inr (13, z_18)), (qf102, .inl (cf102, 2048, .inl f102)), (qf100, .inl (cf100, 48000, .inl f100))]) [7, 1, 9] rfl
                  have hDc := hD.sub (ws' := [(h0, .inr (13, z_18)), (qf102, .inl (cf102, 2048, .inl f102)), (qf100, .inl (cf100, 48000, .inl f100))]) [7, 1, 9] (by decide) rfl
                  have hKc := hK.sub (tys' := [(cf102, .int), (cf100, .int)]) [1, 8] rfl
                  have hFc := va_free (wc := [(h0, .inr (13, z_18)), (qf102, .inl (cf102, 2048, .inl f102)), (qf100, .inl (cf100, 48000, .inl f100))]) hD hS hA [7, 1, 9] rfl
                  refine va_calli (va_runV (As := [.int s6_165, .int s5_165, .int s4_165, .int u18_0]) (rest := []) ⟨hx, hb, hml, hown, hts⟩ (vm_sameText l dC dI H.size h0 z_18 s6_165 s5_165 s4_165 u18_0 qf100 qf102 cf102 f102 cf100 f100 nf u19_0 hln_18 hfk_18_100 hfk_18_102 hu_19) (cwV 4 hts gv_h9_102 rfl rfl rfl (by decide +kernel) ⟨Nat.le_of_ble_eq_true rfl, Nat.le_of_ble_eq_true rfl⟩) ⟨fun a U g mk q => by obtain ⟨q0, q1, qP, qK, qD⟩ := q; exact ⟨q0, q1, qP, va_K.moved (u := U) (U := U.calling g mk a) (Vm.Alike.refl U.vm) qK, qD⟩, va_recv hKc hPc (ci := 13) (q0 := 0) rfl rfl, fun U hU hW => ⟨rfl, by rw [hU], by rw [hU]; exact hPc, va_K.moved hW.alike hKc, hDc.weaken (fun _ _ _ _ => trivial)⟩⟩ rfl rfl hl.1 rfl (lv_room (Nat.le_of_ble_eq_true rfl)) dX13_classFits_168 ⟨Nat.le_of_ble_eq_true rfl, Nat.le_of_ble_eq_true rfl⟩) hS (fun q _ h => hFc q h) hFc ?_
                  clear hS
                  intro r_42 u t H1 locs ht hvm hw hB hz1 hk1 hS
                  obtain ⟨z_19, rfl⟩ : ∃ z, z = u := ⟨_, rfl⟩
                  obtain ⟨hP1, hK1, hD1⟩ := hB
                  rw [ht] at hP1
                  have hK1 := va_K.moved hvm.symm hK1
                  try dsimp only at hw
                  have hPD := va_join (wr := [(qf105, .inl (cf105, 8, .inl f105)), (qf104, .inl (cf104, 8, .inl f104)), (qf106, .inl (cf106, 8, .inl f106)), (qf118, .inl (cf118, 2100, .inl g118_165)), (qf119, .inl (cf119, 2100, .inl g119_165)), (qf108, .inl (cf108, 8, .inl f108)), (qf107, .inl (cf107, 96, .inl f107)), (qf109, .inl (cf109, 96, .inl f109))]) (w1 := [(h0, .inr (13, z_19)), (qf102, .inl (cf102, 2048, .inl f102)), (qf100, .inl (cf100, 48000, .inl f100))]) hP hD [7, 1, 9] [0, 2, 3, 4, 5, 6, 8, 10] rfl rfl (by decide) (by decide) hk1 hFc hP1 hD1
                  clear hP hD
                  obtain ⟨hP, hD⟩ := hPD
                  replace hK := (hK.sub (tys' := [(cf105, .int), (cf104, .int), (cf106, .int), (cf118, .int), (cf119, .int), (cf108, .int), (cf107, .int), (cf109, .int)]) [0, 2, 3, 4, 5, 6, 7, 9] rfl).app hK1
                  clear hPc hDc hKc hFc hP1 hK1 hD1 hz1 hk1 ht hvm
                  generalize H1 = H at hP hS ⊢
                  replace hP : va_P (dC, dI) vwCl [(qf105, .inl (cf105, 8, .inl f105)), (qf104, .inl (cf104, 8, .inl f104)), (qf106, .inl (cf106, 8, .inl f106)), (qf118, .inl (cf118, 2100, .inl g118_165)), (qf119, .inl (cf119, 2100, .inl g119_165)), (qf108, .inl (cf108, 8, .inl f108)), (qf107, .inl (cf107, 96, .inl f107)), (qf109, .inl (cf109, 96, .inl f109)), (h0, .inr (13, z_19)), (qf102, .inl (cf102, 2048, .inl f102)), (qf100, .inl (cf100, 48000, .inl f100))] H := hP
                  replace hD : va_D A [(qf105, .inl (cf105, 8, .inl f105)), (qf104, .inl (cf104, 8, .inl f104)), (qf106, .inl (cf106, 8, .inl f106)), (qf118, .inl (cf118, 2100, .inl g118_165)), (qf119, .inl (cf119, 2100, .inl g119_165)), (qf108, .inl (cf108, 8, .inl f108)), (qf107, .inl (cf107, 96, .inl f107)), (qf109, .inl (cf109, 96, .inl f109)), (h0, .inr (13, z_19)), (qf102, .inl (cf102, 2048, .inl f102)), (qf100, .inl (cf100, 48000, .inl f100))] := hD
                  replace hK : va_K (dC, dI) vwCl [(cf105, .int), (cf104, .int), (cf106, .int), (cf118, .int), (cf119, .int), (cf108, .int), (cf107, .int), (cf109, .int), (cf102, .int), (cf100, .int)] s := hK
                  obtain ⟨hwa_19, hln_19, hre_19⟩ := hw
                  have hfk_19_98 : z_19[98]? = some (.int v98) := (hre_19 98 ).trans (hfk_18_98)
                  have hfk_19_100 : z_19[100]? = some (.ref qf100) := (hre_19 100 ).trans (hfk_18_100)
                  have hfk_19_102 : z_19[102]? = some (.ref qf102) := (hre_19 102 ).trans (hfk_18_102)
                  have hfk_19_104 : z_19[104]? = some (.ref qf104) := (hre_19 104 ).trans (hfk_18_104)
                  have hfk_19_105 : z_19[105]? = some (.ref qf105) := (hre_19 105 ).trans (hfk_18_105)
                  have hfk_19_106 : z_19[106]? = some (.ref qf106) := (hre_19 106 ).trans (hfk_18_106)
                  have hfk_19_107 : z_19[107]? = some (.ref qf107) := (hre_19 107 ).trans (hfk_18_107)
                  have hfk_19_108 : z_19[108]? = some (.ref qf108) := (hre_19 108 ).trans (hfk_18_108)
                  have hfk_19_109 : z_19[109]? = some (.ref qf109) := (hre_19 109 ).trans (hfk_18_109)
                  have hfk_19_117 : z_19[117]? = some (.int x117_165) := (hre_19 117 ).trans (hfk_18_117)
                  have hfk_19_118 : z_19[118]? = some (.ref qf118) := (hre_19 118 ).trans (hfk_18_118)
                  have hfk_19_119 : z_19[119]? = some (.ref qf119) := (hre_19 119 ).trans (hfk_18_119)
                  have hfk_19_120 : z_19[120]? = some (.int x120_165) := (hre_19 120 ).trans (hfk_18_120)
                  have hfk_19_121 : z_19[121]? = some (.int x121_165) := (hre_19 121 ).trans (hfk_18_121)
                  have hfk_19_122 : z_19[122]? = some (.int x122_165) := (hre_19 122 ).trans (hfk_18_122)
                  have hfk_19_123 : z_19[123]? = some (.int x123_165) := (hre_19 123 ).trans (hfk_18_123)
                  have hfk_19_124 : z_19[124]? = some (.int x124_165) := (hre_19 124 ).trans (hfk_18_124)
                  have hfk_19_125 : z_19[125]? = some (.int x125_165) := (hre_19 125 ).trans (hfk_18_125)
                  have hrq_19 : ∀ j : Nat, j ≠ 117 → j ≠ 120 → j ≠ 121 → j ≠ 122 → j ≠ 123 → j ≠ 124 → j ≠ 125 → z_19[j]? = zs[j]? := fun j g117 g120 g121 g122 g123 g124 g125 => (hre_19 j ).trans (hrq_18 j g117 g120 g121 g122 g123 g124 g125)
                  obtain ⟨rfl, hz_19⟩ := hwa_19
                  rcases hz_19 with rfl | rfl
                  · rw [if_pos rfl] at hsp
                    refine lv_if_eq (tgt := 183) hx hb dX13_classFits_171 (by decide) (fun c_43 => ?_) (fun c_43 => (show False by revert c_43; decide).elim)
                    refine lv_iinc (v := (l7_165 + 1)) (lv' := [(7, .int (l7_165 + 1)), (0, .ref h0), (1, .int l1_165), (2, .int l2_165), (4, .int l4_165), (5, .int l5_165), (6, .int l6_165)]) hx hb dX13_classFits_183 hl (k := 6) rfl rfl (by decide) rfl (fun ls hl => ?_)
                    refine lv_goto (tgt := 122) hx hb dX13_classFits_186 (by decide) ?_
                    exact ih_122 H locs ls z_19 l1_165 l2_165 l4_165 l5_165 l6_165 (l7_165 + 1) g118_165 g119_165 x117_165 x120_165 x121_165 x122_165 x123_165 x124_165 x125_165 (hfk_19_98) (hfk_19_100) (hfk_19_102) (hfk_19_104) (hfk_19_105) (hfk_19_106) (hfk_19_107) (hfk_19_108) (hfk_19_109) (hfk_19_117) (hfk_19_118) (hfk_19_119) (hfk_19_120) (hfk_19_121) (hfk_19_122) (hfk_19_123) (hfk_19_124) (hfk_19_125) hln_19 hrq_19 (lv_sub hl [0, 6, 5, 1, 2, 3, 4] rfl) hS (hD.sub (ws' := [(h0, .inr (13, z_19)), (qf105, .inl (cf105, 8, .inl f105)), (qf102, .inl (cf102, 2048, .inl f102)), (qf100, .inl (cf100, 48000, .inl f100)), (qf104, .inl (cf104, 8, .inl f104)), (qf106, .inl (cf106, 8, .inl f106)), (qf107, .inl (cf107, 96, .inl f107)), (qf109, .inl (cf109, 96, .inl f109)), (qf118, .inl (cf118, 2100, .inl g118_165)), (qf119, .inl (cf119, 2100, .inl g119_165)), (qf108, .inl (cf108, 8, .inl f108))]) [8, 0, 9, 10, 1, 2, 6, 7, 3, 4, 5] (by decide) rfl) (hP.sub (ws' := [(h0, .inr (13, z_19)), (qf105, .inl (cf105, 8, .inl f105)), (qf102, .inl (cf102, 2048, .inl f102)), (qf100, .inl (cf100, 48000, .inl f100)), (qf104, .inl (cf104, 8, .inl f104)), (qf106, .inl (cf106, 8, .inl f106)), (qf107, .inl (cf107, 96, .inl f107)), (qf109, .inl (cf109, 96, .inl f109)), (qf118, .inl (cf118, 2100, .inl g118_165)), (qf119, .inl (cf119, 2100, .inl g119_165)), (qf108, .inl (cf108, 8, .inl f108))]) [8, 0, 9, 10, 1, 2, 6, 7, 3, 4, 5] rfl) hsp
                  · rw [if_neg (by decide)] at hsp
                    refine lv_if_eq (tgt := 183) hx hb dX13_classFits_171 (by decide) (fun c_44 => (show False by revert c_44; decide).elim) (fun c_44 => ?_)
                    refine lv_aload_n hx hb dX13_classFits_174 rfl (lv_at hl 0 rfl) ?_
                    refine lv_iconst (v := 4) hx hb dX13_classFits_175 (by decide) ?_
                    refine lv_iload_n hx hb dX13_classFits_176 rfl (lv_at hl 1 rfl) ?_
                    refine lv_iconst (v := (-1)) hx hb dX13_classFits_177 (by decide) ?_
                    refine lv_iconst (v := (-1)) hx hb dX13_classFits_178 (by decide) ?_
                    obtain ⟨⟨u20_0, u20_1, u20_2, u20_3, u20_4⟩, hu_20, hsp⟩ := ox_bind hsp
                    try dsimp only at hsp
                    have hPc := hP.sub (ws' := [(h0, .inr (13, z_19))]) [8] rfl
                    have hDc := hD.sub (ws' := [(h0, .inr (13, z_19))]) [8] (by decide) rfl
                    have hKc := hK.sub (tys' := []) [] rfl
                    have hFc := va_free (wc := [(h0, .inr (13, z_19))]) hD hS hA [8] rfl
                    refine va_calli (va_runV (As := [.int 4, .int l1_165, .int (-1), .int (-1)]) (rest := []) ⟨hx, hb, hml, hown, hts⟩ (tm_bad l dC dI H.size h0 z_19 4 l1_165 (-1) (-1) x122_165 x123_165 x124_165 x125_165 nf u20_0 u20_1 u20_2 u20_3 u20_4 hln_19 hfk_19_122 hfk_19_123 hfk_19_124 hfk_19_125 hu_20) (cwV 4 hts gv_h9_63 rfl rfl rfl (by decide +kernel) ⟨Nat.le_of_ble_eq_true rfl, Nat.le_of_ble_eq_true rfl⟩) ⟨fun a U g mk q => by obtain ⟨q0, q1, qP, qK, qD⟩ := q; exact ⟨q0, q1, qP, va_K.moved (u := U) (U := U.calling g mk a) (Vm.Alike.refl U.vm) qK, qD⟩, va_recv hKc hPc (ci := 13) (q0 := 0) rfl rfl, fun U hU hW => ⟨rfl, by rw [hU], by rw [hU]; exact hPc, va_K.moved hW.alike hKc, hDc.weaken (fun _ _ _ _ => trivial)⟩⟩ rfl rfl hl.1 rfl (lv_room (Nat.le_of_ble_eq_true rfl)) dX13_classFits_179 ⟨Nat.le_of_ble_eq_true rfl, Nat.le_of_ble_eq_true rfl⟩) hS (fun q _ h => hFc q h) hFc ?_
                    clear hS
                    intro r_45 u t H1 locs ht hvm hw hB hz1 hk1 hS
                    obtain ⟨z_20, rfl⟩ : ∃ z, z = u := ⟨_, rfl⟩
                    obtain ⟨hP1, hK1, hD1⟩ := hB
                    rw [ht] at hP1
                    have hK1 := va_K.moved hvm.symm hK1
                    try dsimp only at hw
                    have hPD := va_join (wr := [(qf105, .inl (cf105, 8, .inl f105)), (qf104, .inl (cf104, 8, .inl f104)), (qf106, .inl (cf106, 8, .inl f106)), (qf118, .inl (cf118, 2100, .inl g118_165)), (qf119, .inl (cf119, 2100, .inl g119_165)), (qf108, .inl (cf108, 8, .inl f108)), (qf107, .inl (cf107, 96, .inl f107)), (qf109, .inl (cf109, 96, .inl f109)), (qf102, .inl (cf102, 2048, .inl f102)), (qf100, .inl (cf100, 48000, .inl f100))]) (w1 := [(h0, .inr (13, z_20))]) hP hD [8] [0, 1, 2, 3, 4, 5, 6, 7, 9, 10] rfl rfl (by decide) (by decide) hk1 hFc hP1 hD1
                    clear hP hD
                    obtain ⟨hP, hD⟩ := hPD
                    replace hK := (hK.sub (tys' := [(cf105, .int), (cf104, .int), (cf106, .int), (cf118, .int), (cf119, .int), (cf108, .int), (cf107, .int), (cf109, .int), (cf102, .int), (cf100, .int)]) [0, 1, 2, 3, 4, 5, 6, 7, 8, 9] rfl).app hK1
                    clear hPc hDc hKc hFc hP1 hK1 hD1 hz1 hk1 ht hvm
                    generalize H1 = H at hP hS ⊢
                    replace hP : va_P (dC, dI) vwCl [(qf105, .inl (cf105, 8, .inl f105)), (qf104, .inl (cf104, 8, .inl f104)), (qf106, .inl (cf106, 8, .inl f106)), (qf118, .inl (cf118, 2100, .inl g118_165)), (qf119, .inl (cf119, 2100, .inl g119_165)), (qf108, .inl (cf108, 8, .inl f108)), (qf107, .inl (cf107, 96, .inl f107)), (qf109, .inl (cf109, 96, .inl f109)), (qf102, .inl (cf102, 2048, .inl f102)), (qf100, .inl (cf100, 48000, .inl f100)), (h0, .inr (13, z_20))] H := hP
                    replace hD : va_D A [(qf105, .inl (cf105, 8, .inl f105)), (qf104, .inl (cf104, 8, .inl f104)), (qf106, .inl (cf106, 8, .inl f106)), (qf118, .inl (cf118, 2100, .inl g118_165)), (qf119, .inl (cf119, 2100, .inl g119_165)), (qf108, .inl (cf108, 8, .inl f108)), (qf107, .inl (cf107, 96, .inl f107)), (qf109, .inl (cf109, 96, .inl f109)), (qf102, .inl (cf102, 2048, .inl f102)), (qf100, .inl (cf100, 48000, .inl f100)), (h0, .inr (13, z_20))] := hD
                    replace hK : va_K (dC, dI) vwCl [(cf105, .int), (cf104, .int), (cf106, .int), (cf118, .int), (cf119, .int), (cf108, .int), (cf107, .int), (cf109, .int), (cf102, .int), (cf100, .int)] s := hK
                    obtain ⟨hwa_20, hln_20, hre_20, hch_20_122, hch_20_123, hch_20_124, hch_20_125⟩ := hw
                    have hfk_20_98 : z_20[98]? = some (.int v98) := (hre_20 98 (by decide) (by decide) (by decide) (by decide)).trans (hfk_19_98)
                    have hfk_20_100 : z_20[100]? = some (.ref qf100) := (hre_20 100 (by decide) (by decide) (by decide) (by decide)).trans (hfk_19_100)
                    have hfk_20_102 : z_20[102]? = some (.ref qf102) := (hre_20 102 (by decide) (by decide) (by decide) (by decide)).trans (hfk_19_102)
                    have hfk_20_104 : z_20[104]? = some (.ref qf104) := (hre_20 104 (by decide) (by decide) (by decide) (by decide)).trans (hfk_19_104)
                    have hfk_20_105 : z_20[105]? = some (.ref qf105) := (hre_20 105 (by decide) (by decide) (by decide) (by decide)).trans (hfk_19_105)
                    have hfk_20_106 : z_20[106]? = some (.ref qf106) := (hre_20 106 (by decide) (by decide) (by decide) (by decide)).trans (hfk_19_106)
                    have hfk_20_107 : z_20[107]? = some (.ref qf107) := (hre_20 107 (by decide) (by decide) (by decide) (by decide)).trans (hfk_19_107)
                    have hfk_20_108 : z_20[108]? = some (.ref qf108) := (hre_20 108 (by decide) (by decide) (by decide) (by decide)).trans (hfk_19_108)
                    have hfk_20_109 : z_20[109]? = some (.ref qf109) := (hre_20 109 (by decide) (by decide) (by decide) (by decide)).trans (hfk_19_109)
                    have hfk_20_117 : z_20[117]? = some (.int x117_165) := (hre_20 117 (by decide) (by decide) (by decide) (by decide)).trans (hfk_19_117)
                    have hfk_20_118 : z_20[118]? = some (.ref qf118) := (hre_20 118 (by decide) (by decide) (by decide) (by decide)).trans (hfk_19_118)
                    have hfk_20_119 : z_20[119]? = some (.ref qf119) := (hre_20 119 (by decide) (by decide) (by decide) (by decide)).trans (hfk_19_119)
                    have hfk_20_120 : z_20[120]? = some (.int x120_165) := (hre_20 120 (by decide) (by decide) (by decide) (by decide)).trans (hfk_19_120)
                    have hfk_20_121 : z_20[121]? = some (.int x121_165) := (hre_20 121 (by decide) (by decide) (by decide) (by decide)).trans (hfk_19_121)
                    have hrq_20 : ∀ j : Nat, j ≠ 117 → j ≠ 120 → j ≠ 121 → j ≠ 122 → j ≠ 123 → j ≠ 124 → j ≠ 125 → z_20[j]? = zs[j]? := fun j g117 g120 g121 g122 g123 g124 g125 => (hre_20 j g122 g123 g124 g125).trans (hrq_19 j g117 g120 g121 g122 g123 g124 g125)
                    obtain ⟨rfl, hz_20⟩ := hwa_20
                    rcases hz_20 with rfl | rfl
                    · rw [if_pos rfl] at hsp
                      have hr0 := Option.some.inj hsp
                      clear hsp
                      obtain ⟨hq0, hr1⟩ := Prod.mk.inj hr0
                      clear hr0
                      obtain ⟨hq1, hr2⟩ := Prod.mk.inj hr1
                      clear hr1
                      obtain ⟨hq2, hr3⟩ := Prod.mk.inj hr2
                      clear hr2
                      obtain ⟨hq3, hr4⟩ := Prod.mk.inj hr3
                      clear hr3
                      obtain ⟨hq4, hr5⟩ := Prod.mk.inj hr4
                      clear hr4
                      obtain ⟨hq5, hr6⟩ := Prod.mk.inj hr5
                      clear hr5
                      obtain ⟨hq6, hr7⟩ := Prod.mk.inj hr6
                      clear hr6
                      obtain ⟨hq7, hr8⟩ := Prod.mk.inj hr7
                      clear hr7
                      obtain ⟨hq8, hr9⟩ := Prod.mk.inj hr8
                      clear hr8
                      subst hq0
                      subst hq1
                      subst hq2
                      subst hq3
                      subst hq4
                      subst hq5
                      subst hq6
                      subst hq7
                      subst hq8
                      subst hr9
                      have hP9 := hP.sub (ws' := [(h0, .inr (13, z_20)), (qf105, .inl (cf105, 8, .inl f105)), (qf102, .inl (cf102, 2048, .inl f102)), (qf100, .inl (cf100, 48000, .inl f100)), (qf104, .inl (cf104, 8, .inl f104)), (qf106, .inl (cf106, 8, .inl f106)), (qf107, .inl (cf107, 96, .inl f107)), (qf109, .inl (cf109, 96, .inl f109)), (qf118, .inl (cf118, 2100, .inl g118_165)), (qf119, .inl (cf119, 2100, .inl g119_165)), (qf108, .inl (cf108, 8, .inl f108))]) [10, 0, 8, 9, 1, 2, 6, 7, 3, 4, 5] rfl
                      have hD9 := hD.sub (ws' := [(h0, .inr (13, z_20)), (qf105, .inl (cf105, 8, .inl f105)), (qf102, .inl (cf102, 2048, .inl f102)), (qf100, .inl (cf100, 48000, .inl f100)), (qf104, .inl (cf104, 8, .inl f104)), (qf106, .inl (cf106, 8, .inl f106)), (qf107, .inl (cf107, 96, .inl f107)), (qf109, .inl (cf109, 96, .inl f109)), (qf118, .inl (cf118, 2100, .inl g118_165)), (qf119, .inl (cf119, 2100, .inl g119_165)), (qf108, .inl (cf108, 8, .inl f108))]) [10, 0, 8, 9, 1, 2, 6, 7, 3, 4, 5] (by decide) rfl
                      have hK9 := hK.sub (tys' := [(cf105, .int), (cf102, .int), (cf100, .int), (cf104, .int), (cf106, .int), (cf107, .int), (cf109, .int), (cf118, .int), (cf119, .int), (cf108, .int)]) [0, 8, 9, 1, 2, 6, 7, 3, 4, 5] rfl
                      exact W.zret hx hb hr (by decide) (fun t ht hW => ⟨⟨(0), (z_20), rfl, ⟨⟨rfl, Or.inl rfl⟩, hln_20, hrq_20, hfk_20_117, hfk_20_120, hfk_20_121, hch_20_122, hch_20_123, hch_20_124, hch_20_125⟩, by rw [ht]; exact hP9, va_K.moved hW.alike hK9, hD9⟩, hS.F ht⟩) hS.2.2 dX13_classFits_182
                    · rw [if_neg (by decide)] at hsp
                      have hr0 := Option.some.inj hsp
                      clear hsp
                      obtain ⟨hq0, hr1⟩ := Prod.mk.inj hr0
                      clear hr0
                      obtain ⟨hq1, hr2⟩ := Prod.mk.inj hr1
                      clear hr1
                      obtain ⟨hq2, hr3⟩ := Prod.mk.inj hr2
                      clear hr2
                      obtain ⟨hq3, hr4⟩ := Prod.mk.inj hr3
                      clear hr3
                      obtain ⟨hq4, hr5⟩ := Prod.mk.inj hr4
                      clear hr4
                      obtain ⟨hq5, hr6⟩ := Prod.mk.inj hr5
                      clear hr5
                      obtain ⟨hq6, hr7⟩ := Prod.mk.inj hr6
                      clear hr6
                      obtain ⟨hq7, hr8⟩ := Prod.mk.inj hr7
                      clear hr7
                      obtain ⟨hq8, hr9⟩ := Prod.mk.inj hr8
                      clear hr8
                      subst hq0
                      subst hq1
                      subst hq2
                      subst hq3
                      subst hq4
                      subst hq5
                      subst hq6
                      subst hq7
                      subst hq8
                      subst hr9
                      have hP9 := hP.sub (ws' := [(h0, .inr (13, z_20)), (qf105, .inl (cf105, 8, .inl f105)), (qf102, .inl (cf102, 2048, .inl f102)), (qf100, .inl (cf100, 48000, .inl f100)), (qf104, .inl (cf104, 8, .inl f104)), (qf106, .inl (cf106, 8, .inl f106)), (qf107, .inl (cf107, 96, .inl f107)), (qf109, .inl (cf109, 96, .inl f109)), (qf118, .inl (cf118, 2100, .inl g118_165)), (qf119, .inl (cf119, 2100, .inl g119_165)), (qf108, .inl (cf108, 8, .inl f108))]) [10, 0, 8, 9, 1, 2, 6, 7, 3, 4, 5] rfl
                      have hD9 := hD.sub (ws' := [(h0, .inr (13, z_20)), (qf105, .inl (cf105, 8, .inl f105)), (qf102, .inl (cf102, 2048, .inl f102)), (qf100, .inl (cf100, 48000, .inl f100)), (qf104, .inl (cf104, 8, .inl f104)), (qf106, .inl (cf106, 8, .inl f106)), (qf107, .inl (cf107, 96, .inl f107)), (qf109, .inl (cf109, 96, .inl f109)), (qf118, .inl (cf118, 2100, .inl g118_165)), (qf119, .inl (cf119, 2100, .inl g119_165)), (qf108, .inl (cf108, 8, .inl f108))]) [10, 0, 8, 9, 1, 2, 6, 7, 3, 4, 5] (by decide) rfl
                      have hK9 := hK.sub (tys' := [(cf105, .int), (cf102, .int), (cf100, .int), (cf104, .int), (cf106, .int), (cf107, .int), (cf109, .int), (cf118, .int), (cf119, .int), (cf108, .int)]) [0, 8, 9, 1, 2, 6, 7, 3, 4, 5] rfl
                      exact W.zret hx hb hr (by decide) (fun t ht hW => ⟨⟨(1), (z_20), rfl, ⟨⟨rfl, Or.inr rfl⟩, hln_20, hrq_20, hfk_20_117, hfk_20_120, hfk_20_121, hch_20_122, hch_20_123, hch_20_124, hch_20_125⟩, by rw [ht]; exact hP9, va_K.moved hW.alike hK9, hD9⟩, hS.F ht⟩) hS.2.2 dX13_classFits_182
                intro hj_165
                refine jn_use (α := Heap × List Loc × Array Slot × List Value × Int32 × Int32 × Int32 × Int32 × Int32 × Int32 × Int32 × Int32 × Int32 × Int32 × (Nat → Int32) × (Nat → Int32) × Int32 × Int32 × Int32 × Int32 × Int32 × Int32 × Int32) (fun x9 => x9.1) (fun x9 => x9.2.1) (fun x9 => F0 m 146 x9.2.2.1 [.int (x9.2.2.2.2.2.2.2.2.2.2.1), .int (x9.2.2.2.2.2.2.2.2.2.2.2.1), .int (x9.2.2.2.2.2.2.2.2.2.2.2.2.1), .ref h0, .int (x9.2.2.2.2.2.2.2.2.2.2.2.2.2.1), .ref h0]) (fun x9 => match x9 with | (H, locs, ls, z146, l1_146, l2_146, l4_146, l5_146, l6_146, l7_146, s0_146, s1_146, s2_146, s4_146, g118_146, g119_146, x117_146, x120_146, x121_146, x122_146, x123_146, x124_146, x125_146) => lv_has ls 8 [(0, .ref h0), (1, .int l1_146), (2, .int l2_146), (4, .int l4_146), (5, .int l5_146), (6, .int l6_146), (7, .int l7_146)] ∧ va_S A s.heap H locs ∧ va_D A [(h0, .inr (13, z146)), (qf105, .inl (cf105, 8, .inl f105)), (qf102, .inl (cf102, 2048, .inl f102)), (qf100, .inl (cf100, 48000, .inl f100)), (qf104, .inl (cf104, 8, .inl f104)), (qf106, .inl (cf106, 8, .inl f106)), (qf107, .inl (cf107, 96, .inl f107)), (qf109, .inl (cf109, 96, .inl f109)), (qf118, .inl (cf118, 2100, .inl g118_146)), (qf119, .inl (cf119, 2100, .inl g119_146)), (qf108, .inl (cf108, 8, .inl f108))] ∧ va_P (dC, dI) vwCl [(h0, .inr (13, z146)), (qf105, .inl (cf105, 8, .inl f105)), (qf102, .inl (cf102, 2048, .inl f102)), (qf100, .inl (cf100, 48000, .inl f100)), (qf104, .inl (cf104, 8, .inl f104)), (qf106, .inl (cf106, 8, .inl f106)), (qf107, .inl (cf107, 96, .inl f107)), (qf109, .inl (cf109, 96, .inl f109)), (qf118, .inl (cf118, 2100, .inl g118_146)), (qf119, .inl (cf119, 2100, .inl g119_146)), (qf108, .inl (cf108, 8, .inl f108))] H ∧ z146[98]? = some (.int v98) ∧ z146[100]? = some (.ref qf100) ∧ z146[102]? = some (.ref qf102) ∧ z146[104]? = some (.ref qf104) ∧ z146[105]? = some (.ref qf105) ∧ z146[106]? = some (.ref qf106) ∧ z146[107]? = some (.ref qf107) ∧ z146[108]? = some (.ref qf108) ∧ z146[109]? = some (.ref qf109) ∧ z146[117]? = some (.int x117_146) ∧ z146[118]? = some (.ref qf118) ∧ z146[119]? = some (.ref qf119) ∧ z146[120]? = some (.int x120_146) ∧ z146[121]? = some (.int x121_146) ∧ z146[122]? = some (.int x122_146) ∧ z146[123]? = some (.int x123_146) ∧ z146[124]? = some (.int x124_146) ∧ z146[125]? = some (.int x125_146) ∧ z146.length = 155 ∧ (∀ j : Nat, j ≠ 117 → j ≠ 120 → j ≠ 121 → j ≠ 122 → j ≠ 123 → j ≠ 124 → j ≠ 125 → z146[j]? = zs[j]?) ∧ jn_vm_classFits_146 nf a1 v98 v117 v120 v121 v122 v123 v124 v125 f105 f102 f100 f104 f106 f107 f109 f118 f119 f108 nS477 fS477 (lp_vm_classFits_77 nf n_77 a1 v98 v117 v120 v121 v122 v123 v124 v125 f105 f102 f100 f104 f106 f107 f109 f118 f119 f108 nS477 fS477) (lp_vm_classFits_109 nf n_109 a1 v98 v117 v120 v121 v122 v123 v124 v125 f105 f102 f100 f104 f106 f107 f109 f118 f119 f108 nS477 fS477 (lp_vm_classFits_77 nf n_77 a1 v98 v117 v120 v121 v122 v123 v124 v125 f105 f102 f100 f104 f106 f107 f109 f118 f119 f108 nS477 fS477)) (lp_vm_classFits_122 nf n_122 a1 v98 v117 v120 v121 v122 v123 v124 v125 f105 f102 f100 f104 f106 f107 f109 f118 f119 f108 nS477 fS477 (lp_vm_classFits_77 nf n_77 a1 v98 v117 v120 v121 v122 v123 v124 v125 f105 f102 f100 f104 f106 f107 f109 f118 f119 f108 nS477 fS477) (lp_vm_classFits_109 nf n_109 a1 v98 v117 v120 v121 v122 v123 v124 v125 f105 f102 f100 f104 f106 f107 f109 f118 f119 f108 nS477 fS477 (lp_vm_classFits_77 nf n_77 a1 v98 v117 v120 v121 v122 v123 v124 v125 f105 f102 f100 f104 f106 f107 f109 f118 f119 f108 nS477 fS477))) l1_146 l2_146 l4_146 l5_146 l6_146 l7_146 s0_146 s1_146 s2_146 s4_146 g118_146 g119_146 x117_146 x120_146 x121_146 x122_146 x123_146 x124_146 x125_146 = some (r0, o118, o119, w117, w120, w121, w122, w123, w124, w125)) ?_ ?_
                · intro x9 hJ9
                  obtain ⟨H, locs, ls, z146, l1_146, l2_146, l4_146, l5_146, l6_146, l7_146, s0_146, s1_146, s2_146, s4_146, g118_146, g119_146, x117_146, x120_146, x121_146, x122_146, x123_146, x124_146, x125_146⟩ := x9
                  obtain ⟨hl, hS, hD, hP, hfh_146_98, hfh_146_100, hfh_146_102, hfh_146_104, hfh_146_105, hfh_146_106, hfh_146_107, hfh_146_108, hfh_146_109, hfh_146_117, hfh_146_118, hfh_146_119, hfh_146_120, hfh_146_121, hfh_146_122, hfh_146_123, hfh_146_124, hfh_146_125, hlh_146, hrh_146, hsp⟩ := hJ9
                  replace hl : lv_has ls 8 [(0, .ref h0), (1, .int l1_146), (2, .int l2_146), (4, .int l4_146), (5, .int l5_146), (6, .int l6_146), (7, .int l7_146)] := hl
                  replace hS : va_S A s.heap H locs := hS
                  replace hD : va_D A [(h0, .inr (13, z146)), (qf105, .inl (cf105, 8, .inl f105)), (qf102, .inl (cf102, 2048, .inl f102)), (qf100, .inl (cf100, 48000, .inl f100)), (qf104, .inl (cf104, 8, .inl f104)), (qf106, .inl (cf106, 8, .inl f106)), (qf107, .inl (cf107, 96, .inl f107)), (qf109, .inl (cf109, 96, .inl f109)), (qf118, .inl (cf118, 2100, .inl g118_146)), (qf119, .inl (cf119, 2100, .inl g119_146)), (qf108, .inl (cf108, 8, .inl f108))] := hD
                  replace hP : va_P (dC, dI) vwCl [(h0, .inr (13, z146)), (qf105, .inl (cf105, 8, .inl f105)), (qf102, .inl (cf102, 2048, .inl f102)), (qf100, .inl (cf100, 48000, .inl f100)), (qf104, .inl (cf104, 8, .inl f104)), (qf106, .inl (cf106, 8, .inl f106)), (qf107, .inl (cf107, 96, .inl f107)), (qf109, .inl (cf109, 96, .inl f109)), (qf118, .inl (cf118, 2100, .inl g118_146)), (qf119, .inl (cf119, 2100, .inl g119_146)), (qf108, .inl (cf108, 8, .inl f108))] H := hP
                  replace hsp : jn_vm_classFits_146 nf a1 v98 v117 v120 v121 v122 v123 v124 v125 f105 f102 f100 f104 f106 f107 f109 f118 f119 f108 nS477 fS477 (lp_vm_classFits_77 nf n_77 a1 v98 v117 v120 v121 v122 v123 v124 v125 f105 f102 f100 f104 f106 f107 f109 f118 f119 f108 nS477 fS477) (lp_vm_classFits_109 nf n_109 a1 v98 v117 v120 v121 v122 v123 v124 v125 f105 f102 f100 f104 f106 f107 f109 f118 f119 f108 nS477 fS477 (lp_vm_classFits_77 nf n_77 a1 v98 v117 v120 v121 v122 v123 v124 v125 f105 f102 f100 f104 f106 f107 f109 f118 f119 f108 nS477 fS477)) (lp_vm_classFits_122 nf n_122 a1 v98 v117 v120 v121 v122 v123 v124 v125 f105 f102 f100 f104 f106 f107 f109 f118 f119 f108 nS477 fS477 (lp_vm_classFits_77 nf n_77 a1 v98 v117 v120 v121 v122 v123 v124 v125 f105 f102 f100 f104 f106 f107 f109 f118 f119 f108 nS477 fS477) (lp_vm_classFits_109 nf n_109 a1 v98 v117 v120 v121 v122 v123 v124 v125 f105 f102 f100 f104 f106 f107 f109 f118 f119 f108 nS477 fS477 (lp_vm_classFits_77 nf n_77 a1 v98 v117 v120 v121 v122 v123 v124 v125 f105 f102 f100 f104 f106 f107 f109 f118 f119 f108 nS477 fS477))) l1_146 l2_146 l4_146 l5_146 l6_146 l7_146 s0_146 s1_146 s2_146 s4_146 g118_146 g119_146 x117_146 x120_146 x121_146 x122_146 x123_146 x124_146 x125_146 = some (r0, o118, o119, w117, w120, w121, w122, w123, w124, w125) := hsp
                  show W _ _ _ _ _ _ _ _ _ _ H locs _ _ _ (F0 m 146 ls [.int s0_146, .int s1_146, .int s2_146, .ref h0, .int s4_146, .ref h0])
                  unfold jn_vm_classFits_146 at hsp
                  try dsimp only at hsp
                  obtain ⟨u17_0, hu_17, hsp⟩ := ox_bind hsp
                  try dsimp only at hsp
                  have hPc := hP.sub (ws' := [(h0, .inr (13, z146)), (qf107, .inl (cf107, 96, .inl f107)), (qf100, .inl (cf100, 48000, .inl f100)), (qf109, .inl (cf109, 96, .inl f109))]) [0, 6, 3, 7] rfl
                  have hDc := hD.sub (ws' := [(h0, .inr (13, z146)), (qf107, .inl (cf107, 96, .inl f107)), (qf100, .inl (cf100, 48000, .inl f100)), (qf109, .inl (cf109, 96, .inl f109))]) [0, 6, 3, 7] (by decide) rfl
                  have hKc := hK.sub (tys' := [(cf107, .int), (cf100, .int), (cf109, .int)]) [5, 2, 6] rfl
                  have hFc := va_free (wc := [(h0, .inr (13, z146)), (qf107, .inl (cf107, 96, .inl f107)), (qf100, .inl (cf100, 48000, .inl f100)), (qf109, .inl (cf109, 96, .inl f109))]) hD hS hA [0, 6, 3, 7] rfl
                  refine va_calli (va_runV (As := [.int s2_146, .int s1_146, .int s0_146]) (rest := [.int s4_146, .ref h0]) ⟨hx, hb, hml, hown, hts⟩ (tm_nameText l dC dI H.size h0 z146 s2_146 s1_146 s0_146 qf100 qf107 qf109 cf107 f107 cf100 f100 cf109 f109 nf u17_0 hlh_146 hfh_146_100 hfh_146_107 hfh_146_109 hu_17) (cwV 3 hts gv_h9_106 rfl rfl rfl (by decide +kernel) ⟨Nat.le_of_ble_eq_true rfl, Nat.le_of_ble_eq_true rfl⟩) ⟨fun a U g mk q => by obtain ⟨q0, q1, qP, qK, qD⟩ := q; exact ⟨q0, q1, qP, va_K.moved (u := U) (U := U.calling g mk a) (Vm.Alike.refl U.vm) qK, qD⟩, va_recv hKc hPc (ci := 13) (q0 := 0) rfl rfl, fun U hU hW => ⟨rfl, by rw [hU], by rw [hU]; exact hPc, va_K.moved hW.alike hKc, hDc.weaken (fun _ _ _ _ => trivial)⟩⟩ rfl rfl hl.1 rfl (lv_room (Nat.le_of_ble_eq_true rfl)) dX13_classFits_146 ⟨Nat.le_of_ble_eq_true rfl, Nat.le_of_ble_eq_true rfl⟩) hS (fun q _ h => hFc q h) hFc ?_
                  clear hS
                  intro r_39 u t H1 locs ht hvm hw hB hz1 hk1 hS
                  obtain ⟨z_17, rfl⟩ : ∃ z, z = u := ⟨_, rfl⟩
                  obtain ⟨hP1, hK1, hD1⟩ := hB
                  rw [ht] at hP1
                  have hK1 := va_K.moved hvm.symm hK1
                  try dsimp only at hw
                  have hPD := va_join (wr := [(qf105, .inl (cf105, 8, .inl f105)), (qf102, .inl (cf102, 2048, .inl f102)), (qf104, .inl (cf104, 8, .inl f104)), (qf106, .inl (cf106, 8, .inl f106)), (qf118, .inl (cf118, 2100, .inl g118_146)), (qf119, .inl (cf119, 2100, .inl g119_146)), (qf108, .inl (cf108, 8, .inl f108))]) (w1 := [(h0, .inr (13, z_17)), (qf107, .inl (cf107, 96, .inl f107)), (qf100, .inl (cf100, 48000, .inl f100)), (qf109, .inl (cf109, 96, .inl f109))]) hP hD [0, 6, 3, 7] [1, 2, 4, 5, 8, 9, 10] rfl rfl (by decide) (by decide) hk1 hFc hP1 hD1
                  clear hP hD
                  obtain ⟨hP, hD⟩ := hPD
                  replace hK := (hK.sub (tys' := [(cf105, .int), (cf102, .int), (cf104, .int), (cf106, .int), (cf118, .int), (cf119, .int), (cf108, .int)]) [0, 1, 3, 4, 7, 8, 9] rfl).app hK1
                  clear hPc hDc hKc hFc hP1 hK1 hD1 hz1 hk1 ht hvm
                  generalize H1 = H at hP hS ⊢
                  replace hP : va_P (dC, dI) vwCl [(qf105, .inl (cf105, 8, .inl f105)), (qf102, .inl (cf102, 2048, .inl f102)), (qf104, .inl (cf104, 8, .inl f104)), (qf106, .inl (cf106, 8, .inl f106)), (qf118, .inl (cf118, 2100, .inl g118_146)), (qf119, .inl (cf119, 2100, .inl g119_146)), (qf108, .inl (cf108, 8, .inl f108)), (h0, .inr (13, z_17)), (qf107, .inl (cf107, 96, .inl f107)), (qf100, .inl (cf100, 48000, .inl f100)), (qf109, .inl (cf109, 96, .inl f109))] H := hP
                  replace hD : va_D A [(qf105, .inl (cf105, 8, .inl f105)), (qf102, .inl (cf102, 2048, .inl f102)), (qf104, .inl (cf104, 8, .inl f104)), (qf106, .inl (cf106, 8, .inl f106)), (qf118, .inl (cf118, 2100, .inl g118_146)), (qf119, .inl (cf119, 2100, .inl g119_146)), (qf108, .inl (cf108, 8, .inl f108)), (h0, .inr (13, z_17)), (qf107, .inl (cf107, 96, .inl f107)), (qf100, .inl (cf100, 48000, .inl f100)), (qf109, .inl (cf109, 96, .inl f109))] := hD
                  replace hK : va_K (dC, dI) vwCl [(cf105, .int), (cf102, .int), (cf104, .int), (cf106, .int), (cf118, .int), (cf119, .int), (cf108, .int), (cf107, .int), (cf100, .int), (cf109, .int)] s := hK
                  obtain ⟨hwa_17, hln_17, hre_17⟩ := hw
                  have hfk_17_98 : z_17[98]? = some (.int v98) := (hre_17 98 ).trans (hfh_146_98)
                  have hfk_17_100 : z_17[100]? = some (.ref qf100) := (hre_17 100 ).trans (hfh_146_100)
                  have hfk_17_102 : z_17[102]? = some (.ref qf102) := (hre_17 102 ).trans (hfh_146_102)
                  have hfk_17_104 : z_17[104]? = some (.ref qf104) := (hre_17 104 ).trans (hfh_146_104)
                  have hfk_17_105 : z_17[105]? = some (.ref qf105) := (hre_17 105 ).trans (hfh_146_105)
                  have hfk_17_106 : z_17[106]? = some (.ref qf106) := (hre_17 106 ).trans (hfh_146_106)
                  have hfk_17_107 : z_17[107]? = some (.ref qf107) := (hre_17 107 ).trans (hfh_146_107)
                  have hfk_17_108 : z_17[108]? = some (.ref qf108) := (hre_17 108 ).trans (hfh_146_108)
                  have hfk_17_109 : z_17[109]? = some (.ref qf109) := (hre_17 109 ).trans (hfh_146_109)
                  have hfk_17_117 : z_17[117]? = some (.int x117_146) := (hre_17 117 ).trans (hfh_146_117)
                  have hfk_17_118 : z_17[118]? = some (.ref qf118) := (hre_17 118 ).trans (hfh_146_118)
                  have hfk_17_119 : z_17[119]? = some (.ref qf119) := (hre_17 119 ).trans (hfh_146_119)
                  have hfk_17_120 : z_17[120]? = some (.int x120_146) := (hre_17 120 ).trans (hfh_146_120)
                  have hfk_17_121 : z_17[121]? = some (.int x121_146) := (hre_17 121 ).trans (hfh_146_121)
                  have hfk_17_122 : z_17[122]? = some (.int x122_146) := (hre_17 122 ).trans (hfh_146_122)
                  have hfk_17_123 : z_17[123]? = some (.int x123_146) := (hre_17 123 ).trans (hfh_146_123)
                  have hfk_17_124 : z_17[124]? = some (.int x124_146) := (hre_17 124 ).trans (hfh_146_124)
                  have hfk_17_125 : z_17[125]? = some (.int x125_146) := (hre_17 125 ).trans (hfh_146_125)
                  have hrq_17 : ∀ j : Nat, j ≠ 117 → j ≠ 120 → j ≠ 121 → j ≠ 122 → j ≠ 123 → j ≠ 124 → j ≠ 125 → z_17[j]? = zs[j]? := fun j g117 g120 g121 g122 g123 g124 g125 => (hre_17 j ).trans (hrh_146 j g117 g120 g121 g122 g123 g124 g125)
                  obtain rfl := hwa_17
                  refine lv_iload_n hx hb dX13_classFits_149 rfl (lv_at hl 2 rfl) ?_
                  refine lv_aload_n hx hb dX13_classFits_150 rfl (lv_at hl 0 rfl) ?_
                  refine lv_iload_n hx hb dX13_classFits_151 rfl (lv_at hl 2 rfl) ?_
                  refine lv_iload hx hb dX13_classFits_152 (lv_at hl 6 rfl) ?_
                  refine lv_iload hx hb dX13_classFits_154 (lv_at hl 3 rfl) ?_
                  refine lv_iconst (v := 1) hx hb dX13_classFits_156 (by decide) ?_
                  refine lv_icmp_ne (tgt := 164) hx hb dX13_classFits_157 (by decide) (fun c_40 => ?_) (fun c_40 => ?_)
                  · rw [if_neg c_40] at hsp
                    refine lv_iconst (v := 0) hx hb dX13_classFits_164 (by decide) ?_
                    exact hj_165 (H, locs, ls, z_17, l1_146, l2_146, l4_146, l5_146, l6_146, l7_146, 0, l7_146, l2_146, l2_146, u17_0, s4_146, g118_146, g119_146, x117_146, x120_146, x121_146, x122_146, x123_146, x124_146, x125_146) ⟨lv_sub hl [0, 1, 2, 3, 4, 5, 6] rfl, hS, hD.sub (ws' := [(h0, .inr (13, z_17)), (qf105, .inl (cf105, 8, .inl f105)), (qf102, .inl (cf102, 2048, .inl f102)), (qf100, .inl (cf100, 48000, .inl f100)), (qf104, .inl (cf104, 8, .inl f104)), (qf106, .inl (cf106, 8, .inl f106)), (qf107, .inl (cf107, 96, .inl f107)), (qf109, .inl (cf109, 96, .inl f109)), (qf118, .inl (cf118, 2100, .inl g118_146)), (qf119, .inl (cf119, 2100, .inl g119_146)), (qf108, .inl (cf108, 8, .inl f108))]) [7, 0, 1, 9, 2, 3, 8, 10, 4, 5, 6] (by decide) rfl, hP.sub (ws' := [(h0, .inr (13, z_17)), (qf105, .inl (cf105, 8, .inl f105)), (qf102, .inl (cf102, 2048, .inl f102)), (qf100, .inl (cf100, 48000, .inl f100)), (qf104, .inl (cf104, 8, .inl f104)), (qf106, .inl (cf106, 8, .inl f106)), (qf107, .inl (cf107, 96, .inl f107)), (qf109, .inl (cf109, 96, .inl f109)), (qf118, .inl (cf118, 2100, .inl g118_146)), (qf119, .inl (cf119, 2100, .inl g119_146)), (qf108, .inl (cf108, 8, .inl f108))]) [7, 0, 1, 9, 2, 3, 8, 10, 4, 5, 6] rfl, hfk_17_98, hfk_17_100, hfk_17_102, hfk_17_104, hfk_17_105, hfk_17_106, hfk_17_107, hfk_17_108, hfk_17_109, hfk_17_117, hfk_17_118, hfk_17_119, hfk_17_120, hfk_17_121, hfk_17_122, hfk_17_123, hfk_17_124, hfk_17_125, hln_17, hrq_17, hsp⟩
                  · rw [if_pos c_40] at hsp
                    refine lv_iconst (v := 1) hx hb dX13_classFits_160 (by decide) ?_
                    refine lv_goto (tgt := 165) hx hb dX13_classFits_161 (by decide) ?_
                    exact hj_165 (H, locs, ls, z_17, l1_146, l2_146, l4_146, l5_146, l6_146, l7_146, 1, l7_146, l2_146, l2_146, u17_0, s4_146, g118_146, g119_146, x117_146, x120_146, x121_146, x122_146, x123_146, x124_146, x125_146) ⟨lv_sub hl [0, 1, 2, 3, 4, 5, 6] rfl, hS, hD.sub (ws' := [(h0, .inr (13, z_17)), (qf105, .inl (cf105, 8, .inl f105)), (qf102, .inl (cf102, 2048, .inl f102)), (qf100, .inl (cf100, 48000, .inl f100)), (qf104, .inl (cf104, 8, .inl f104)), (qf106, .inl (cf106, 8, .inl f106)), (qf107, .inl (cf107, 96, .inl f107)), (qf109, .inl (cf109, 96, .inl f109)), (qf118, .inl (cf118, 2100, .inl g118_146)), (qf119, .inl (cf119, 2100, .inl g119_146)), (qf108, .inl (cf108, 8, .inl f108))]) [7, 0, 1, 9, 2, 3, 8, 10, 4, 5, 6] (by decide) rfl, hP.sub (ws' := [(h0, .inr (13, z_17)), (qf105, .inl (cf105, 8, .inl f105)), (qf102, .inl (cf102, 2048, .inl f102)), (qf100, .inl (cf100, 48000, .inl f100)), (qf104, .inl (cf104, 8, .inl f104)), (qf106, .inl (cf106, 8, .inl f106)), (qf107, .inl (cf107, 96, .inl f107)), (qf109, .inl (cf109, 96, .inl f109)), (qf118, .inl (cf118, 2100, .inl g118_146)), (qf119, .inl (cf119, 2100, .inl g119_146)), (qf108, .inl (cf108, 8, .inl f108))]) [7, 0, 1, 9, 2, 3, 8, 10, 4, 5, 6] rfl, hfk_17_98, hfk_17_100, hfk_17_102, hfk_17_104, hfk_17_105, hfk_17_106, hfk_17_107, hfk_17_108, hfk_17_109, hfk_17_117, hfk_17_118, hfk_17_119, hfk_17_120, hfk_17_121, hfk_17_122, hfk_17_123, hfk_17_124, hfk_17_125, hln_17, hrq_17, hsp⟩
                intro hj_146
                refine lv_iload hx hb dX13_classFits_122 (lv_at hl 0 rfl) ?_
                refine lv_iload hx hb dX13_classFits_124 (lv_at hl 2 rfl) ?_
                refine lv_icmp_ge (tgt := 189) hx hb dX13_classFits_126 (by decide) (fun c_37 => ?_) (fun c_37 => ?_)
                · rw [if_pos c_37] at hsp
                  refine lv_iinc (v := (l6_122 + 1)) (lv' := [(6, .int (l6_122 + 1)), (7, .int l7_122), (5, .int l5_122), (0, .ref h0), (1, .int l1_122), (2, .int l2_122), (4, .int l4_122)]) hx hb dX13_classFits_189 hl (k := 1) rfl rfl (by decide) rfl (fun ls hl => ?_)
                  refine lv_goto (tgt := 109) hx hb dX13_classFits_192 (by decide) ?_
                  exact ih_109 H locs ls z122 l1_122 l2_122 l4_122 l5_122 (l6_122 + 1) g118_122 g119_122 x117_122 x120_122 x121_122 x122_122 x123_122 x124_122 x125_122 (hfh_122_98) (hfh_122_100) (hfh_122_102) (hfh_122_104) (hfh_122_105) (hfh_122_106) (hfh_122_107) (hfh_122_108) (hfh_122_109) (hfh_122_117) (hfh_122_118) (hfh_122_119) (hfh_122_120) (hfh_122_121) (hfh_122_122) (hfh_122_123) (hfh_122_124) (hfh_122_125) hlh_122 hrh_122 (lv_sub hl [0, 2, 3, 4, 5, 6] rfl) hS (hD.sub (ws' := [(h0, .inr (13, z122)), (qf105, .inl (cf105, 8, .inl f105)), (qf102, .inl (cf102, 2048, .inl f102)), (qf100, .inl (cf100, 48000, .inl f100)), (qf104, .inl (cf104, 8, .inl f104)), (qf106, .inl (cf106, 8, .inl f106)), (qf107, .inl (cf107, 96, .inl f107)), (qf109, .inl (cf109, 96, .inl f109)), (qf118, .inl (cf118, 2100, .inl g118_122)), (qf119, .inl (cf119, 2100, .inl g119_122)), (qf108, .inl (cf108, 8, .inl f108))]) [0, 1, 2, 3, 4, 5, 6, 7, 8, 9, 10] (by decide) rfl) (hP.sub (ws' := [(h0, .inr (13, z122)), (qf105, .inl (cf105, 8, .inl f105)), (qf102, .inl (cf102, 2048, .inl f102)), (qf100, .inl (cf100, 48000, .inl f100)), (qf104, .inl (cf104, 8, .inl f104)), (qf106, .inl (cf106, 8, .inl f106)), (qf107, .inl (cf107, 96, .inl f107)), (qf109, .inl (cf109, 96, .inl f109)), (qf118, .inl (cf118, 2100, .inl g118_122)), (qf119, .inl (cf119, 2100, .inl g119_122)), (qf108, .inl (cf108, 8, .inl f108))]) [0, 1, 2, 3, 4, 5, 6, 7, 8, 9, 10] rfl) hsp
                · rw [if_neg c_37] at hsp
                  refine lv_aload_n hx hb dX13_classFits_129 rfl (lv_at hl 3 rfl) ?_
                  refine lv_iload_n hx hb dX13_classFits_130 rfl (lv_at hl 5 rfl) ?_
                  refine lv_aload_n hx hb dX13_classFits_131 rfl (lv_at hl 3 rfl) ?_
                  refine lv_iload_n hx hb dX13_classFits_132 rfl (lv_at hl 5 rfl) ?_
                  refine lv_iload hx hb dX13_classFits_133 (lv_at hl 1 rfl) ?_
                  refine lv_iload hx hb dX13_classFits_135 (lv_at hl 6 rfl) ?_
                  refine lv_iconst (v := 1) hx hb dX13_classFits_137 (by decide) ?_
                  refine lv_icmp_ne (tgt := 145) hx hb dX13_classFits_138 (by decide) (fun c_38 => ?_) (fun c_38 => ?_)
                  · rw [if_neg c_38] at hsp
                    refine lv_iconst (v := 0) hx hb dX13_classFits_145 (by decide) ?_
                    exact hj_146 (H, locs, ls, z122, l1_122, l2_122, l4_122, l5_122, l6_122, l7_122, 0, l6_122, l2_122, l2_122, g118_122, g119_122, x117_122, x120_122, x121_122, x122_122, x123_122, x124_122, x125_122) ⟨lv_sub hl [3, 4, 5, 6, 2, 1, 0] rfl, hS, hD.sub (ws' := [(h0, .inr (13, z122)), (qf105, .inl (cf105, 8, .inl f105)), (qf102, .inl (cf102, 2048, .inl f102)), (qf100, .inl (cf100, 48000, .inl f100)), (qf104, .inl (cf104, 8, .inl f104)), (qf106, .inl (cf106, 8, .inl f106)), (qf107, .inl (cf107, 96, .inl f107)), (qf109, .inl (cf109, 96, .inl f109)), (qf118, .inl (cf118, 2100, .inl g118_122)), (qf119, .inl (cf119, 2100, .inl g119_122)), (qf108, .inl (cf108, 8, .inl f108))]) [0, 1, 2, 3, 4, 5, 6, 7, 8, 9, 10] (by decide) rfl, hP.sub (ws' := [(h0, .inr (13, z122)), (qf105, .inl (cf105, 8, .inl f105)), (qf102, .inl (cf102, 2048, .inl f102)), (qf100, .inl (cf100, 48000, .inl f100)), (qf104, .inl (cf104, 8, .inl f104)), (qf106, .inl (cf106, 8, .inl f106)), (qf107, .inl (cf107, 96, .inl f107)), (qf109, .inl (cf109, 96, .inl f109)), (qf118, .inl (cf118, 2100, .inl g118_122)), (qf119, .inl (cf119, 2100, .inl g119_122)), (qf108, .inl (cf108, 8, .inl f108))]) [0, 1, 2, 3, 4, 5, 6, 7, 8, 9, 10] rfl, hfh_122_98, hfh_122_100, hfh_122_102, hfh_122_104, hfh_122_105, hfh_122_106, hfh_122_107, hfh_122_108, hfh_122_109, hfh_122_117, hfh_122_118, hfh_122_119, hfh_122_120, hfh_122_121, hfh_122_122, hfh_122_123, hfh_122_124, hfh_122_125, hlh_122, hrh_122, hsp⟩
                  · rw [if_pos c_38] at hsp
                    refine lv_iconst (v := 1) hx hb dX13_classFits_141 (by decide) ?_
                    refine lv_goto (tgt := 146) hx hb dX13_classFits_142 (by decide) ?_
                    exact hj_146 (H, locs, ls, z122, l1_122, l2_122, l4_122, l5_122, l6_122, l7_122, 1, l6_122, l2_122, l2_122, g118_122, g119_122, x117_122, x120_122, x121_122, x122_122, x123_122, x124_122, x125_122) ⟨lv_sub hl [3, 4, 5, 6, 2, 1, 0] rfl, hS, hD.sub (ws' := [(h0, .inr (13, z122)), (qf105, .inl (cf105, 8, .inl f105)), (qf102, .inl (cf102, 2048, .inl f102)), (qf100, .inl (cf100, 48000, .inl f100)), (qf104, .inl (cf104, 8, .inl f104)), (qf106, .inl (cf106, 8, .inl f106)), (qf107, .inl (cf107, 96, .inl f107)), (qf109, .inl (cf109, 96, .inl f109)), (qf118, .inl (cf118, 2100, .inl g118_122)), (qf119, .inl (cf119, 2100, .inl g119_122)), (qf108, .inl (cf108, 8, .inl f108))]) [0, 1, 2, 3, 4, 5, 6, 7, 8, 9, 10] (by decide) rfl, hP.sub (ws' := [(h0, .inr (13, z122)), (qf105, .inl (cf105, 8, .inl f105)), (qf102, .inl (cf102, 2048, .inl f102)), (qf100, .inl (cf100, 48000, .inl f100)), (qf104, .inl (cf104, 8, .inl f104)), (qf106, .inl (cf106, 8, .inl f106)), (qf107, .inl (cf107, 96, .inl f107)), (qf109, .inl (cf109, 96, .inl f109)), (qf118, .inl (cf118, 2100, .inl g118_122)), (qf119, .inl (cf119, 2100, .inl g119_122)), (qf108, .inl (cf108, 8, .inl f108))]) [0, 1, 2, 3, 4, 5, 6, 7, 8, 9, 10] rfl, hfh_122_98, hfh_122_100, hfh_122_102, hfh_122_104, hfh_122_105, hfh_122_106, hfh_122_107, hfh_122_108, hfh_122_109, hfh_122_117, hfh_122_118, hfh_122_119, hfh_122_120, hfh_122_121, hfh_122_122, hfh_122_123, hfh_122_124, hfh_122_125, hlh_122, hrh_122, hsp⟩
        intro hj_104
        refine lv_iload hx hb dX13_classFits_77 (lv_at hl 0 rfl) ?_
        refine lv_iconst (v := 2) hx hb dX13_classFits_79 (by decide) ?_
        refine lv_icmp_ge (tgt := 201) hx hb dX13_classFits_80 (by decide) (fun c_12 => ?_) (fun c_12 => ?_)
        · rw [if_pos c_12] at hsp
          refine lv_iconst (v := 0) hx hb dX13_classFits_201 (by decide) ?_
          refine lv_istore (lv' := [(4, .int 0), (0, .ref h0), (1, .int l1_77), (2, .int l2_77)]) hx hb dX13_classFits_202 hl (by decide) rfl (fun ls hl => ?_)
          replace hl : lv_has ls 8 [(4, .int 0), (0, .ref h0), (1, .int l1_77), (2, .int l2_77)] := lv_sub hl [0, 1, 2, 3] rfl
          replace hP := hP.sub (ws' := [(h0, .inr (13, z77)), (qf105, .inl (cf105, 8, .inl f105)), (qf102, .inl (cf102, 2048, .inl f102)), (qf100, .inl (cf100, 48000, .inl f100)), (qf104, .inl (cf104, 8, .inl f104)), (qf106, .inl (cf106, 8, .inl f106)), (qf107, .inl (cf107, 96, .inl f107)), (qf109, .inl (cf109, 96, .inl f109)), (qf118, .inl (cf118, 2100, .inl g118_77)), (qf119, .inl (cf119, 2100, .inl g119_77)), (qf108, .inl (cf108, 8, .inl f108))]) [0, 1, 2, 3, 4, 5, 6, 7, 8, 9, 10] rfl
          replace hD := hD.sub (ws' := [(h0, .inr (13, z77)), (qf105, .inl (cf105, 8, .inl f105)), (qf102, .inl (cf102, 2048, .inl f102)), (qf100, .inl (cf100, 48000, .inl f100)), (qf104, .inl (cf104, 8, .inl f104)), (qf106, .inl (cf106, 8, .inl f106)), (qf107, .inl (cf107, 96, .inl f107)), (qf109, .inl (cf109, 96, .inl f109)), (qf118, .inl (cf118, 2100, .inl g118_77)), (qf119, .inl (cf119, 2100, .inl g119_77)), (qf108, .inl (cf108, 8, .inl f108))]) [0, 1, 2, 3, 4, 5, 6, 7, 8, 9, 10] (by decide) rfl
          replace hK := hK.sub (tys' := [(cf105, .int), (cf102, .int), (cf100, .int), (cf104, .int), (cf106, .int), (cf107, .int), (cf109, .int), (cf118, .int), (cf119, .int), (cf108, .int)]) [0, 1, 2, 3, 4, 5, 6, 7, 8, 9] rfl
          obtain ⟨n_204, hn_204⟩ : ∃ z : Nat, z = nf := ⟨_, rfl⟩
          obtain ⟨l1_204, el1_204⟩ : ∃ z : Int32, z = l1_77 := ⟨_, rfl⟩
          obtain ⟨l2_204, el2_204⟩ : ∃ z : Int32, z = l2_77 := ⟨_, rfl⟩
          obtain ⟨l4_204, el4_204⟩ : ∃ z : Int32, z = 0 := ⟨_, rfl⟩
          obtain ⟨g118_204, eg118_204⟩ : ∃ z : Nat → Int32, z = g118_77 := ⟨_, rfl⟩
          obtain ⟨g119_204, eg119_204⟩ : ∃ z : Nat → Int32, z = g119_77 := ⟨_, rfl⟩
          obtain ⟨x117_204, ex117_204⟩ : ∃ z : Int32, z = x117_77 := ⟨_, rfl⟩
          obtain ⟨x120_204, ex120_204⟩ : ∃ z : Int32, z = x120_77 := ⟨_, rfl⟩
          obtain ⟨x121_204, ex121_204⟩ : ∃ z : Int32, z = x121_77 := ⟨_, rfl⟩
          obtain ⟨x122_204, ex122_204⟩ : ∃ z : Int32, z = x122_77 := ⟨_, rfl⟩
          obtain ⟨x123_204, ex123_204⟩ : ∃ z : Int32, z = x123_77 := ⟨_, rfl⟩
          obtain ⟨x124_204, ex124_204⟩ : ∃ z : Int32, z = x124_77 := ⟨_, rfl⟩
          obtain ⟨x125_204, ex125_204⟩ : ∃ z : Int32, z = x125_77 := ⟨_, rfl⟩
          replace hsp : lp_vm_classFits_204 nf n_204 a1 v98 v117 v120 v121 v122 v123 v124 v125 f105 f102 f100 f104 f106 f107 f109 f118 f119 f108 nS477 fS477 l1_204 l2_204 l4_204 g118_204 g119_204 x117_204 x120_204 x121_204 x122_204 x123_204 x124_204 x125_204 = some (r0, o118, o119, w117, w120, w121, w122, w123, w124, w125) := by rw [hn_204, el1_204, el2_204, el4_204, eg118_204, eg119_204, ex117_204, ex120_204, ex121_204, ex122_204, ex123_204, ex124_204, ex125_204]; exact hsp
          replace hl : lv_has ls 8 [(4, .int l4_204), (0, .ref h0), (1, .int l1_204), (2, .int l2_204)] := by rw [el1_204, el2_204, el4_204]; exact hl
          obtain ⟨z204, ez204⟩ : ∃ z : List Value, z = z77 := ⟨_, rfl⟩
          have hfh_204_98 : z204[98]? = some (.int v98) := by rw [ez204]; exact hfh_77_98
          have hfh_204_100 : z204[100]? = some (.ref qf100) := by rw [ez204]; exact hfh_77_100
          have hfh_204_102 : z204[102]? = some (.ref qf102) := by rw [ez204]; exact hfh_77_102
          have hfh_204_104 : z204[104]? = some (.ref qf104) := by rw [ez204]; exact hfh_77_104
          have hfh_204_105 : z204[105]? = some (.ref qf105) := by rw [ez204]; exact hfh_77_105
          have hfh_204_106 : z204[106]? = some (.ref qf106) := by rw [ez204]; exact hfh_77_106
          have hfh_204_107 : z204[107]? = some (.ref qf107) := by rw [ez204]; exact hfh_77_107
          have hfh_204_108 : z204[108]? = some (.ref qf108) := by rw [ez204]; exact hfh_77_108
          have hfh_204_109 : z204[109]? = some (.ref qf109) := by rw [ez204]; exact hfh_77_109
          have hfh_204_117 : z204[117]? = some (.int x117_204) := by rw [ez204, ex117_204]; exact hfh_77_117
          have hfh_204_118 : z204[118]? = some (.ref qf118) := by rw [ez204]; exact hfh_77_118
          have hfh_204_119 : z204[119]? = some (.ref qf119) := by rw [ez204]; exact hfh_77_119
          have hfh_204_120 : z204[120]? = some (.int x120_204) := by rw [ez204, ex120_204]; exact hfh_77_120
          have hfh_204_121 : z204[121]? = some (.int x121_204) := by rw [ez204, ex121_204]; exact hfh_77_121
          have hfh_204_122 : z204[122]? = some (.int x122_204) := by rw [ez204, ex122_204]; exact hfh_77_122
          have hfh_204_123 : z204[123]? = some (.int x123_204) := by rw [ez204, ex123_204]; exact hfh_77_123
          have hfh_204_124 : z204[124]? = some (.int x124_204) := by rw [ez204, ex124_204]; exact hfh_77_124
          have hfh_204_125 : z204[125]? = some (.int x125_204) := by rw [ez204, ex125_204]; exact hfh_77_125
          have hlh_204 : z204.length = 155 := by rw [ez204]; exact hlh_77
          have hrh_204 : ∀ j : Nat, j ≠ 117 → j ≠ 120 → j ≠ 121 → j ≠ 122 → j ≠ 123 → j ≠ 124 → j ≠ 125 → z204[j]? = zs[j]? := by rw [ez204]; exact hrh_77
          replace hP : va_P (dC, dI) vwCl [(h0, .inr (13, z204)), (qf105, .inl (cf105, 8, .inl f105)), (qf102, .inl (cf102, 2048, .inl f102)), (qf100, .inl (cf100, 48000, .inl f100)), (qf104, .inl (cf104, 8, .inl f104)), (qf106, .inl (cf106, 8, .inl f106)), (qf107, .inl (cf107, 96, .inl f107)), (qf109, .inl (cf109, 96, .inl f109)), (qf118, .inl (cf118, 2100, .inl g118_204)), (qf119, .inl (cf119, 2100, .inl g119_204)), (qf108, .inl (cf108, 8, .inl f108))] H := by rw [ez204, eg118_204, eg119_204]; exact hP
          replace hD : va_D A [(h0, .inr (13, z204)), (qf105, .inl (cf105, 8, .inl f105)), (qf102, .inl (cf102, 2048, .inl f102)), (qf100, .inl (cf100, 48000, .inl f100)), (qf104, .inl (cf104, 8, .inl f104)), (qf106, .inl (cf106, 8, .inl f106)), (qf107, .inl (cf107, 96, .inl f107)), (qf109, .inl (cf109, 96, .inl f109)), (qf118, .inl (cf118, 2100, .inl g118_204)), (qf119, .inl (cf119, 2100, .inl g119_204)), (qf108, .inl (cf108, 8, .inl f108))] := by rw [ez204, eg118_204, eg119_204]; exact hD
          clear hn_204 ez204 el1_204 el2_204 el4_204 eg118_204 eg119_204 ex117_204 ex120_204 ex121_204 ex122_204 ex123_204 ex124_204 ex125_204
          try clear hlo
          try clear hH
          revert hsp
          revert hP
          revert hD
          revert hS
          revert hl
          revert hrh_204
          revert hlh_204
          revert hfh_204_125
          revert hfh_204_124
          revert hfh_204_123
          revert hfh_204_122
          revert hfh_204_121
          revert hfh_204_120
          revert hfh_204_119
          revert hfh_204_118
          revert hfh_204_117
          revert hfh_204_109
          revert hfh_204_108
          revert hfh_204_107
          revert hfh_204_106
          revert hfh_204_105
          revert hfh_204_104
          revert hfh_204_102
          revert hfh_204_100
          revert hfh_204_98
          revert x125_204
          revert x124_204
          revert x123_204
          revert x122_204
          revert x121_204
          revert x120_204
          revert x117_204
          revert g119_204
          revert g118_204
          revert l4_204
          revert l2_204
          revert l1_204
          revert z204
          revert ls
          revert locs
          revert H
          induction n_204 with
          | zero => intro H locs ls z204 l1_204 l2_204 l4_204 g118_204 g119_204 x117_204 x120_204 x121_204 x122_204 x123_204 x124_204 x125_204 hfh_204_98 hfh_204_100 hfh_204_102 hfh_204_104 hfh_204_105 hfh_204_106 hfh_204_107 hfh_204_108 hfh_204_109 hfh_204_117 hfh_204_118 hfh_204_119 hfh_204_120 hfh_204_121 hfh_204_122 hfh_204_123 hfh_204_124 hfh_204_125 hlh_204 hrh_204 hl hS hD hP hsp; unfold lp_vm_classFits_204 at hsp; cases hsp
          | succ n_204 ih_204 =>
            intro H locs ls z204 l1_204 l2_204 l4_204 g118_204 g119_204 x117_204 x120_204 x121_204 x122_204 x123_204 x124_204 x125_204 hfh_204_98 hfh_204_100 hfh_204_102 hfh_204_104 hfh_204_105 hfh_204_106 hfh_204_107 hfh_204_108 hfh_204_109 hfh_204_117 hfh_204_118 hfh_204_119 hfh_204_120 hfh_204_121 hfh_204_122 hfh_204_123 hfh_204_124 hfh_204_125 hlh_204 hrh_204 hl hS hD hP hsp
            unfold lp_vm_classFits_204 at hsp
            try dsimp only at hsp
            refine lv_iload hx hb dX13_classFits_204 (lv_at hl 0 rfl) ?_
            refine lv_aload_n hx hb dX13_classFits_206 rfl (lv_at hl 1 rfl) ?_
            refine va_get (D := (dC, dI)) (ci := 13) (v := .ref qf108) (C := RX13) (T := TX13) (N := 155) hx hb hts uV_h9_X13 hown hK hP 0 rfl rfl 108 (by decide) (hts (.fieldLink RX13 233 "ClassMillModel" "methodMany" "[I") mw_h9_281) (fun _ h9 => h9) hfh_204_108 dX13_classFits_207 ?_
            refine lv_iload_n hx hb dX13_classFits_210 rfl (lv_at hl 3 rfl) ?_
            obtain ⟨hi_13, hsp⟩ := ox_in hsp
            refine va_iald hx hb hK hP 10 9 rfl rfl (i := l2_204) hi_13 dX13_classFits_211 ?_
            refine lv_icmp_ge (tgt := 346) hx hb dX13_classFits_212 (by decide) (fun c_14 => ?_) (fun c_14 => ?_)
            · rw [if_pos c_14] at hsp
              refine lv_iconst (v := 1) hx hb dX13_classFits_346 (by decide) ?_
              have hr0 := Option.some.inj hsp
              clear hsp
              obtain ⟨hq0, hr1⟩ := Prod.mk.inj hr0
              clear hr0
              obtain ⟨hq1, hr2⟩ := Prod.mk.inj hr1
              clear hr1
              obtain ⟨hq2, hr3⟩ := Prod.mk.inj hr2
              clear hr2
              obtain ⟨hq3, hr4⟩ := Prod.mk.inj hr3
              clear hr3
              obtain ⟨hq4, hr5⟩ := Prod.mk.inj hr4
              clear hr4
              obtain ⟨hq5, hr6⟩ := Prod.mk.inj hr5
              clear hr5
              obtain ⟨hq6, hr7⟩ := Prod.mk.inj hr6
              clear hr6
              obtain ⟨hq7, hr8⟩ := Prod.mk.inj hr7
              clear hr7
              obtain ⟨hq8, hr9⟩ := Prod.mk.inj hr8
              clear hr8
              subst hq0
              subst hq1
              subst hq2
              subst hq3
              subst hq4
              subst hq5
              subst hq6
              subst hq7
              subst hq8
              subst hr9
              have hP9 := hP.sub (ws' := [(h0, .inr (13, z204)), (qf105, .inl (cf105, 8, .inl f105)), (qf102, .inl (cf102, 2048, .inl f102)), (qf100, .inl (cf100, 48000, .inl f100)), (qf104, .inl (cf104, 8, .inl f104)), (qf106, .inl (cf106, 8, .inl f106)), (qf107, .inl (cf107, 96, .inl f107)), (qf109, .inl (cf109, 96, .inl f109)), (qf118, .inl (cf118, 2100, .inl g118_204)), (qf119, .inl (cf119, 2100, .inl g119_204)), (qf108, .inl (cf108, 8, .inl f108))]) [0, 1, 2, 3, 4, 5, 6, 7, 8, 9, 10] rfl
              have hD9 := hD.sub (ws' := [(h0, .inr (13, z204)), (qf105, .inl (cf105, 8, .inl f105)), (qf102, .inl (cf102, 2048, .inl f102)), (qf100, .inl (cf100, 48000, .inl f100)), (qf104, .inl (cf104, 8, .inl f104)), (qf106, .inl (cf106, 8, .inl f106)), (qf107, .inl (cf107, 96, .inl f107)), (qf109, .inl (cf109, 96, .inl f109)), (qf118, .inl (cf118, 2100, .inl g118_204)), (qf119, .inl (cf119, 2100, .inl g119_204)), (qf108, .inl (cf108, 8, .inl f108))]) [0, 1, 2, 3, 4, 5, 6, 7, 8, 9, 10] (by decide) rfl
              have hK9 := hK.sub (tys' := [(cf105, .int), (cf102, .int), (cf100, .int), (cf104, .int), (cf106, .int), (cf107, .int), (cf109, .int), (cf118, .int), (cf119, .int), (cf108, .int)]) [0, 1, 2, 3, 4, 5, 6, 7, 8, 9] rfl
              exact W.zret hx hb hr (by decide) (fun t ht hW => ⟨⟨(1), (z204), rfl, ⟨⟨rfl, Or.inr rfl⟩, hlh_204, hrh_204, hfh_204_117, hfh_204_120, hfh_204_121, hfh_204_122, hfh_204_123, hfh_204_124, hfh_204_125⟩, by rw [ht]; exact hP9, va_K.moved hW.alike hK9, hD9⟩, hS.F ht⟩) hS.2.2 dX13_classFits_347
            · rw [if_neg c_14] at hsp
              refine lv_aload_n hx hb dX13_classFits_215 rfl (lv_at hl 1 rfl) ?_
              refine lv_aload_n hx hb dX13_classFits_216 rfl (lv_at hl 1 rfl) ?_
              refine lv_iload_n hx hb dX13_classFits_217 rfl (lv_at hl 2 rfl) ?_
              obtain ⟨u6_0, hu_6, hsp⟩ := ox_bind hsp
              try dsimp only at hsp
              have hPc := hP.sub (ws' := [(h0, .inr (13, z204)), (qf105, .inl (cf105, 8, .inl f105)), (qf102, .inl (cf102, 2048, .inl f102)), (qf100, .inl (cf100, 48000, .inl f100)), (qf104, .inl (cf104, 8, .inl f104))]) [0, 1, 2, 3, 4] rfl
              have hDc := hD.sub (ws' := [(h0, .inr (13, z204)), (qf105, .inl (cf105, 8, .inl f105)), (qf102, .inl (cf102, 2048, .inl f102)), (qf100, .inl (cf100, 48000, .inl f100)), (qf104, .inl (cf104, 8, .inl f104))]) [0, 1, 2, 3, 4] (by decide) rfl
              have hKc := hK.sub (tys' := [(cf105, .int), (cf102, .int), (cf100, .int), (cf104, .int)]) [0, 1, 2, 3] rfl
              have hFc := va_free (wc := [(h0, .inr (13, z204)), (qf105, .inl (cf105, 8, .inl f105)), (qf102, .inl (cf102, 2048, .inl f102)), (qf100, .inl (cf100, 48000, .inl f100)), (qf104, .inl (cf104, 8, .inl f104))]) hD hS hA [0, 1, 2, 3, 4] rfl
              refine va_calli (va_runV (As := [.int l1_204]) (rest := [.ref h0]) ⟨hx, hb, hml, hown, hts⟩ (vm_superOf l dC dI H.size h0 z204 l1_204 v98 qf100 qf102 qf104 qf105 cf105 f105 cf102 f102 cf100 f100 cf104 f104 nS477 fS477 hS477 qS477 tS477 nf u6_0 hlh_204 hfh_204_98 hfh_204_100 hfh_204_102 hfh_204_104 hfh_204_105 hu_6) (cwV 1 hts gv_h9_98 rfl rfl rfl (by decide +kernel) ⟨Nat.le_of_ble_eq_true rfl, Nat.le_of_ble_eq_true rfl⟩) ⟨fun a U g mk q => by obtain ⟨q0, q1, qP, qK, qD, qhZWS477, qhZRS477⟩ := q; exact ⟨q0, q1, qP, va_K.moved (u := U) (U := U.calling g mk a) (Vm.Alike.refl U.vm) qK, qD, pz_W.moved (u := U) (U := U.calling g mk a) (Vm.Alike.refl U.vm) qhZWS477, vk_R.same rfl qhZRS477⟩, va_recv hKc hPc (ci := 13) (q0 := 0) rfl rfl, fun U hU hW => ⟨rfl, by rw [hU], by rw [hU]; exact hPc, va_K.moved hW.alike hKc, hDc.weaken (fun _ _ _ _ => trivial), by rw [hU]; exact ((pz_W.moved hW.alike hZWS477).kept hS.2.1).narrow hFc, vk_R.warm hW hZRS477⟩⟩ rfl rfl hl.1 rfl (lv_room (Nat.le_of_ble_eq_true rfl)) dX13_classFits_218 ⟨Nat.le_of_ble_eq_true rfl, Nat.le_of_ble_eq_true rfl⟩) hS (fun q _ h => hFc q h) hFc ?_
              clear hS
              intro r_15 u t H1 locs ht hvm hw hB hz1 hk1 hS
              obtain ⟨z_6, rfl⟩ : ∃ z, z = u := ⟨_, rfl⟩
              obtain ⟨hP1, hK1, hD1⟩ := hB
              rw [ht] at hP1
              have hK1 := va_K.moved hvm.symm hK1
              try dsimp only at hw
              have hPD := va_join (wr := [(qf106, .inl (cf106, 8, .inl f106)), (qf107, .inl (cf107, 96, .inl f107)), (qf109, .inl (cf109, 96, .inl f109)), (qf118, .inl (cf118, 2100, .inl g118_204)), (qf119, .inl (cf119, 2100, .inl g119_204)), (qf108, .inl (cf108, 8, .inl f108))]) (w1 := [(h0, .inr (13, z_6)), (qf105, .inl (cf105, 8, .inl f105)), (qf102, .inl (cf102, 2048, .inl f102)), (qf100, .inl (cf100, 48000, .inl f100)), (qf104, .inl (cf104, 8, .inl f104))]) hP hD [0, 1, 2, 3, 4] [5, 6, 7, 8, 9, 10] rfl rfl (by decide) (by decide) hk1 hFc hP1 hD1
              clear hP hD
              obtain ⟨hP, hD⟩ := hPD
              replace hK := (hK.sub (tys' := [(cf106, .int), (cf107, .int), (cf109, .int), (cf118, .int), (cf119, .int), (cf108, .int)]) [4, 5, 6, 7, 8, 9] rfl).app hK1
              clear hPc hDc hKc hFc hP1 hK1 hD1 hz1 hk1 ht hvm
              generalize H1 = H at hP hS ⊢
              replace hP : va_P (dC, dI) vwCl [(qf106, .inl (cf106, 8, .inl f106)), (qf107, .inl (cf107, 96, .inl f107)), (qf109, .inl (cf109, 96, .inl f109)), (qf118, .inl (cf118, 2100, .inl g118_204)), (qf119, .inl (cf119, 2100, .inl g119_204)), (qf108, .inl (cf108, 8, .inl f108)), (h0, .inr (13, z_6)), (qf105, .inl (cf105, 8, .inl f105)), (qf102, .inl (cf102, 2048, .inl f102)), (qf100, .inl (cf100, 48000, .inl f100)), (qf104, .inl (cf104, 8, .inl f104))] H := hP
              replace hD : va_D A [(qf106, .inl (cf106, 8, .inl f106)), (qf107, .inl (cf107, 96, .inl f107)), (qf109, .inl (cf109, 96, .inl f109)), (qf118, .inl (cf118, 2100, .inl g118_204)), (qf119, .inl (cf119, 2100, .inl g119_204)), (qf108, .inl (cf108, 8, .inl f108)), (h0, .inr (13, z_6)), (qf105, .inl (cf105, 8, .inl f105)), (qf102, .inl (cf102, 2048, .inl f102)), (qf100, .inl (cf100, 48000, .inl f100)), (qf104, .inl (cf104, 8, .inl f104))] := hD
              replace hK : va_K (dC, dI) vwCl [(cf106, .int), (cf107, .int), (cf109, .int), (cf118, .int), (cf119, .int), (cf108, .int), (cf105, .int), (cf102, .int), (cf100, .int), (cf104, .int)] s := hK
              obtain ⟨hwa_6, hln_6, hre_6⟩ := hw
              have hfk_6_98 : z_6[98]? = some (.int v98) := (hre_6 98 ).trans (hfh_204_98)
              have hfk_6_100 : z_6[100]? = some (.ref qf100) := (hre_6 100 ).trans (hfh_204_100)
              have hfk_6_102 : z_6[102]? = some (.ref qf102) := (hre_6 102 ).trans (hfh_204_102)
              have hfk_6_104 : z_6[104]? = some (.ref qf104) := (hre_6 104 ).trans (hfh_204_104)
              have hfk_6_105 : z_6[105]? = some (.ref qf105) := (hre_6 105 ).trans (hfh_204_105)
              have hfk_6_106 : z_6[106]? = some (.ref qf106) := (hre_6 106 ).trans (hfh_204_106)
              have hfk_6_107 : z_6[107]? = some (.ref qf107) := (hre_6 107 ).trans (hfh_204_107)
              have hfk_6_108 : z_6[108]? = some (.ref qf108) := (hre_6 108 ).trans (hfh_204_108)
              have hfk_6_109 : z_6[109]? = some (.ref qf109) := (hre_6 109 ).trans (hfh_204_109)
              have hfk_6_117 : z_6[117]? = some (.int x117_204) := (hre_6 117 ).trans (hfh_204_117)
              have hfk_6_118 : z_6[118]? = some (.ref qf118) := (hre_6 118 ).trans (hfh_204_118)
              have hfk_6_119 : z_6[119]? = some (.ref qf119) := (hre_6 119 ).trans (hfh_204_119)
              have hfk_6_120 : z_6[120]? = some (.int x120_204) := (hre_6 120 ).trans (hfh_204_120)
              have hfk_6_121 : z_6[121]? = some (.int x121_204) := (hre_6 121 ).trans (hfh_204_121)
              have hfk_6_122 : z_6[122]? = some (.int x122_204) := (hre_6 122 ).trans (hfh_204_122)
              have hfk_6_123 : z_6[123]? = some (.int x123_204) := (hre_6 123 ).trans (hfh_204_123)
              have hfk_6_124 : z_6[124]? = some (.int x124_204) := (hre_6 124 ).trans (hfh_204_124)
              have hfk_6_125 : z_6[125]? = some (.int x125_204) := (hre_6 125 ).trans (hfh_204_125)
              have hrq_6 : ∀ j : Nat, j ≠ 117 → j ≠ 120 → j ≠ 121 → j ≠ 122 → j ≠ 123 → j ≠ 124 → j ≠ 125 → z_6[j]? = zs[j]? := fun j g117 g120 g121 g122 g123 g124 g125 => (hre_6 j ).trans (hrh_204 j g117 g120 g121 g122 g123 g124 g125)
              obtain rfl := hwa_6
              refine lv_iload_n hx hb dX13_classFits_221 rfl (lv_at hl 3 rfl) ?_
              refine lv_aload_n hx hb dX13_classFits_222 rfl (lv_at hl 1 rfl) ?_
              refine lv_iload_n hx hb dX13_classFits_223 rfl (lv_at hl 3 rfl) ?_
              refine lv_iload hx hb dX13_classFits_224 (lv_at hl 0 rfl) ?_
              refine lv_iconst (v := 1) hx hb dX13_classFits_226 (by decide) ?_
              obtain ⟨u7_0, hu_7, hsp⟩ := ox_bind hsp
              try dsimp only at hsp
              have hPc := hP.sub (ws' := [(h0, .inr (13, z_6)), (qf107, .inl (cf107, 96, .inl f107)), (qf100, .inl (cf100, 48000, .inl f100)), (qf109, .inl (cf109, 96, .inl f109))]) [6, 1, 9, 2] rfl
              have hDc := hD.sub (ws' := [(h0, .inr (13, z_6)), (qf107, .inl (cf107, 96, .inl f107)), (qf100, .inl (cf100, 48000, .inl f100)), (qf109, .inl (cf109, 96, .inl f109))]) [6, 1, 9, 2] (by decide) rfl
              have hKc := hK.sub (tys' := [(cf107, .int), (cf100, .int), (cf109, .int)]) [1, 8, 2] rfl
              have hFc := va_free (wc := [(h0, .inr (13, z_6)), (qf107, .inl (cf107, 96, .inl f107)), (qf100, .inl (cf100, 48000, .inl f100)), (qf109, .inl (cf109, 96, .inl f109))]) hD hS hA [6, 1, 9, 2] rfl
              refine va_calli (va_runV (As := [.int l2_204, .int l4_204, .int 1]) (rest := [.int l2_204, .int u6_0, .ref h0]) ⟨hx, hb, hml, hown, hts⟩ (tm_nameText l dC dI H.size h0 z_6 l2_204 l4_204 1 qf100 qf107 qf109 cf107 f107 cf100 f100 cf109 f109 nf u7_0 hln_6 hfk_6_100 hfk_6_107 hfk_6_109 hu_7) (cwV 3 hts gv_h9_106 rfl rfl rfl (by decide +kernel) ⟨Nat.le_of_ble_eq_true rfl, Nat.le_of_ble_eq_true rfl⟩) ⟨fun a U g mk q => by obtain ⟨q0, q1, qP, qK, qD⟩ := q; exact ⟨q0, q1, qP, va_K.moved (u := U) (U := U.calling g mk a) (Vm.Alike.refl U.vm) qK, qD⟩, va_recv hKc hPc (ci := 13) (q0 := 0) rfl rfl, fun U hU hW => ⟨rfl, by rw [hU], by rw [hU]; exact hPc, va_K.moved hW.alike hKc, hDc.weaken (fun _ _ _ _ => trivial)⟩⟩ rfl rfl hl.1 rfl (lv_room (Nat.le_of_ble_eq_true rfl)) dX13_classFits_227 ⟨Nat.le_of_ble_eq_true rfl, Nat.le_of_ble_eq_true rfl⟩) hS (fun q _ h => hFc q h) hFc ?_
              clear hS
              intro r_16 u t H1 locs ht hvm hw hB hz1 hk1 hS
              obtain ⟨z_7, rfl⟩ : ∃ z, z = u := ⟨_, rfl⟩
              obtain ⟨hP1, hK1, hD1⟩ := hB
              rw [ht] at hP1
              have hK1 := va_K.moved hvm.symm hK1
              try dsimp only at hw
              have hPD := va_join (wr := [(qf106, .inl (cf106, 8, .inl f106)), (qf118, .inl (cf118, 2100, .inl g118_204)), (qf119, .inl (cf119, 2100, .inl g119_204)), (qf108, .inl (cf108, 8, .inl f108)), (qf105, .inl (cf105, 8, .inl f105)), (qf102, .inl (cf102, 2048, .inl f102)), (qf104, .inl (cf104, 8, .inl f104))]) (w1 := [(h0, .inr (13, z_7)), (qf107, .inl (cf107, 96, .inl f107)), (qf100, .inl (cf100, 48000, .inl f100)), (qf109, .inl (cf109, 96, .inl f109))]) hP hD [6, 1, 9, 2] [0, 3, 4, 5, 7, 8, 10] rfl rfl (by decide) (by decide) hk1 hFc hP1 hD1
              clear hP hD
              obtain ⟨hP, hD⟩ := hPD
              replace hK := (hK.sub (tys' := [(cf106, .int), (cf118, .int), (cf119, .int), (cf108, .int), (cf105, .int), (cf102, .int), (cf104, .int)]) [0, 3, 4, 5, 6, 7, 9] rfl).app hK1
              clear hPc hDc hKc hFc hP1 hK1 hD1 hz1 hk1 ht hvm
              generalize H1 = H at hP hS ⊢
              replace hP : va_P (dC, dI) vwCl [(qf106, .inl (cf106, 8, .inl f106)), (qf118, .inl (cf118, 2100, .inl g118_204)), (qf119, .inl (cf119, 2100, .inl g119_204)), (qf108, .inl (cf108, 8, .inl f108)), (qf105, .inl (cf105, 8, .inl f105)), (qf102, .inl (cf102, 2048, .inl f102)), (qf104, .inl (cf104, 8, .inl f104)), (h0, .inr (13, z_7)), (qf107, .inl (cf107, 96, .inl f107)), (qf100, .inl (cf100, 48000, .inl f100)), (qf109, .inl (cf109, 96, .inl f109))] H := hP
              replace hD : va_D A [(qf106, .inl (cf106, 8, .inl f106)), (qf118, .inl (cf118, 2100, .inl g118_204)), (qf119, .inl (cf119, 2100, .inl g119_204)), (qf108, .inl (cf108, 8, .inl f108)), (qf105, .inl (cf105, 8, .inl f105)), (qf102, .inl (cf102, 2048, .inl f102)), (qf104, .inl (cf104, 8, .inl f104)), (h0, .inr (13, z_7)), (qf107, .inl (cf107, 96, .inl f107)), (qf100, .inl (cf100, 48000, .inl f100)), (qf109, .inl (cf109, 96, .inl f109))] := hD
              replace hK : va_K (dC, dI) vwCl [(cf106, .int), (cf118, .int), (cf119, .int), (cf108, .int), (cf105, .int), (cf102, .int), (cf104, .int), (cf107, .int), (cf100, .int), (cf109, .int)] s := hK
              obtain ⟨hwa_7, hln_7, hre_7⟩ := hw
              have hfk_7_98 : z_7[98]? = some (.int v98) := (hre_7 98 ).trans (hfk_6_98)
              have hfk_7_100 : z_7[100]? = some (.ref qf100) := (hre_7 100 ).trans (hfk_6_100)
              have hfk_7_102 : z_7[102]? = some (.ref qf102) := (hre_7 102 ).trans (hfk_6_102)
              have hfk_7_104 : z_7[104]? = some (.ref qf104) := (hre_7 104 ).trans (hfk_6_104)
              have hfk_7_105 : z_7[105]? = some (.ref qf105) := (hre_7 105 ).trans (hfk_6_105)
              have hfk_7_106 : z_7[106]? = some (.ref qf106) := (hre_7 106 ).trans (hfk_6_106)
              have hfk_7_107 : z_7[107]? = some (.ref qf107) := (hre_7 107 ).trans (hfk_6_107)
              have hfk_7_108 : z_7[108]? = some (.ref qf108) := (hre_7 108 ).trans (hfk_6_108)
              have hfk_7_109 : z_7[109]? = some (.ref qf109) := (hre_7 109 ).trans (hfk_6_109)
              have hfk_7_117 : z_7[117]? = some (.int x117_204) := (hre_7 117 ).trans (hfk_6_117)
              have hfk_7_118 : z_7[118]? = some (.ref qf118) := (hre_7 118 ).trans (hfk_6_118)
              have hfk_7_119 : z_7[119]? = some (.ref qf119) := (hre_7 119 ).trans (hfk_6_119)
              have hfk_7_120 : z_7[120]? = some (.int x120_204) := (hre_7 120 ).trans (hfk_6_120)
              have hfk_7_121 : z_7[121]? = some (.int x121_204) := (hre_7 121 ).trans (hfk_6_121)
              have hfk_7_122 : z_7[122]? = some (.int x122_204) := (hre_7 122 ).trans (hfk_6_122)
              have hfk_7_123 : z_7[123]? = some (.int x123_204) := (hre_7 123 ).trans (hfk_6_123)
              have hfk_7_124 : z_7[124]? = some (.int x124_204) := (hre_7 124 ).trans (hfk_6_124)
              have hfk_7_125 : z_7[125]? = some (.int x125_204) := (hre_7 125 ).trans (hfk_6_125)
              have hrq_7 : ∀ j : Nat, j ≠ 117 → j ≠ 120 → j ≠ 121 → j ≠ 122 → j ≠ 123 → j ≠ 124 → j ≠ 125 → z_7[j]? = zs[j]? := fun j g117 g120 g121 g122 g123 g124 g125 => (hre_7 j ).trans (hrq_6 j g117 g120 g121 g122 g123 g124 g125)
              obtain rfl := hwa_7
              refine lv_iconst (v := 1) hx hb dX13_classFits_230 (by decide) ?_
              obtain ⟨⟨u8_0, u8_1⟩, hu_8, hsp⟩ := ox_bind hsp
              try dsimp only at hsp
              have hPc := hP.sub (ws' := [(h0, .inr (13, z_7)), (qf105, .inl (cf105, 8, .inl f105)), (qf102, .inl (cf102, 2048, .inl f102)), (qf100, .inl (cf100, 48000, .inl f100)), (qf104, .inl (cf104, 8, .inl f104)), (qf106, .inl (cf106, 8, .inl f106)), (qf108, .inl (cf108, 8, .inl f108)), (qf107, .inl (cf107, 96, .inl f107)), (qf109, .inl (cf109, 96, .inl f109))]) [7, 4, 5, 9, 6, 0, 3, 8, 10] rfl
              have hDc := hD.sub (ws' := [(h0, .inr (13, z_7)), (qf105, .inl (cf105, 8, .inl f105)), (qf102, .inl (cf102, 2048, .inl f102)), (qf100, .inl (cf100, 48000, .inl f100)), (qf104, .inl (cf104, 8, .inl f104)), (qf106, .inl (cf106, 8, .inl f106)), (qf108, .inl (cf108, 8, .inl f108)), (qf107, .inl (cf107, 96, .inl f107)), (qf109, .inl (cf109, 96, .inl f109))]) [7, 4, 5, 9, 6, 0, 3, 8, 10] (by decide) rfl
              have hKc := hK.sub (tys' := [(cf105, .int), (cf102, .int), (cf100, .int), (cf104, .int), (cf106, .int), (cf108, .int), (cf107, .int), (cf109, .int)]) [4, 5, 8, 6, 0, 3, 7, 9] rfl
              have hFc := va_free (wc := [(h0, .inr (13, z_7)), (qf105, .inl (cf105, 8, .inl f105)), (qf102, .inl (cf102, 2048, .inl f102)), (qf100, .inl (cf100, 48000, .inl f100)), (qf104, .inl (cf104, 8, .inl f104)), (qf106, .inl (cf106, 8, .inl f106)), (qf108, .inl (cf108, 8, .inl f108)), (qf107, .inl (cf107, 96, .inl f107)), (qf109, .inl (cf109, 96, .inl f109))]) hD hS hA [7, 4, 5, 9, 6, 0, 3, 8, 10] rfl
              refine va_calli (va_runV (As := [.int u6_0, .int l2_204, .int u7_0, .int 1]) (rest := []) ⟨hx, hb, hml, hown, hts⟩ (vm_holder l dC dI H.size h0 z_7 u6_0 l2_204 u7_0 1 v98 qf100 qf102 qf104 qf105 qf106 qf107 qf108 qf109 x121_204 cf105 f105 cf102 f102 cf100 f100 cf104 f104 cf106 f106 cf108 f108 cf107 f107 cf109 f109 nS477 fS477 hS477 qS477 tS477 nf u8_0 u8_1 hln_7 hfk_7_98 hfk_7_100 hfk_7_102 hfk_7_104 hfk_7_105 hfk_7_106 hfk_7_107 hfk_7_108 hfk_7_109 hfk_7_121 hu_8) (cwV 4 hts gv_h9_107 rfl rfl rfl (by decide +kernel) ⟨Nat.le_of_ble_eq_true rfl, Nat.le_of_ble_eq_true rfl⟩) ⟨fun a U g mk q => by obtain ⟨q0, q1, qP, qK, qD, qhZWS477, qhZRS477⟩ := q; exact ⟨q0, q1, qP, va_K.moved (u := U) (U := U.calling g mk a) (Vm.Alike.refl U.vm) qK, qD, pz_W.moved (u := U) (U := U.calling g mk a) (Vm.Alike.refl U.vm) qhZWS477, vk_R.same rfl qhZRS477⟩, va_recv hKc hPc (ci := 13) (q0 := 0) rfl rfl, fun U hU hW => ⟨rfl, by rw [hU], by rw [hU]; exact hPc, va_K.moved hW.alike hKc, hDc.weaken (fun _ _ _ _ => trivial), by rw [hU]; exact ((pz_W.moved hW.alike hZWS477).kept hS.2.1).narrow hFc, vk_R.warm hW hZRS477⟩⟩ rfl rfl hl.1 rfl (lv_room (Nat.le_of_ble_eq_true rfl)) dX13_classFits_231 ⟨Nat.le_of_ble_eq_true rfl, Nat.le_of_ble_eq_true rfl⟩) hS (fun q _ h => hFc q h) hFc ?_
              clear hS
              intro r_17 u t H1 locs ht hvm hw hB hz1 hk1 hS
              obtain ⟨z_8, rfl⟩ : ∃ z, z = u := ⟨_, rfl⟩
              obtain ⟨hP1, hK1, hD1⟩ := hB
              rw [ht] at hP1
              have hK1 := va_K.moved hvm.symm hK1
              try dsimp only at hw
              have hPD := va_join (wr := [(qf118, .inl (cf118, 2100, .inl g118_204)), (qf119, .inl (cf119, 2100, .inl g119_204))]) (w1 := [(h0, .inr (13, z_8)), (qf105, .inl (cf105, 8, .inl f105)), (qf102, .inl (cf102, 2048, .inl f102)), (qf100, .inl (cf100, 48000, .inl f100)), (qf104, .inl (cf104, 8, .inl f104)), (qf106, .inl (cf106, 8, .inl f106)), (qf108, .inl (cf108, 8, .inl f108)), (qf107, .inl (cf107, 96, .inl f107)), (qf109, .inl (cf109, 96, .inl f109))]) hP hD [7, 4, 5, 9, 6, 0, 3, 8, 10] [1, 2] rfl rfl (by decide) (by decide) hk1 hFc hP1 hD1
              clear hP hD
              obtain ⟨hP, hD⟩ := hPD
              replace hK := (hK.sub (tys' := [(cf118, .int), (cf119, .int)]) [1, 2] rfl).app hK1
              clear hPc hDc hKc hFc hP1 hK1 hD1 hz1 hk1 ht hvm
              generalize H1 = H at hP hS ⊢
              replace hP : va_P (dC, dI) vwCl [(qf118, .inl (cf118, 2100, .inl g118_204)), (qf119, .inl (cf119, 2100, .inl g119_204)), (h0, .inr (13, z_8)), (qf105, .inl (cf105, 8, .inl f105)), (qf102, .inl (cf102, 2048, .inl f102)), (qf100, .inl (cf100, 48000, .inl f100)), (qf104, .inl (cf104, 8, .inl f104)), (qf106, .inl (cf106, 8, .inl f106)), (qf108, .inl (cf108, 8, .inl f108)), (qf107, .inl (cf107, 96, .inl f107)), (qf109, .inl (cf109, 96, .inl f109))] H := hP
              replace hD : va_D A [(qf118, .inl (cf118, 2100, .inl g118_204)), (qf119, .inl (cf119, 2100, .inl g119_204)), (h0, .inr (13, z_8)), (qf105, .inl (cf105, 8, .inl f105)), (qf102, .inl (cf102, 2048, .inl f102)), (qf100, .inl (cf100, 48000, .inl f100)), (qf104, .inl (cf104, 8, .inl f104)), (qf106, .inl (cf106, 8, .inl f106)), (qf108, .inl (cf108, 8, .inl f108)), (qf107, .inl (cf107, 96, .inl f107)), (qf109, .inl (cf109, 96, .inl f109))] := hD
              replace hK : va_K (dC, dI) vwCl [(cf118, .int), (cf119, .int), (cf105, .int), (cf102, .int), (cf100, .int), (cf104, .int), (cf106, .int), (cf108, .int), (cf107, .int), (cf109, .int)] s := hK
              obtain ⟨hwa_8, hln_8, hre_8, hch_8_121⟩ := hw
              have hfk_8_98 : z_8[98]? = some (.int v98) := (hre_8 98 (by decide)).trans (hfk_7_98)
              have hfk_8_100 : z_8[100]? = some (.ref qf100) := (hre_8 100 (by decide)).trans (hfk_7_100)
              have hfk_8_102 : z_8[102]? = some (.ref qf102) := (hre_8 102 (by decide)).trans (hfk_7_102)
              have hfk_8_104 : z_8[104]? = some (.ref qf104) := (hre_8 104 (by decide)).trans (hfk_7_104)
              have hfk_8_105 : z_8[105]? = some (.ref qf105) := (hre_8 105 (by decide)).trans (hfk_7_105)
              have hfk_8_106 : z_8[106]? = some (.ref qf106) := (hre_8 106 (by decide)).trans (hfk_7_106)
              have hfk_8_107 : z_8[107]? = some (.ref qf107) := (hre_8 107 (by decide)).trans (hfk_7_107)
              have hfk_8_108 : z_8[108]? = some (.ref qf108) := (hre_8 108 (by decide)).trans (hfk_7_108)
              have hfk_8_109 : z_8[109]? = some (.ref qf109) := (hre_8 109 (by decide)).trans (hfk_7_109)
              have hfk_8_117 : z_8[117]? = some (.int x117_204) := (hre_8 117 (by decide)).trans (hfk_7_117)
              have hfk_8_118 : z_8[118]? = some (.ref qf118) := (hre_8 118 (by decide)).trans (hfk_7_118)
              have hfk_8_119 : z_8[119]? = some (.ref qf119) := (hre_8 119 (by decide)).trans (hfk_7_119)
              have hfk_8_120 : z_8[120]? = some (.int x120_204) := (hre_8 120 (by decide)).trans (hfk_7_120)
              have hfk_8_122 : z_8[122]? = some (.int x122_204) := (hre_8 122 (by decide)).trans (hfk_7_122)
              have hfk_8_123 : z_8[123]? = some (.int x123_204) := (hre_8 123 (by decide)).trans (hfk_7_123)
              have hfk_8_124 : z_8[124]? = some (.int x124_204) := (hre_8 124 (by decide)).trans (hfk_7_124)
              have hfk_8_125 : z_8[125]? = some (.int x125_204) := (hre_8 125 (by decide)).trans (hfk_7_125)
              have hrq_8 : ∀ j : Nat, j ≠ 117 → j ≠ 120 → j ≠ 121 → j ≠ 122 → j ≠ 123 → j ≠ 124 → j ≠ 125 → z_8[j]? = zs[j]? := fun j g117 g120 g121 g122 g123 g124 g125 => (hre_8 j g121).trans (hrq_7 j g117 g120 g121 g122 g123 g124 g125)
              obtain rfl := hwa_8
              refine lv_istore (lv' := [(5, .int u8_0), (4, .int l4_204), (0, .ref h0), (1, .int l1_204), (2, .int l2_204)]) hx hb dX13_classFits_234 hl (by decide) rfl (fun ls hl => ?_)
              refine lv_iload hx hb dX13_classFits_236 (lv_at hl 0 rfl) ?_
              refine lv_iconst (v := (-1)) hx hb dX13_classFits_238 (by decide) ?_
              refine lv_icmp_ne (tgt := 245) hx hb dX13_classFits_239 (by decide) (fun c_18 => ?_) (fun c_18 => ?_)
              · rw [if_neg c_18] at hsp
                refine lv_iload hx hb dX13_classFits_245 (lv_at hl 0 rfl) ?_
                refine lv_bipush (v := 8) hx hb dX13_classFits_247 (by decide) ?_
                refine lv_isub hx hb dX13_classFits_249 ?_
                refine lv_istore (lv' := [(6, .int (u8_0 - 8)), (5, .int u8_0), (4, .int l4_204), (0, .ref h0), (1, .int l1_204), (2, .int l2_204)]) hx hb dX13_classFits_250 hl (by decide) rfl (fun ls hl => ?_)
                refine lv_aload_n hx hb dX13_classFits_252 rfl (lv_at hl 3 rfl) ?_
                refine lv_iload hx hb dX13_classFits_253 (lv_at hl 0 rfl) ?_
                refine lv_aload_n hx hb dX13_classFits_255 rfl (lv_at hl 3 rfl) ?_
                refine lv_iload hx hb dX13_classFits_256 (lv_at hl 0 rfl) ?_
                refine lv_aload_n hx hb dX13_classFits_258 rfl (lv_at hl 3 rfl) ?_
                refine va_get (D := (dC, dI)) (ci := 13) (v := .int u8_1) (C := RX13) (T := TX13) (N := 155) hx hb hts uV_h9_X13 hown hK hP 2 rfl rfl 121 (by decide) (hts (.fieldLink RX13 898 "ClassMillModel" "found" "I") mw_h9_509) (fun _ h9 => h9) hch_8_121 dX13_classFits_259 ?_
                refine lv_iconst (v := 1) hx hb dX13_classFits_262 (by decide) ?_
                obtain ⟨u9_0, hu_9, hsp⟩ := ox_bind hsp
                try dsimp only at hsp
                have hPc := hP.sub (ws' := [(h0, .inr (13, z_8)), (qf107, .inl (cf107, 96, .inl f107)), (qf100, .inl (cf100, 48000, .inl f100)), (qf109, .inl (cf109, 96, .inl f109))]) [2, 9, 5, 10] rfl
                have hDc := hD.sub (ws' := [(h0, .inr (13, z_8)), (qf107, .inl (cf107, 96, .inl f107)), (qf100, .inl (cf100, 48000, .inl f100)), (qf109, .inl (cf109, 96, .inl f109))]) [2, 9, 5, 10] (by decide) rfl
                have hKc := hK.sub (tys' := [(cf107, .int), (cf100, .int), (cf109, .int)]) [8, 4, 9] rfl
                have hFc := va_free (wc := [(h0, .inr (13, z_8)), (qf107, .inl (cf107, 96, .inl f107)), (qf100, .inl (cf100, 48000, .inl f100)), (qf109, .inl (cf109, 96, .inl f109))]) hD hS hA [2, 9, 5, 10] rfl
                refine va_calli (va_runV (As := [.int (u8_0 - 8), .int u8_1, .int 1]) (rest := [.int (u8_0 - 8), .ref h0]) ⟨hx, hb, hml, hown, hts⟩ (tm_kindText l dC dI H.size h0 z_8 ((u8_0 - 8)) u8_1 1 qf100 qf107 qf109 cf107 f107 cf100 f100 cf109 f109 nf u9_0 hln_8 hfk_8_100 hfk_8_107 hfk_8_109 hu_9) (cwV 3 hts gv_h9_57 rfl rfl rfl (by decide +kernel) ⟨Nat.le_of_ble_eq_true rfl, Nat.le_of_ble_eq_true rfl⟩) ⟨fun a U g mk q => by obtain ⟨q0, q1, qP, qK, qD⟩ := q; exact ⟨q0, q1, qP, va_K.moved (u := U) (U := U.calling g mk a) (Vm.Alike.refl U.vm) qK, qD⟩, va_recv hKc hPc (ci := 13) (q0 := 0) rfl rfl, fun U hU hW => ⟨rfl, by rw [hU], by rw [hU]; exact hPc, va_K.moved hW.alike hKc, hDc.weaken (fun _ _ _ _ => trivial)⟩⟩ rfl rfl hl.1 rfl (lv_room (Nat.le_of_ble_eq_true rfl)) dX13_classFits_263 ⟨Nat.le_of_ble_eq_true rfl, Nat.le_of_ble_eq_true rfl⟩) hS (fun q _ h => hFc q h) hFc ?_
                clear hS
                intro r_19 u t H1 locs ht hvm hw hB hz1 hk1 hS
                obtain ⟨z_9, rfl⟩ : ∃ z, z = u := ⟨_, rfl⟩
                obtain ⟨hP1, hK1, hD1⟩ := hB
                rw [ht] at hP1
                have hK1 := va_K.moved hvm.symm hK1
                try dsimp only at hw
                have hPD := va_join (wr := [(qf118, .inl (cf118, 2100, .inl g118_204)), (qf119, .inl (cf119, 2100, .inl g119_204)), (qf105, .inl (cf105, 8, .inl f105)), (qf102, .inl (cf102, 2048, .inl f102)), (qf104, .inl (cf104, 8, .inl f104)), (qf106, .inl (cf106, 8, .inl f106)), (qf108, .inl (cf108, 8, .inl f108))]) (w1 := [(h0, .inr (13, z_9)), (qf107, .inl (cf107, 96, .inl f107)), (qf100, .inl (cf100, 48000, .inl f100)), (qf109, .inl (cf109, 96, .inl f109))]) hP hD [2, 9, 5, 10] [0, 1, 3, 4, 6, 7, 8] rfl rfl (by decide) (by decide) hk1 hFc hP1 hD1
                clear hP hD
                obtain ⟨hP, hD⟩ := hPD
                replace hK := (hK.sub (tys' := [(cf118, .int), (cf119, .int), (cf105, .int), (cf102, .int), (cf104, .int), (cf106, .int), (cf108, .int)]) [0, 1, 2, 3, 5, 6, 7] rfl).app hK1
                clear hPc hDc hKc hFc hP1 hK1 hD1 hz1 hk1 ht hvm
                generalize H1 = H at hP hS ⊢
                replace hP : va_P (dC, dI) vwCl [(qf118, .inl (cf118, 2100, .inl g118_204)), (qf119, .inl (cf119, 2100, .inl g119_204)), (qf105, .inl (cf105, 8, .inl f105)), (qf102, .inl (cf102, 2048, .inl f102)), (qf104, .inl (cf104, 8, .inl f104)), (qf106, .inl (cf106, 8, .inl f106)), (qf108, .inl (cf108, 8, .inl f108)), (h0, .inr (13, z_9)), (qf107, .inl (cf107, 96, .inl f107)), (qf100, .inl (cf100, 48000, .inl f100)), (qf109, .inl (cf109, 96, .inl f109))] H := hP
                replace hD : va_D A [(qf118, .inl (cf118, 2100, .inl g118_204)), (qf119, .inl (cf119, 2100, .inl g119_204)), (qf105, .inl (cf105, 8, .inl f105)), (qf102, .inl (cf102, 2048, .inl f102)), (qf104, .inl (cf104, 8, .inl f104)), (qf106, .inl (cf106, 8, .inl f106)), (qf108, .inl (cf108, 8, .inl f108)), (h0, .inr (13, z_9)), (qf107, .inl (cf107, 96, .inl f107)), (qf100, .inl (cf100, 48000, .inl f100)), (qf109, .inl (cf109, 96, .inl f109))] := hD
                replace hK : va_K (dC, dI) vwCl [(cf118, .int), (cf119, .int), (cf105, .int), (cf102, .int), (cf104, .int), (cf106, .int), (cf108, .int), (cf107, .int), (cf100, .int), (cf109, .int)] s := hK
                obtain ⟨hwa_9, hln_9, hre_9⟩ := hw
                have hfk_9_98 : z_9[98]? = some (.int v98) := (hre_9 98 ).trans (hfk_8_98)
                have hfk_9_100 : z_9[100]? = some (.ref qf100) := (hre_9 100 ).trans (hfk_8_100)
                have hfk_9_102 : z_9[102]? = some (.ref qf102) := (hre_9 102 ).trans (hfk_8_102)
                have hfk_9_104 : z_9[104]? = some (.ref qf104) := (hre_9 104 ).trans (hfk_8_104)
                have hfk_9_105 : z_9[105]? = some (.ref qf105) := (hre_9 105 ).trans (hfk_8_105)
                have hfk_9_106 : z_9[106]? = some (.ref qf106) := (hre_9 106 ).trans (hfk_8_106)
                have hfk_9_107 : z_9[107]? = some (.ref qf107) := (hre_9 107 ).trans (hfk_8_107)
                have hfk_9_108 : z_9[108]? = some (.ref qf108) := (hre_9 108 ).trans (hfk_8_108)
                have hfk_9_109 : z_9[109]? = some (.ref qf109) := (hre_9 109 ).trans (hfk_8_109)
                have hfk_9_117 : z_9[117]? = some (.int x117_204) := (hre_9 117 ).trans (hfk_8_117)
                have hfk_9_118 : z_9[118]? = some (.ref qf118) := (hre_9 118 ).trans (hfk_8_118)
                have hfk_9_119 : z_9[119]? = some (.ref qf119) := (hre_9 119 ).trans (hfk_8_119)
                have hfk_9_120 : z_9[120]? = some (.int x120_204) := (hre_9 120 ).trans (hfk_8_120)
                have hfk_9_121 : z_9[121]? = some (.int u8_1) := (hre_9 121 ).trans (hch_8_121)
                have hfk_9_122 : z_9[122]? = some (.int x122_204) := (hre_9 122 ).trans (hfk_8_122)
                have hfk_9_123 : z_9[123]? = some (.int x123_204) := (hre_9 123 ).trans (hfk_8_123)
                have hfk_9_124 : z_9[124]? = some (.int x124_204) := (hre_9 124 ).trans (hfk_8_124)
                have hfk_9_125 : z_9[125]? = some (.int x125_204) := (hre_9 125 ).trans (hfk_8_125)
                have hrq_9 : ∀ j : Nat, j ≠ 117 → j ≠ 120 → j ≠ 121 → j ≠ 122 → j ≠ 123 → j ≠ 124 → j ≠ 125 → z_9[j]? = zs[j]? := fun j g117 g120 g121 g122 g123 g124 g125 => (hre_9 j ).trans (hrq_8 j g117 g120 g121 g122 g123 g124 g125)
                obtain rfl := hwa_9
                refine lv_iload_n hx hb dX13_classFits_266 rfl (lv_at hl 5 rfl) ?_
                refine lv_aload_n hx hb dX13_classFits_267 rfl (lv_at hl 3 rfl) ?_
                refine lv_iload_n hx hb dX13_classFits_268 rfl (lv_at hl 5 rfl) ?_
                refine lv_iload hx hb dX13_classFits_269 (lv_at hl 2 rfl) ?_
                refine lv_iconst (v := 1) hx hb dX13_classFits_271 (by decide) ?_
                obtain ⟨u10_0, hu_10, hsp⟩ := ox_bind hsp
                try dsimp only at hsp
                have hPc := hP.sub (ws' := [(h0, .inr (13, z_9)), (qf107, .inl (cf107, 96, .inl f107)), (qf100, .inl (cf100, 48000, .inl f100)), (qf109, .inl (cf109, 96, .inl f109))]) [7, 8, 9, 10] rfl
                have hDc := hD.sub (ws' := [(h0, .inr (13, z_9)), (qf107, .inl (cf107, 96, .inl f107)), (qf100, .inl (cf100, 48000, .inl f100)), (qf109, .inl (cf109, 96, .inl f109))]) [7, 8, 9, 10] (by decide) rfl
                have hKc := hK.sub (tys' := [(cf107, .int), (cf100, .int), (cf109, .int)]) [7, 8, 9] rfl
                have hFc := va_free (wc := [(h0, .inr (13, z_9)), (qf107, .inl (cf107, 96, .inl f107)), (qf100, .inl (cf100, 48000, .inl f100)), (qf109, .inl (cf109, 96, .inl f109))]) hD hS hA [7, 8, 9, 10] rfl
                refine va_calli (va_runV (As := [.int l2_204, .int l4_204, .int 1]) (rest := [.int l2_204, .int u9_0, .int (u8_0 - 8), .ref h0]) ⟨hx, hb, hml, hown, hts⟩ (tm_kindText l dC dI H.size h0 z_9 l2_204 l4_204 1 qf100 qf107 qf109 cf107 f107 cf100 f100 cf109 f109 nf u10_0 hln_9 hfk_9_100 hfk_9_107 hfk_9_109 hu_10) (cwV 3 hts gv_h9_57 rfl rfl rfl (by decide +kernel) ⟨Nat.le_of_ble_eq_true rfl, Nat.le_of_ble_eq_true rfl⟩) ⟨fun a U g mk q => by obtain ⟨q0, q1, qP, qK, qD⟩ := q; exact ⟨q0, q1, qP, va_K.moved (u := U) (U := U.calling g mk a) (Vm.Alike.refl U.vm) qK, qD⟩, va_recv hKc hPc (ci := 13) (q0 := 0) rfl rfl, fun U hU hW => ⟨rfl, by rw [hU], by rw [hU]; exact hPc, va_K.moved hW.alike hKc, hDc.weaken (fun _ _ _ _ => trivial)⟩⟩ rfl rfl hl.1 rfl (lv_room (Nat.le_of_ble_eq_true rfl)) dX13_classFits_272 ⟨Nat.le_of_ble_eq_true rfl, Nat.le_of_ble_eq_true rfl⟩) hS (fun q _ h => hFc q h) hFc ?_
                clear hS
                intro r_20 u t H1 locs ht hvm hw hB hz1 hk1 hS
                obtain ⟨z_10, rfl⟩ : ∃ z, z = u := ⟨_, rfl⟩
                obtain ⟨hP1, hK1, hD1⟩ := hB
                rw [ht] at hP1
                have hK1 := va_K.moved hvm.symm hK1
                try dsimp only at hw
                have hPD := va_join (wr := [(qf118, .inl (cf118, 2100, .inl g118_204)), (qf119, .inl (cf119, 2100, .inl g119_204)), (qf105, .inl (cf105, 8, .inl f105)), (qf102, .inl (cf102, 2048, .inl f102)), (qf104, .inl (cf104, 8, .inl f104)), (qf106, .inl (cf106, 8, .inl f106)), (qf108, .inl (cf108, 8, .inl f108))]) (w1 := [(h0, .inr (13, z_10)), (qf107, .inl (cf107, 96, .inl f107)), (qf100, .inl (cf100, 48000, .inl f100)), (qf109, .inl (cf109, 96, .inl f109))]) hP hD [7, 8, 9, 10] [0, 1, 2, 3, 4, 5, 6] rfl rfl (by decide) (by decide) hk1 hFc hP1 hD1
                clear hP hD
                obtain ⟨hP, hD⟩ := hPD
                replace hK := (hK.sub (tys' := [(cf118, .int), (cf119, .int), (cf105, .int), (cf102, .int), (cf104, .int), (cf106, .int), (cf108, .int)]) [0, 1, 2, 3, 4, 5, 6] rfl).app hK1
                clear hPc hDc hKc hFc hP1 hK1 hD1 hz1 hk1 ht hvm
                generalize H1 = H at hP hS ⊢
                replace hP : va_P (dC, dI) vwCl [(qf118, .inl (cf118, 2100, .inl g118_204)), (qf119, .inl (cf119, 2100, .inl g119_204)), (qf105, .inl (cf105, 8, .inl f105)), (qf102, .inl (cf102, 2048, .inl f102)), (qf104, .inl (cf104, 8, .inl f104)), (qf106, .inl (cf106, 8, .inl f106)), (qf108, .inl (cf108, 8, .inl f108)), (h0, .inr (13, z_10)), (qf107, .inl (cf107, 96, .inl f107)), (qf100, .inl (cf100, 48000, .inl f100)), (qf109, .inl (cf109, 96, .inl f109))] H := hP
                replace hD : va_D A [(qf118, .inl (cf118, 2100, .inl g118_204)), (qf119, .inl (cf119, 2100, .inl g119_204)), (qf105, .inl (cf105, 8, .inl f105)), (qf102, .inl (cf102, 2048, .inl f102)), (qf104, .inl (cf104, 8, .inl f104)), (qf106, .inl (cf106, 8, .inl f106)), (qf108, .inl (cf108, 8, .inl f108)), (h0, .inr (13, z_10)), (qf107, .inl (cf107, 96, .inl f107)), (qf100, .inl (cf100, 48000, .inl f100)), (qf109, .inl (cf109, 96, .inl f109))] := hD
                replace hK : va_K (dC, dI) vwCl [(cf118, .int), (cf119, .int), (cf105, .int), (cf102, .int), (cf104, .int), (cf106, .int), (cf108, .int), (cf107, .int), (cf100, .int), (cf109, .int)] s := hK
                obtain ⟨hwa_10, hln_10, hre_10⟩ := hw
                have hfk_10_98 : z_10[98]? = some (.int v98) := (hre_10 98 ).trans (hfk_9_98)
                have hfk_10_100 : z_10[100]? = some (.ref qf100) := (hre_10 100 ).trans (hfk_9_100)
                have hfk_10_102 : z_10[102]? = some (.ref qf102) := (hre_10 102 ).trans (hfk_9_102)
                have hfk_10_104 : z_10[104]? = some (.ref qf104) := (hre_10 104 ).trans (hfk_9_104)
                have hfk_10_105 : z_10[105]? = some (.ref qf105) := (hre_10 105 ).trans (hfk_9_105)
                have hfk_10_106 : z_10[106]? = some (.ref qf106) := (hre_10 106 ).trans (hfk_9_106)
                have hfk_10_107 : z_10[107]? = some (.ref qf107) := (hre_10 107 ).trans (hfk_9_107)
                have hfk_10_108 : z_10[108]? = some (.ref qf108) := (hre_10 108 ).trans (hfk_9_108)
                have hfk_10_109 : z_10[109]? = some (.ref qf109) := (hre_10 109 ).trans (hfk_9_109)
                have hfk_10_117 : z_10[117]? = some (.int x117_204) := (hre_10 117 ).trans (hfk_9_117)
                have hfk_10_118 : z_10[118]? = some (.ref qf118) := (hre_10 118 ).trans (hfk_9_118)
                have hfk_10_119 : z_10[119]? = some (.ref qf119) := (hre_10 119 ).trans (hfk_9_119)
                have hfk_10_120 : z_10[120]? = some (.int x120_204) := (hre_10 120 ).trans (hfk_9_120)
                have hfk_10_121 : z_10[121]? = some (.int u8_1) := (hre_10 121 ).trans (hfk_9_121)
                have hfk_10_122 : z_10[122]? = some (.int x122_204) := (hre_10 122 ).trans (hfk_9_122)
                have hfk_10_123 : z_10[123]? = some (.int x123_204) := (hre_10 123 ).trans (hfk_9_123)
                have hfk_10_124 : z_10[124]? = some (.int x124_204) := (hre_10 124 ).trans (hfk_9_124)
                have hfk_10_125 : z_10[125]? = some (.int x125_204) := (hre_10 125 ).trans (hfk_9_125)
                have hrq_10 : ∀ j : Nat, j ≠ 117 → j ≠ 120 → j ≠ 121 → j ≠ 122 → j ≠ 123 → j ≠ 124 → j ≠ 125 → z_10[j]? = zs[j]? := fun j g117 g120 g121 g122 g123 g124 g125 => (hre_10 j ).trans (hrq_9 j g117 g120 g121 g122 g123 g124 g125)
                obtain rfl := hwa_10
                obtain ⟨u11_0, hu_11, hsp⟩ := ox_bind hsp
                try dsimp only at hsp
                have hPc := hP.sub (ws' := [(h0, .inr (13, z_10)), (qf102, .inl (cf102, 2048, .inl f102)), (qf100, .inl (cf100, 48000, .inl f100))]) [7, 3, 9] rfl
                have hDc := hD.sub (ws' := [(h0, .inr (13, z_10)), (qf102, .inl (cf102, 2048, .inl f102)), (qf100, .inl (cf100, 48000, .inl f100))]) [7, 3, 9] (by decide) rfl
                have hKc := hK.sub (tys' := [(cf102, .int), (cf100, .int)]) [3, 8] rfl
                have hFc := va_free (wc := [(h0, .inr (13, z_10)), (qf102, .inl (cf102, 2048, .inl f102)), (qf100, .inl (cf100, 48000, .inl f100))]) hD hS hA [7, 3, 9] rfl
                refine va_calli (va_runV (As := [.int (u8_0 - 8), .int u9_0, .int l2_204, .int u10_0]) (rest := []) ⟨hx, hb, hml, hown, hts⟩ (vm_sameText l dC dI H.size h0 z_10 ((u8_0 - 8)) u9_0 l2_204 u10_0 qf100 qf102 cf102 f102 cf100 f100 nf u11_0 hln_10 hfk_10_100 hfk_10_102 hu_11) (cwV 4 hts gv_h9_102 rfl rfl rfl (by decide +kernel) ⟨Nat.le_of_ble_eq_true rfl, Nat.le_of_ble_eq_true rfl⟩) ⟨fun a U g mk q => by obtain ⟨q0, q1, qP, qK, qD⟩ := q; exact ⟨q0, q1, qP, va_K.moved (u := U) (U := U.calling g mk a) (Vm.Alike.refl U.vm) qK, qD⟩, va_recv hKc hPc (ci := 13) (q0 := 0) rfl rfl, fun U hU hW => ⟨rfl, by rw [hU], by rw [hU]; exact hPc, va_K.moved hW.alike hKc, hDc.weaken (fun _ _ _ _ => trivial)⟩⟩ rfl rfl hl.1 rfl (lv_room (Nat.le_of_ble_eq_true rfl)) dX13_classFits_275 ⟨Nat.le_of_ble_eq_true rfl, Nat.le_of_ble_eq_true rfl⟩) hS (fun q _ h => hFc q h) hFc ?_
                clear hS
                intro r_21 u t H1 locs ht hvm hw hB hz1 hk1 hS
                obtain ⟨z_11, rfl⟩ : ∃ z, z = u := ⟨_, rfl⟩
                obtain ⟨hP1, hK1, hD1⟩ := hB
                rw [ht] at hP1
                have hK1 := va_K.moved hvm.symm hK1
                try dsimp only at hw
                have hPD := va_join (wr := [(qf118, .inl (cf118, 2100, .inl g118_204)), (qf119, .inl (cf119, 2100, .inl g119_204)), (qf105, .inl (cf105, 8, .inl f105)), (qf104, .inl (cf104, 8, .inl f104)), (qf106, .inl (cf106, 8, .inl f106)), (qf108, .inl (cf108, 8, .inl f108)), (qf107, .inl (cf107, 96, .inl f107)), (qf109, .inl (cf109, 96, .inl f109))]) (w1 := [(h0, .inr (13, z_11)), (qf102, .inl (cf102, 2048, .inl f102)), (qf100, .inl (cf100, 48000, .inl f100))]) hP hD [7, 3, 9] [0, 1, 2, 4, 5, 6, 8, 10] rfl rfl (by decide) (by decide) hk1 hFc hP1 hD1
                clear hP hD
                obtain ⟨hP, hD⟩ := hPD
                replace hK := (hK.sub (tys' := [(cf118, .int), (cf119, .int), (cf105, .int), (cf104, .int), (cf106, .int), (cf108, .int), (cf107, .int), (cf109, .int)]) [0, 1, 2, 4, 5, 6, 7, 9] rfl).app hK1
                clear hPc hDc hKc hFc hP1 hK1 hD1 hz1 hk1 ht hvm
                generalize H1 = H at hP hS ⊢
                replace hP : va_P (dC, dI) vwCl [(qf118, .inl (cf118, 2100, .inl g118_204)), (qf119, .inl (cf119, 2100, .inl g119_204)), (qf105, .inl (cf105, 8, .inl f105)), (qf104, .inl (cf104, 8, .inl f104)), (qf106, .inl (cf106, 8, .inl f106)), (qf108, .inl (cf108, 8, .inl f108)), (qf107, .inl (cf107, 96, .inl f107)), (qf109, .inl (cf109, 96, .inl f109)), (h0, .inr (13, z_11)), (qf102, .inl (cf102, 2048, .inl f102)), (qf100, .inl (cf100, 48000, .inl f100))] H := hP
                replace hD : va_D A [(qf118, .inl (cf118, 2100, .inl g118_204)), (qf119, .inl (cf119, 2100, .inl g119_204)), (qf105, .inl (cf105, 8, .inl f105)), (qf104, .inl (cf104, 8, .inl f104)), (qf106, .inl (cf106, 8, .inl f106)), (qf108, .inl (cf108, 8, .inl f108)), (qf107, .inl (cf107, 96, .inl f107)), (qf109, .inl (cf109, 96, .inl f109)), (h0, .inr (13, z_11)), (qf102, .inl (cf102, 2048, .inl f102)), (qf100, .inl (cf100, 48000, .inl f100))] := hD
                replace hK : va_K (dC, dI) vwCl [(cf118, .int), (cf119, .int), (cf105, .int), (cf104, .int), (cf106, .int), (cf108, .int), (cf107, .int), (cf109, .int), (cf102, .int), (cf100, .int)] s := hK
                obtain ⟨hwa_11, hln_11, hre_11⟩ := hw
                have hfk_11_98 : z_11[98]? = some (.int v98) := (hre_11 98 ).trans (hfk_10_98)
                have hfk_11_100 : z_11[100]? = some (.ref qf100) := (hre_11 100 ).trans (hfk_10_100)
                have hfk_11_102 : z_11[102]? = some (.ref qf102) := (hre_11 102 ).trans (hfk_10_102)
                have hfk_11_104 : z_11[104]? = some (.ref qf104) := (hre_11 104 ).trans (hfk_10_104)
                have hfk_11_105 : z_11[105]? = some (.ref qf105) := (hre_11 105 ).trans (hfk_10_105)
                have hfk_11_106 : z_11[106]? = some (.ref qf106) := (hre_11 106 ).trans (hfk_10_106)
                have hfk_11_107 : z_11[107]? = some (.ref qf107) := (hre_11 107 ).trans (hfk_10_107)
                have hfk_11_108 : z_11[108]? = some (.ref qf108) := (hre_11 108 ).trans (hfk_10_108)
                have hfk_11_109 : z_11[109]? = some (.ref qf109) := (hre_11 109 ).trans (hfk_10_109)
                have hfk_11_117 : z_11[117]? = some (.int x117_204) := (hre_11 117 ).trans (hfk_10_117)
                have hfk_11_118 : z_11[118]? = some (.ref qf118) := (hre_11 118 ).trans (hfk_10_118)
                have hfk_11_119 : z_11[119]? = some (.ref qf119) := (hre_11 119 ).trans (hfk_10_119)
                have hfk_11_120 : z_11[120]? = some (.int x120_204) := (hre_11 120 ).trans (hfk_10_120)
                have hfk_11_121 : z_11[121]? = some (.int u8_1) := (hre_11 121 ).trans (hfk_10_121)
                have hfk_11_122 : z_11[122]? = some (.int x122_204) := (hre_11 122 ).trans (hfk_10_122)
                have hfk_11_123 : z_11[123]? = some (.int x123_204) := (hre_11 123 ).trans (hfk_10_123)
                have hfk_11_124 : z_11[124]? = some (.int x124_204) := (hre_11 124 ).trans (hfk_10_124)
                have hfk_11_125 : z_11[125]? = some (.int x125_204) := (hre_11 125 ).trans (hfk_10_125)
                have hrq_11 : ∀ j : Nat, j ≠ 117 → j ≠ 120 → j ≠ 121 → j ≠ 122 → j ≠ 123 → j ≠ 124 → j ≠ 125 → z_11[j]? = zs[j]? := fun j g117 g120 g121 g122 g123 g124 g125 => (hre_11 j ).trans (hrq_10 j g117 g120 g121 g122 g123 g124 g125)
                obtain ⟨rfl, hz_11⟩ := hwa_11
                rcases hz_11 with rfl | rfl
                · rw [if_pos rfl] at hsp
                  refine lv_istore (lv' := [(7, .int 0), (6, .int (u8_0 - 8)), (5, .int u8_0), (4, .int l4_204), (0, .ref h0), (1, .int l1_204), (2, .int l2_204)]) hx hb dX13_classFits_278 hl (by decide) rfl (fun ls hl => ?_)
                  refine lv_iload hx hb dX13_classFits_280 (lv_at hl 0 rfl) ?_
                  refine lv_if_eq (tgt := 331) hx hb dX13_classFits_282 (by decide) (fun c_22 => ?_) (fun c_22 => (show False by revert c_22; decide).elim)
                  refine lv_aload_n hx hb dX13_classFits_331 rfl (lv_at hl 4 rfl) ?_
                  refine lv_iconst (v := 5) hx hb dX13_classFits_332 (by decide) ?_
                  refine lv_iload_n hx hb dX13_classFits_333 rfl (lv_at hl 5 rfl) ?_
                  refine lv_iconst (v := (-1)) hx hb dX13_classFits_334 (by decide) ?_
                  refine lv_iconst (v := (-1)) hx hb dX13_classFits_335 (by decide) ?_
                  obtain ⟨⟨u12_0, u12_1, u12_2, u12_3, u12_4⟩, hu_12, hsp⟩ := ox_bind hsp
                  try dsimp only at hsp
                  have hPc := hP.sub (ws' := [(h0, .inr (13, z_11))]) [8] rfl
                  have hDc := hD.sub (ws' := [(h0, .inr (13, z_11))]) [8] (by decide) rfl
                  have hKc := hK.sub (tys' := []) [] rfl
                  have hFc := va_free (wc := [(h0, .inr (13, z_11))]) hD hS hA [8] rfl
                  refine va_calli (va_runV (As := [.int 5, .int l1_204, .int (-1), .int (-1)]) (rest := []) ⟨hx, hb, hml, hown, hts⟩ (tm_bad l dC dI H.size h0 z_11 5 l1_204 (-1) (-1) x122_204 x123_204 x124_204 x125_204 nf u12_0 u12_1 u12_2 u12_3 u12_4 hln_11 hfk_11_122 hfk_11_123 hfk_11_124 hfk_11_125 hu_12) (cwV 4 hts gv_h9_63 rfl rfl rfl (by decide +kernel) ⟨Nat.le_of_ble_eq_true rfl, Nat.le_of_ble_eq_true rfl⟩) ⟨fun a U g mk q => by obtain ⟨q0, q1, qP, qK, qD⟩ := q; exact ⟨q0, q1, qP, va_K.moved (u := U) (U := U.calling g mk a) (Vm.Alike.refl U.vm) qK, qD⟩, va_recv hKc hPc (ci := 13) (q0 := 0) rfl rfl, fun U hU hW => ⟨rfl, by rw [hU], by rw [hU]; exact hPc, va_K.moved hW.alike hKc, hDc.weaken (fun _ _ _ _ => trivial)⟩⟩ rfl rfl hl.1 rfl (lv_room (Nat.le_of_ble_eq_true rfl)) dX13_classFits_336 ⟨Nat.le_of_ble_eq_true rfl, Nat.le_of_ble_eq_true rfl⟩) hS (fun q _ h => hFc q h) hFc ?_
                  clear hS
                  intro r_23 u t H1 locs ht hvm hw hB hz1 hk1 hS
                  obtain ⟨z_12, rfl⟩ : ∃ z, z = u := ⟨_, rfl⟩
                  obtain ⟨hP1, hK1, hD1⟩ := hB
                  rw [ht] at hP1
                  have hK1 := va_K.moved hvm.symm hK1
                  try dsimp only at hw
                  have hPD := va_join (wr := [(qf118, .inl (cf118, 2100, .inl g118_204)), (qf119, .inl (cf119, 2100, .inl g119_204)), (qf105, .inl (cf105, 8, .inl f105)), (qf104, .inl (cf104, 8, .inl f104)), (qf106, .inl (cf106, 8, .inl f106)), (qf108, .inl (cf108, 8, .inl f108)), (qf107, .inl (cf107, 96, .inl f107)), (qf109, .inl (cf109, 96, .inl f109)), (qf102, .inl (cf102, 2048, .inl f102)), (qf100, .inl (cf100, 48000, .inl f100))]) (w1 := [(h0, .inr (13, z_12))]) hP hD [8] [0, 1, 2, 3, 4, 5, 6, 7, 9, 10] rfl rfl (by decide) (by decide) hk1 hFc hP1 hD1
                  clear hP hD
                  obtain ⟨hP, hD⟩ := hPD
                  replace hK := (hK.sub (tys' := [(cf118, .int), (cf119, .int), (cf105, .int), (cf104, .int), (cf106, .int), (cf108, .int), (cf107, .int), (cf109, .int), (cf102, .int), (cf100, .int)]) [0, 1, 2, 3, 4, 5, 6, 7, 8, 9] rfl).app hK1
                  clear hPc hDc hKc hFc hP1 hK1 hD1 hz1 hk1 ht hvm
                  generalize H1 = H at hP hS ⊢
                  replace hP : va_P (dC, dI) vwCl [(qf118, .inl (cf118, 2100, .inl g118_204)), (qf119, .inl (cf119, 2100, .inl g119_204)), (qf105, .inl (cf105, 8, .inl f105)), (qf104, .inl (cf104, 8, .inl f104)), (qf106, .inl (cf106, 8, .inl f106)), (qf108, .inl (cf108, 8, .inl f108)), (qf107, .inl (cf107, 96, .inl f107)), (qf109, .inl (cf109, 96, .inl f109)), (qf102, .inl (cf102, 2048, .inl f102)), (qf100, .inl (cf100, 48000, .inl f100)), (h0, .inr (13, z_12))] H := hP
                  replace hD : va_D A [(qf118, .inl (cf118, 2100, .inl g118_204)), (qf119, .inl (cf119, 2100, .inl g119_204)), (qf105, .inl (cf105, 8, .inl f105)), (qf104, .inl (cf104, 8, .inl f104)), (qf106, .inl (cf106, 8, .inl f106)), (qf108, .inl (cf108, 8, .inl f108)), (qf107, .inl (cf107, 96, .inl f107)), (qf109, .inl (cf109, 96, .inl f109)), (qf102, .inl (cf102, 2048, .inl f102)), (qf100, .inl (cf100, 48000, .inl f100)), (h0, .inr (13, z_12))] := hD
                  replace hK : va_K (dC, dI) vwCl [(cf118, .int), (cf119, .int), (cf105, .int), (cf104, .int), (cf106, .int), (cf108, .int), (cf107, .int), (cf109, .int), (cf102, .int), (cf100, .int)] s := hK
                  obtain ⟨hwa_12, hln_12, hre_12, hch_12_122, hch_12_123, hch_12_124, hch_12_125⟩ := hw
                  have hfk_12_98 : z_12[98]? = some (.int v98) := (hre_12 98 (by decide) (by decide) (by decide) (by decide)).trans (hfk_11_98)
                  have hfk_12_100 : z_12[100]? = some (.ref qf100) := (hre_12 100 (by decide) (by decide) (by decide) (by decide)).trans (hfk_11_100)
                  have hfk_12_102 : z_12[102]? = some (.ref qf102) := (hre_12 102 (by decide) (by decide) (by decide) (by decide)).trans (hfk_11_102)
                  have hfk_12_104 : z_12[104]? = some (.ref qf104) := (hre_12 104 (by decide) (by decide) (by decide) (by decide)).trans (hfk_11_104)
                  have hfk_12_105 : z_12[105]? = some (.ref qf105) := (hre_12 105 (by decide) (by decide) (by decide) (by decide)).trans (hfk_11_105)
                  have hfk_12_106 : z_12[106]? = some (.ref qf106) := (hre_12 106 (by decide) (by decide) (by decide) (by decide)).trans (hfk_11_106)
                  have hfk_12_107 : z_12[107]? = some (.ref qf107) := (hre_12 107 (by decide) (by decide) (by decide) (by decide)).trans (hfk_11_107)
                  have hfk_12_108 : z_12[108]? = some (.ref qf108) := (hre_12 108 (by decide) (by decide) (by decide) (by decide)).trans (hfk_11_108)
                  have hfk_12_109 : z_12[109]? = some (.ref qf109) := (hre_12 109 (by decide) (by decide) (by decide) (by decide)).trans (hfk_11_109)
                  have hfk_12_117 : z_12[117]? = some (.int x117_204) := (hre_12 117 (by decide) (by decide) (by decide) (by decide)).trans (hfk_11_117)
                  have hfk_12_118 : z_12[118]? = some (.ref qf118) := (hre_12 118 (by decide) (by decide) (by decide) (by decide)).trans (hfk_11_118)
                  have hfk_12_119 : z_12[119]? = some (.ref qf119) := (hre_12 119 (by decide) (by decide) (by decide) (by decide)).trans (hfk_11_119)
                  have hfk_12_120 : z_12[120]? = some (.int x120_204) := (hre_12 120 (by decide) (by decide) (by decide) (by decide)).trans (hfk_11_120)
                  have hfk_12_121 : z_12[121]? = some (.int u8_1) := (hre_12 121 (by decide) (by decide) (by decide) (by decide)).trans (hfk_11_121)
                  have hrq_12 : ∀ j : Nat, j ≠ 117 → j ≠ 120 → j ≠ 121 → j ≠ 122 → j ≠ 123 → j ≠ 124 → j ≠ 125 → z_12[j]? = zs[j]? := fun j g117 g120 g121 g122 g123 g124 g125 => (hre_12 j g122 g123 g124 g125).trans (hrq_11 j g117 g120 g121 g122 g123 g124 g125)
                  obtain ⟨rfl, hz_12⟩ := hwa_12
                  rcases hz_12 with rfl | rfl
                  · rw [if_pos rfl] at hsp
                    have hr0 := Option.some.inj hsp
                    clear hsp
                    obtain ⟨hq0, hr1⟩ := Prod.mk.inj hr0
                    clear hr0
                    obtain ⟨hq1, hr2⟩ := Prod.mk.inj hr1
                    clear hr1
                    obtain ⟨hq2, hr3⟩ := Prod.mk.inj hr2
                    clear hr2
                    obtain ⟨hq3, hr4⟩ := Prod.mk.inj hr3
                    clear hr3
                    obtain ⟨hq4, hr5⟩ := Prod.mk.inj hr4
                    clear hr4
                    obtain ⟨hq5, hr6⟩ := Prod.mk.inj hr5
                    clear hr5
                    obtain ⟨hq6, hr7⟩ := Prod.mk.inj hr6
                    clear hr6
                    obtain ⟨hq7, hr8⟩ := Prod.mk.inj hr7
                    clear hr7
                    obtain ⟨hq8, hr9⟩ := Prod.mk.inj hr8
                    clear hr8
                    subst hq0
                    subst hq1
                    subst hq2
                    subst hq3
                    subst hq4
                    subst hq5
                    subst hq6
                    subst hq7
                    subst hq8
                    subst hr9
                    have hP9 := hP.sub (ws' := [(h0, .inr (13, z_12)), (qf105, .inl (cf105, 8, .inl f105)), (qf102, .inl (cf102, 2048, .inl f102)), (qf100, .inl (cf100, 48000, .inl f100)), (qf104, .inl (cf104, 8, .inl f104)), (qf106, .inl (cf106, 8, .inl f106)), (qf107, .inl (cf107, 96, .inl f107)), (qf109, .inl (cf109, 96, .inl f109)), (qf118, .inl (cf118, 2100, .inl g118_204)), (qf119, .inl (cf119, 2100, .inl g119_204)), (qf108, .inl (cf108, 8, .inl f108))]) [10, 2, 8, 9, 3, 4, 6, 7, 0, 1, 5] rfl
                    have hD9 := hD.sub (ws' := [(h0, .inr (13, z_12)), (qf105, .inl (cf105, 8, .inl f105)), (qf102, .inl (cf102, 2048, .inl f102)), (qf100, .inl (cf100, 48000, .inl f100)), (qf104, .inl (cf104, 8, .inl f104)), (qf106, .inl (cf106, 8, .inl f106)), (qf107, .inl (cf107, 96, .inl f107)), (qf109, .inl (cf109, 96, .inl f109)), (qf118, .inl (cf118, 2100, .inl g118_204)), (qf119, .inl (cf119, 2100, .inl g119_204)), (qf108, .inl (cf108, 8, .inl f108))]) [10, 2, 8, 9, 3, 4, 6, 7, 0, 1, 5] (by decide) rfl
                    have hK9 := hK.sub (tys' := [(cf105, .int), (cf102, .int), (cf100, .int), (cf104, .int), (cf106, .int), (cf107, .int), (cf109, .int), (cf118, .int), (cf119, .int), (cf108, .int)]) [2, 8, 9, 3, 4, 6, 7, 0, 1, 5] rfl
                    exact W.zret hx hb hr (by decide) (fun t ht hW => ⟨⟨(0), (z_12), rfl, ⟨⟨rfl, Or.inl rfl⟩, hln_12, hrq_12, hfk_12_117, hfk_12_120, hfk_12_121, hch_12_122, hch_12_123, hch_12_124, hch_12_125⟩, by rw [ht]; exact hP9, va_K.moved hW.alike hK9, hD9⟩, hS.F ht⟩) hS.2.2 dX13_classFits_339
                  · rw [if_neg (by decide)] at hsp
                    have hr0 := Option.some.inj hsp
                    clear hsp
                    obtain ⟨hq0, hr1⟩ := Prod.mk.inj hr0
                    clear hr0
                    obtain ⟨hq1, hr2⟩ := Prod.mk.inj hr1
                    clear hr1
                    obtain ⟨hq2, hr3⟩ := Prod.mk.inj hr2
                    clear hr2
                    obtain ⟨hq3, hr4⟩ := Prod.mk.inj hr3
                    clear hr3
                    obtain ⟨hq4, hr5⟩ := Prod.mk.inj hr4
                    clear hr4
                    obtain ⟨hq5, hr6⟩ := Prod.mk.inj hr5
                    clear hr5
                    obtain ⟨hq6, hr7⟩ := Prod.mk.inj hr6
                    clear hr6
                    obtain ⟨hq7, hr8⟩ := Prod.mk.inj hr7
                    clear hr7
                    obtain ⟨hq8, hr9⟩ := Prod.mk.inj hr8
                    clear hr8
                    subst hq0
                    subst hq1
                    subst hq2
                    subst hq3
                    subst hq4
                    subst hq5
                    subst hq6
                    subst hq7
                    subst hq8
                    subst hr9
                    have hP9 := hP.sub (ws' := [(h0, .inr (13, z_12)), (qf105, .inl (cf105, 8, .inl f105)), (qf102, .inl (cf102, 2048, .inl f102)), (qf100, .inl (cf100, 48000, .inl f100)), (qf104, .inl (cf104, 8, .inl f104)), (qf106, .inl (cf106, 8, .inl f106)), (qf107, .inl (cf107, 96, .inl f107)), (qf109, .inl (cf109, 96, .inl f109)), (qf118, .inl (cf118, 2100, .inl g118_204)), (qf119, .inl (cf119, 2100, .inl g119_204)), (qf108, .inl (cf108, 8, .inl f108))]) [10, 2, 8, 9, 3, 4, 6, 7, 0, 1, 5] rfl
                    have hD9 := hD.sub (ws' := [(h0, .inr (13, z_12)), (qf105, .inl (cf105, 8, .inl f105)), (qf102, .inl (cf102, 2048, .inl f102)), (qf100, .inl (cf100, 48000, .inl f100)), (qf104, .inl (cf104, 8, .inl f104)), (qf106, .inl (cf106, 8, .inl f106)), (qf107, .inl (cf107, 96, .inl f107)), (qf109, .inl (cf109, 96, .inl f109)), (qf118, .inl (cf118, 2100, .inl g118_204)), (qf119, .inl (cf119, 2100, .inl g119_204)), (qf108, .inl (cf108, 8, .inl f108))]) [10, 2, 8, 9, 3, 4, 6, 7, 0, 1, 5] (by decide) rfl
                    have hK9 := hK.sub (tys' := [(cf105, .int), (cf102, .int), (cf100, .int), (cf104, .int), (cf106, .int), (cf107, .int), (cf109, .int), (cf118, .int), (cf119, .int), (cf108, .int)]) [2, 8, 9, 3, 4, 6, 7, 0, 1, 5] rfl
                    exact W.zret hx hb hr (by decide) (fun t ht hW => ⟨⟨(1), (z_12), rfl, ⟨⟨rfl, Or.inr rfl⟩, hln_12, hrq_12, hfk_12_117, hfk_12_120, hfk_12_121, hch_12_122, hch_12_123, hch_12_124, hch_12_125⟩, by rw [ht]; exact hP9, va_K.moved hW.alike hK9, hD9⟩, hS.F ht⟩) hS.2.2 dX13_classFits_339
                · rw [if_neg (by decide)] at hsp
                  refine lv_istore (lv' := [(7, .int 1), (6, .int (u8_0 - 8)), (5, .int u8_0), (4, .int l4_204), (0, .ref h0), (1, .int l1_204), (2, .int l2_204)]) hx hb dX13_classFits_278 hl (by decide) rfl (fun ls hl => ?_)
                  refine lv_iload hx hb dX13_classFits_280 (lv_at hl 0 rfl) ?_
                  refine lv_if_eq (tgt := 331) hx hb dX13_classFits_282 (by decide) (fun c_24 => (show False by revert c_24; decide).elim) (fun c_24 => ?_)
                  refine lv_aload_n hx hb dX13_classFits_285 rfl (lv_at hl 4 rfl) ?_
                  refine lv_iload hx hb dX13_classFits_286 (lv_at hl 1 rfl) ?_
                  refine lv_aload_n hx hb dX13_classFits_288 rfl (lv_at hl 4 rfl) ?_
                  refine va_get (D := (dC, dI)) (ci := 13) (v := .ref qf109) (C := RX13) (T := TX13) (N := 155) hx hb hts uV_h9_X13 hown hK hP 8 rfl rfl 109 (by decide) (hts (.fieldLink RX13 236 "ClassMillModel" "methodAt" "[I") mw_h9_282) (fun _ h9 => h9) hfk_11_109 dX13_classFits_289 ?_
                  refine lv_bipush (v := 12) hx hb dX13_classFits_292 (by decide) ?_
                  refine lv_iload hx hb dX13_classFits_294 (lv_at hl 1 rfl) ?_
                  refine lv_imul hx hb dX13_classFits_296 ?_
                  refine lv_aload_n hx hb dX13_classFits_297 rfl (lv_at hl 4 rfl) ?_
                  refine va_get (D := (dC, dI)) (ci := 13) (v := .int u8_1) (C := RX13) (T := TX13) (N := 155) hx hb hts uV_h9_X13 hown hK hP 8 rfl rfl 121 (by decide) (hts (.fieldLink RX13 898 "ClassMillModel" "found" "I") mw_h9_509) (fun _ h9 => h9) hfk_11_121 dX13_classFits_298 ?_
                  refine lv_iadd hx hb dX13_classFits_301 ?_
                  obtain ⟨hi_25, hsp⟩ := ox_in hsp
                  refine va_iald hx hb hK hP 7 7 rfl rfl (i := ((12 * (u8_0 - 8)) + u8_1)) hi_25 dX13_classFits_302 ?_
                  obtain ⟨u13_0, hu_13, hsp⟩ := ox_bind hsp
                  try dsimp only at hsp
                  have hPc := hP.sub (ws' := [(h0, .inr (13, z_11)), (qf100, .inl (cf100, 48000, .inl f100))]) [8, 10] rfl
                  have hDc := hD.sub (ws' := [(h0, .inr (13, z_11)), (qf100, .inl (cf100, 48000, .inl f100))]) [8, 10] (by decide) rfl
                  have hKc := hK.sub (tys' := [(cf100, .int)]) [9] rfl
                  have hFc := va_free (wc := [(h0, .inr (13, z_11)), (qf100, .inl (cf100, 48000, .inl f100))]) hD hS hA [8, 10] rfl
                  refine va_calli (va_runV (As := [.int (u8_0 - 8), .int (f109 (((12 * (u8_0 - 8)) + u8_1) : Int32).toNatClampNeg)]) (rest := []) ⟨hx, hb, hml, hown, hts⟩ (tm_byteAt l dC dI H.size h0 z_11 ((u8_0 - 8)) ((f109 (((12 * (u8_0 - 8)) + u8_1) : Int32).toNatClampNeg)) qf100 cf100 f100 nf u13_0 hln_11 hfk_11_100 hu_13) (cwV 2 hts gv_h9_58 rfl rfl rfl (by decide +kernel) ⟨Nat.le_of_ble_eq_true rfl, Nat.le_of_ble_eq_true rfl⟩) ⟨fun a U g mk q => by obtain ⟨q0, q1, qP, qK, qD⟩ := q; exact ⟨q0, q1, qP, va_K.moved (u := U) (U := U.calling g mk a) (Vm.Alike.refl U.vm) qK, qD⟩, va_recv hKc hPc (ci := 13) (q0 := 0) rfl rfl, fun U hU hW => ⟨rfl, by rw [hU], by rw [hU]; exact hPc, va_K.moved hW.alike hKc, hDc.weaken (fun _ _ _ _ => trivial)⟩⟩ rfl rfl hl.1 rfl (lv_room (Nat.le_of_ble_eq_true rfl)) dX13_classFits_303 ⟨Nat.le_of_ble_eq_true rfl, Nat.le_of_ble_eq_true rfl⟩) hS (fun q _ h => hFc q h) hFc ?_
                  clear hS
                  intro r_26 u t H1 locs ht hvm hw hB hz1 hk1 hS
                  obtain ⟨z_13, rfl⟩ : ∃ z, z = u := ⟨_, rfl⟩
                  obtain ⟨hP1, hK1, hD1⟩ := hB
                  rw [ht] at hP1
                  have hK1 := va_K.moved hvm.symm hK1
                  try dsimp only at hw
                  have hPD := va_join (wr := [(qf118, .inl (cf118, 2100, .inl g118_204)), (qf119, .inl (cf119, 2100, .inl g119_204)), (qf105, .inl (cf105, 8, .inl f105)), (qf104, .inl (cf104, 8, .inl f104)), (qf106, .inl (cf106, 8, .inl f106)), (qf108, .inl (cf108, 8, .inl f108)), (qf107, .inl (cf107, 96, .inl f107)), (qf109, .inl (cf109, 96, .inl f109)), (qf102, .inl (cf102, 2048, .inl f102))]) (w1 := [(h0, .inr (13, z_13)), (qf100, .inl (cf100, 48000, .inl f100))]) hP hD [8, 10] [0, 1, 2, 3, 4, 5, 6, 7, 9] rfl rfl (by decide) (by decide) hk1 hFc hP1 hD1
                  clear hP hD
                  obtain ⟨hP, hD⟩ := hPD
                  replace hK := (hK.sub (tys' := [(cf118, .int), (cf119, .int), (cf105, .int), (cf104, .int), (cf106, .int), (cf108, .int), (cf107, .int), (cf109, .int), (cf102, .int)]) [0, 1, 2, 3, 4, 5, 6, 7, 8] rfl).app hK1
                  clear hPc hDc hKc hFc hP1 hK1 hD1 hz1 hk1 ht hvm
                  generalize H1 = H at hP hS ⊢
                  replace hP : va_P (dC, dI) vwCl [(qf118, .inl (cf118, 2100, .inl g118_204)), (qf119, .inl (cf119, 2100, .inl g119_204)), (qf105, .inl (cf105, 8, .inl f105)), (qf104, .inl (cf104, 8, .inl f104)), (qf106, .inl (cf106, 8, .inl f106)), (qf108, .inl (cf108, 8, .inl f108)), (qf107, .inl (cf107, 96, .inl f107)), (qf109, .inl (cf109, 96, .inl f109)), (qf102, .inl (cf102, 2048, .inl f102)), (h0, .inr (13, z_13)), (qf100, .inl (cf100, 48000, .inl f100))] H := hP
                  replace hD : va_D A [(qf118, .inl (cf118, 2100, .inl g118_204)), (qf119, .inl (cf119, 2100, .inl g119_204)), (qf105, .inl (cf105, 8, .inl f105)), (qf104, .inl (cf104, 8, .inl f104)), (qf106, .inl (cf106, 8, .inl f106)), (qf108, .inl (cf108, 8, .inl f108)), (qf107, .inl (cf107, 96, .inl f107)), (qf109, .inl (cf109, 96, .inl f109)), (qf102, .inl (cf102, 2048, .inl f102)), (h0, .inr (13, z_13)), (qf100, .inl (cf100, 48000, .inl f100))] := hD
                  replace hK : va_K (dC, dI) vwCl [(cf118, .int), (cf119, .int), (cf105, .int), (cf104, .int), (cf106, .int), (cf108, .int), (cf107, .int), (cf109, .int), (cf102, .int), (cf100, .int)] s := hK
                  obtain ⟨hwa_13, hln_13, hre_13⟩ := hw
                  have hfk_13_98 : z_13[98]? = some (.int v98) := (hre_13 98 ).trans (hfk_11_98)
                  have hfk_13_100 : z_13[100]? = some (.ref qf100) := (hre_13 100 ).trans (hfk_11_100)
                  have hfk_13_102 : z_13[102]? = some (.ref qf102) := (hre_13 102 ).trans (hfk_11_102)
                  have hfk_13_104 : z_13[104]? = some (.ref qf104) := (hre_13 104 ).trans (hfk_11_104)
                  have hfk_13_105 : z_13[105]? = some (.ref qf105) := (hre_13 105 ).trans (hfk_11_105)
                  have hfk_13_106 : z_13[106]? = some (.ref qf106) := (hre_13 106 ).trans (hfk_11_106)
                  have hfk_13_107 : z_13[107]? = some (.ref qf107) := (hre_13 107 ).trans (hfk_11_107)
                  have hfk_13_108 : z_13[108]? = some (.ref qf108) := (hre_13 108 ).trans (hfk_11_108)
                  have hfk_13_109 : z_13[109]? = some (.ref qf109) := (hre_13 109 ).trans (hfk_11_109)
                  have hfk_13_117 : z_13[117]? = some (.int x117_204) := (hre_13 117 ).trans (hfk_11_117)
                  have hfk_13_118 : z_13[118]? = some (.ref qf118) := (hre_13 118 ).trans (hfk_11_118)
                  have hfk_13_119 : z_13[119]? = some (.ref qf119) := (hre_13 119 ).trans (hfk_11_119)
                  have hfk_13_120 : z_13[120]? = some (.int x120_204) := (hre_13 120 ).trans (hfk_11_120)
                  have hfk_13_121 : z_13[121]? = some (.int u8_1) := (hre_13 121 ).trans (hfk_11_121)
                  have hfk_13_122 : z_13[122]? = some (.int x122_204) := (hre_13 122 ).trans (hfk_11_122)
                  have hfk_13_123 : z_13[123]? = some (.int x123_204) := (hre_13 123 ).trans (hfk_11_123)
                  have hfk_13_124 : z_13[124]? = some (.int x124_204) := (hre_13 124 ).trans (hfk_11_124)
                  have hfk_13_125 : z_13[125]? = some (.int x125_204) := (hre_13 125 ).trans (hfk_11_125)
                  have hrq_13 : ∀ j : Nat, j ≠ 117 → j ≠ 120 → j ≠ 121 → j ≠ 122 → j ≠ 123 → j ≠ 124 → j ≠ 125 → z_13[j]? = zs[j]? := fun j g117 g120 g121 g122 g123 g124 g125 => (hre_13 j ).trans (hrq_11 j g117 g120 g121 g122 g123 g124 g125)
                  obtain rfl := hwa_13
                  refine lv_iconst (v := 1) hx hb dX13_classFits_306 (by decide) ?_
                  refine lv_icmp_eq (tgt := 331) hx hb dX13_classFits_307 (by decide) (fun c_27 => ?_) (fun c_27 => ?_)
                  · rw [if_pos c_27] at hsp
                    refine lv_aload_n hx hb dX13_classFits_331 rfl (lv_at hl 4 rfl) ?_
                    refine lv_iconst (v := 5) hx hb dX13_classFits_332 (by decide) ?_
                    refine lv_iload_n hx hb dX13_classFits_333 rfl (lv_at hl 5 rfl) ?_
                    refine lv_iconst (v := (-1)) hx hb dX13_classFits_334 (by decide) ?_
                    refine lv_iconst (v := (-1)) hx hb dX13_classFits_335 (by decide) ?_
                    obtain ⟨⟨u14_0, u14_1, u14_2, u14_3, u14_4⟩, hu_14, hsp⟩ := ox_bind hsp
                    try dsimp only at hsp
                    have hPc := hP.sub (ws' := [(h0, .inr (13, z_13))]) [9] rfl
                    have hDc := hD.sub (ws' := [(h0, .inr (13, z_13))]) [9] (by decide) rfl
                    have hKc := hK.sub (tys' := []) [] rfl
                    have hFc := va_free (wc := [(h0, .inr (13, z_13))]) hD hS hA [9] rfl
                    refine va_calli (va_runV (As := [.int 5, .int l1_204, .int (-1), .int (-1)]) (rest := []) ⟨hx, hb, hml, hown, hts⟩ (tm_bad l dC dI H.size h0 z_13 5 l1_204 (-1) (-1) x122_204 x123_204 x124_204 x125_204 nf u14_0 u14_1 u14_2 u14_3 u14_4 hln_13 hfk_13_122 hfk_13_123 hfk_13_124 hfk_13_125 hu_14) (cwV 4 hts gv_h9_63 rfl rfl rfl (by decide +kernel) ⟨Nat.le_of_ble_eq_true rfl, Nat.le_of_ble_eq_true rfl⟩) ⟨fun a U g mk q => by obtain ⟨q0, q1, qP, qK, qD⟩ := q; exact ⟨q0, q1, qP, va_K.moved (u := U) (U := U.calling g mk a) (Vm.Alike.refl U.vm) qK, qD⟩, va_recv hKc hPc (ci := 13) (q0 := 0) rfl rfl, fun U hU hW => ⟨rfl, by rw [hU], by rw [hU]; exact hPc, va_K.moved hW.alike hKc, hDc.weaken (fun _ _ _ _ => trivial)⟩⟩ rfl rfl hl.1 rfl (lv_room (Nat.le_of_ble_eq_true rfl)) dX13_classFits_336 ⟨Nat.le_of_ble_eq_true rfl, Nat.le_of_ble_eq_true rfl⟩) hS (fun q _ h => hFc q h) hFc ?_
                    clear hS
                    intro r_28 u t H1 locs ht hvm hw hB hz1 hk1 hS
                    obtain ⟨z_14, rfl⟩ : ∃ z, z = u := ⟨_, rfl⟩
                    obtain ⟨hP1, hK1, hD1⟩ := hB
                    rw [ht] at hP1
                    have hK1 := va_K.moved hvm.symm hK1
                    try dsimp only at hw
                    have hPD := va_join (wr := [(qf118, .inl (cf118, 2100, .inl g118_204)), (qf119, .inl (cf119, 2100, .inl g119_204)), (qf105, .inl (cf105, 8, .inl f105)), (qf104, .inl (cf104, 8, .inl f104)), (qf106, .inl (cf106, 8, .inl f106)), (qf108, .inl (cf108, 8, .inl f108)), (qf107, .inl (cf107, 96, .inl f107)), (qf109, .inl (cf109, 96, .inl f109)), (qf102, .inl (cf102, 2048, .inl f102)), (qf100, .inl (cf100, 48000, .inl f100))]) (w1 := [(h0, .inr (13, z_14))]) hP hD [9] [0, 1, 2, 3, 4, 5, 6, 7, 8, 10] rfl rfl (by decide) (by decide) hk1 hFc hP1 hD1
                    clear hP hD
                    obtain ⟨hP, hD⟩ := hPD
                    replace hK := (hK.sub (tys' := [(cf118, .int), (cf119, .int), (cf105, .int), (cf104, .int), (cf106, .int), (cf108, .int), (cf107, .int), (cf109, .int), (cf102, .int), (cf100, .int)]) [0, 1, 2, 3, 4, 5, 6, 7, 8, 9] rfl).app hK1
                    clear hPc hDc hKc hFc hP1 hK1 hD1 hz1 hk1 ht hvm
                    generalize H1 = H at hP hS ⊢
                    replace hP : va_P (dC, dI) vwCl [(qf118, .inl (cf118, 2100, .inl g118_204)), (qf119, .inl (cf119, 2100, .inl g119_204)), (qf105, .inl (cf105, 8, .inl f105)), (qf104, .inl (cf104, 8, .inl f104)), (qf106, .inl (cf106, 8, .inl f106)), (qf108, .inl (cf108, 8, .inl f108)), (qf107, .inl (cf107, 96, .inl f107)), (qf109, .inl (cf109, 96, .inl f109)), (qf102, .inl (cf102, 2048, .inl f102)), (qf100, .inl (cf100, 48000, .inl f100)), (h0, .inr (13, z_14))] H := hP
                    replace hD : va_D A [(qf118, .inl (cf118, 2100, .inl g118_204)), (qf119, .inl (cf119, 2100, .inl g119_204)), (qf105, .inl (cf105, 8, .inl f105)), (qf104, .inl (cf104, 8, .inl f104)), (qf106, .inl (cf106, 8, .inl f106)), (qf108, .inl (cf108, 8, .inl f108)), (qf107, .inl (cf107, 96, .inl f107)), (qf109, .inl (cf109, 96, .inl f109)), (qf102, .inl (cf102, 2048, .inl f102)), (qf100, .inl (cf100, 48000, .inl f100)), (h0, .inr (13, z_14))] := hD
                    replace hK : va_K (dC, dI) vwCl [(cf118, .int), (cf119, .int), (cf105, .int), (cf104, .int), (cf106, .int), (cf108, .int), (cf107, .int), (cf109, .int), (cf102, .int), (cf100, .int)] s := hK
                    obtain ⟨hwa_14, hln_14, hre_14, hch_14_122, hch_14_123, hch_14_124, hch_14_125⟩ := hw
                    have hfk_14_98 : z_14[98]? = some (.int v98) := (hre_14 98 (by decide) (by decide) (by decide) (by decide)).trans (hfk_13_98)
                    have hfk_14_100 : z_14[100]? = some (.ref qf100) := (hre_14 100 (by decide) (by decide) (by decide) (by decide)).trans (hfk_13_100)
                    have hfk_14_102 : z_14[102]? = some (.ref qf102) := (hre_14 102 (by decide) (by decide) (by decide) (by decide)).trans (hfk_13_102)
                    have hfk_14_104 : z_14[104]? = some (.ref qf104) := (hre_14 104 (by decide) (by decide) (by decide) (by decide)).trans (hfk_13_104)
                    have hfk_14_105 : z_14[105]? = some (.ref qf105) := (hre_14 105 (by decide) (by decide) (by decide) (by decide)).trans (hfk_13_105)
                    have hfk_14_106 : z_14[106]? = some (.ref qf106) := (hre_14 106 (by decide) (by decide) (by decide) (by decide)).trans (hfk_13_106)
                    have hfk_14_107 : z_14[107]? = some (.ref qf107) := (hre_14 107 (by decide) (by decide) (by decide) (by decide)).trans (hfk_13_107)
                    have hfk_14_108 : z_14[108]? = some (.ref qf108) := (hre_14 108 (by decide) (by decide) (by decide) (by decide)).trans (hfk_13_108)
                    have hfk_14_109 : z_14[109]? = some (.ref qf109) := (hre_14 109 (by decide) (by decide) (by decide) (by decide)).trans (hfk_13_109)
                    have hfk_14_117 : z_14[117]? = some (.int x117_204) := (hre_14 117 (by decide) (by decide) (by decide) (by decide)).trans (hfk_13_117)
                    have hfk_14_118 : z_14[118]? = some (.ref qf118) := (hre_14 118 (by decide) (by decide) (by decide) (by decide)).trans (hfk_13_118)
                    have hfk_14_119 : z_14[119]? = some (.ref qf119) := (hre_14 119 (by decide) (by decide) (by decide) (by decide)).trans (hfk_13_119)
                    have hfk_14_120 : z_14[120]? = some (.int x120_204) := (hre_14 120 (by decide) (by decide) (by decide) (by decide)).trans (hfk_13_120)
                    have hfk_14_121 : z_14[121]? = some (.int u8_1) := (hre_14 121 (by decide) (by decide) (by decide) (by decide)).trans (hfk_13_121)
                    have hrq_14 : ∀ j : Nat, j ≠ 117 → j ≠ 120 → j ≠ 121 → j ≠ 122 → j ≠ 123 → j ≠ 124 → j ≠ 125 → z_14[j]? = zs[j]? := fun j g117 g120 g121 g122 g123 g124 g125 => (hre_14 j g122 g123 g124 g125).trans (hrq_13 j g117 g120 g121 g122 g123 g124 g125)
                    obtain ⟨rfl, hz_14⟩ := hwa_14
                    rcases hz_14 with rfl | rfl
                    · rw [if_pos rfl] at hsp
                      have hr0 := Option.some.inj hsp
                      clear hsp
                      obtain ⟨hq0, hr1⟩ := Prod.mk.inj hr0
                      clear hr0
                      obtain ⟨hq1, hr2⟩ := Prod.mk.inj hr1
                      clear hr1
                      obtain ⟨hq2, hr3⟩ := Prod.mk.inj hr2
                      clear hr2
                      obtain ⟨hq3, hr4⟩ := Prod.mk.inj hr3
                      clear hr3
                      obtain ⟨hq4, hr5⟩ := Prod.mk.inj hr4
                      clear hr4
                      obtain ⟨hq5, hr6⟩ := Prod.mk.inj hr5
                      clear hr5
                      obtain ⟨hq6, hr7⟩ := Prod.mk.inj hr6
                      clear hr6
                      obtain ⟨hq7, hr8⟩ := Prod.mk.inj hr7
                      clear hr7
                      obtain ⟨hq8, hr9⟩ := Prod.mk.inj hr8
                      clear hr8
                      subst hq0
                      subst hq1
                      subst hq2
                      subst hq3
                      subst hq4
                      subst hq5
                      subst hq6
                      subst hq7
                      subst hq8
                      subst hr9
                      have hP9 := hP.sub (ws' := [(h0, .inr (13, z_14)), (qf105, .inl (cf105, 8, .inl f105)), (qf102, .inl (cf102, 2048, .inl f102)), (qf100, .inl (cf100, 48000, .inl f100)), (qf104, .inl (cf104, 8, .inl f104)), (qf106, .inl (cf106, 8, .inl f106)), (qf107, .inl (cf107, 96, .inl f107)), (qf109, .inl (cf109, 96, .inl f109)), (qf118, .inl (cf118, 2100, .inl g118_204)), (qf119, .inl (cf119, 2100, .inl g119_204)), (qf108, .inl (cf108, 8, .inl f108))]) [10, 2, 8, 9, 3, 4, 6, 7, 0, 1, 5] rfl
                      have hD9 := hD.sub (ws' := [(h0, .inr (13, z_14)), (qf105, .inl (cf105, 8, .inl f105)), (qf102, .inl (cf102, 2048, .inl f102)), (qf100, .inl (cf100, 48000, .inl f100)), (qf104, .inl (cf104, 8, .inl f104)), (qf106, .inl (cf106, 8, .inl f106)), (qf107, .inl (cf107, 96, .inl f107)), (qf109, .inl (cf109, 96, .inl f109)), (qf118, .inl (cf118, 2100, .inl g118_204)), (qf119, .inl (cf119, 2100, .inl g119_204)), (qf108, .inl (cf108, 8, .inl f108))]) [10, 2, 8, 9, 3, 4, 6, 7, 0, 1, 5] (by decide) rfl
                      have hK9 := hK.sub (tys' := [(cf105, .int), (cf102, .int), (cf100, .int), (cf104, .int), (cf106, .int), (cf107, .int), (cf109, .int), (cf118, .int), (cf119, .int), (cf108, .int)]) [2, 8, 9, 3, 4, 6, 7, 0, 1, 5] rfl
                      exact W.zret hx hb hr (by decide) (fun t ht hW => ⟨⟨(0), (z_14), rfl, ⟨⟨rfl, Or.inl rfl⟩, hln_14, hrq_14, hfk_14_117, hfk_14_120, hfk_14_121, hch_14_122, hch_14_123, hch_14_124, hch_14_125⟩, by rw [ht]; exact hP9, va_K.moved hW.alike hK9, hD9⟩, hS.F ht⟩) hS.2.2 dX13_classFits_339
                    · rw [if_neg (by decide)] at hsp
                      have hr0 := Option.some.inj hsp
                      clear hsp
                      obtain ⟨hq0, hr1⟩ := Prod.mk.inj hr0
                      clear hr0
                      obtain ⟨hq1, hr2⟩ := Prod.mk.inj hr1
                      clear hr1
                      obtain ⟨hq2, hr3⟩ := Prod.mk.inj hr2
                      clear hr2
                      obtain ⟨hq3, hr4⟩ := Prod.mk.inj hr3
                      clear hr3
                      obtain ⟨hq4, hr5⟩ := Prod.mk.inj hr4
                      clear hr4
                      obtain ⟨hq5, hr6⟩ := Prod.mk.inj hr5
                      clear hr5
                      obtain ⟨hq6, hr7⟩ := Prod.mk.inj hr6
                      clear hr6
                      obtain ⟨hq7, hr8⟩ := Prod.mk.inj hr7
                      clear hr7
                      obtain ⟨hq8, hr9⟩ := Prod.mk.inj hr8
                      clear hr8
                      subst hq0
                      subst hq1
                      subst hq2
                      subst hq3
                      subst hq4
                      subst hq5
                      subst hq6
                      subst hq7
                      subst hq8
                      subst hr9
                      have hP9 := hP.sub (ws' := [(h0, .inr (13, z_14)), (qf105, .inl (cf105, 8, .inl f105)), (qf102, .inl (cf102, 2048, .inl f102)), (qf100, .inl (cf100, 48000, .inl f100)), (qf104, .inl (cf104, 8, .inl f104)), (qf106, .inl (cf106, 8, .inl f106)), (qf107, .inl (cf107, 96, .inl f107)), (qf109, .inl (cf109, 96, .inl f109)), (qf118, .inl (cf118, 2100, .inl g118_204)), (qf119, .inl (cf119, 2100, .inl g119_204)), (qf108, .inl (cf108, 8, .inl f108))]) [10, 2, 8, 9, 3, 4, 6, 7, 0, 1, 5] rfl
                      have hD9 := hD.sub (ws' := [(h0, .inr (13, z_14)), (qf105, .inl (cf105, 8, .inl f105)), (qf102, .inl (cf102, 2048, .inl f102)), (qf100, .inl (cf100, 48000, .inl f100)), (qf104, .inl (cf104, 8, .inl f104)), (qf106, .inl (cf106, 8, .inl f106)), (qf107, .inl (cf107, 96, .inl f107)), (qf109, .inl (cf109, 96, .inl f109)), (qf118, .inl (cf118, 2100, .inl g118_204)), (qf119, .inl (cf119, 2100, .inl g119_204)), (qf108, .inl (cf108, 8, .inl f108))]) [10, 2, 8, 9, 3, 4, 6, 7, 0, 1, 5] (by decide) rfl
                      have hK9 := hK.sub (tys' := [(cf105, .int), (cf102, .int), (cf100, .int), (cf104, .int), (cf106, .int), (cf107, .int), (cf109, .int), (cf118, .int), (cf119, .int), (cf108, .int)]) [2, 8, 9, 3, 4, 6, 7, 0, 1, 5] rfl
                      exact W.zret hx hb hr (by decide) (fun t ht hW => ⟨⟨(1), (z_14), rfl, ⟨⟨rfl, Or.inr rfl⟩, hln_14, hrq_14, hfk_14_117, hfk_14_120, hfk_14_121, hch_14_122, hch_14_123, hch_14_124, hch_14_125⟩, by rw [ht]; exact hP9, va_K.moved hW.alike hK9, hD9⟩, hS.F ht⟩) hS.2.2 dX13_classFits_339
                  · rw [if_neg c_27] at hsp
                    refine lv_aload_n hx hb dX13_classFits_310 rfl (lv_at hl 4 rfl) ?_
                    refine lv_iload_n hx hb dX13_classFits_311 rfl (lv_at hl 6 rfl) ?_
                    refine lv_aload_n hx hb dX13_classFits_312 rfl (lv_at hl 4 rfl) ?_
                    refine va_get (D := (dC, dI)) (ci := 13) (v := .ref qf109) (C := RX13) (T := TX13) (N := 155) hx hb hts uV_h9_X13 hown hK hP 9 rfl rfl 109 (by decide) (hts (.fieldLink RX13 236 "ClassMillModel" "methodAt" "[I") mw_h9_282) (fun _ h9 => h9) hfk_13_109 dX13_classFits_313 ?_
                    refine lv_bipush (v := 12) hx hb dX13_classFits_316 (by decide) ?_
                    refine lv_iload_n hx hb dX13_classFits_318 rfl (lv_at hl 6 rfl) ?_
                    refine lv_imul hx hb dX13_classFits_319 ?_
                    refine lv_iload hx hb dX13_classFits_320 (lv_at hl 3 rfl) ?_
                    refine lv_iadd hx hb dX13_classFits_322 ?_
                    obtain ⟨hi_29, hsp⟩ := ox_in hsp
                    refine va_iald hx hb hK hP 7 7 rfl rfl (i := ((12 * l2_204) + l4_204)) hi_29 dX13_classFits_323 ?_
                    obtain ⟨u15_0, hu_15, hsp⟩ := ox_bind hsp
                    try dsimp only at hsp
                    have hPc := hP.sub (ws' := [(h0, .inr (13, z_13)), (qf100, .inl (cf100, 48000, .inl f100))]) [9, 10] rfl
                    have hDc := hD.sub (ws' := [(h0, .inr (13, z_13)), (qf100, .inl (cf100, 48000, .inl f100))]) [9, 10] (by decide) rfl
                    have hKc := hK.sub (tys' := [(cf100, .int)]) [9] rfl
                    have hFc := va_free (wc := [(h0, .inr (13, z_13)), (qf100, .inl (cf100, 48000, .inl f100))]) hD hS hA [9, 10] rfl
                    refine va_calli (va_runV (As := [.int l2_204, .int (f109 (((12 * l2_204) + l4_204) : Int32).toNatClampNeg)]) (rest := []) ⟨hx, hb, hml, hown, hts⟩ (tm_byteAt l dC dI H.size h0 z_13 l2_204 ((f109 (((12 * l2_204) + l4_204) : Int32).toNatClampNeg)) qf100 cf100 f100 nf u15_0 hln_13 hfk_13_100 hu_15) (cwV 2 hts gv_h9_58 rfl rfl rfl (by decide +kernel) ⟨Nat.le_of_ble_eq_true rfl, Nat.le_of_ble_eq_true rfl⟩) ⟨fun a U g mk q => by obtain ⟨q0, q1, qP, qK, qD⟩ := q; exact ⟨q0, q1, qP, va_K.moved (u := U) (U := U.calling g mk a) (Vm.Alike.refl U.vm) qK, qD⟩, va_recv hKc hPc (ci := 13) (q0 := 0) rfl rfl, fun U hU hW => ⟨rfl, by rw [hU], by rw [hU]; exact hPc, va_K.moved hW.alike hKc, hDc.weaken (fun _ _ _ _ => trivial)⟩⟩ rfl rfl hl.1 rfl (lv_room (Nat.le_of_ble_eq_true rfl)) dX13_classFits_324 ⟨Nat.le_of_ble_eq_true rfl, Nat.le_of_ble_eq_true rfl⟩) hS (fun q _ h => hFc q h) hFc ?_
                    clear hS
                    intro r_30 u t H1 locs ht hvm hw hB hz1 hk1 hS
                    obtain ⟨z_15, rfl⟩ : ∃ z, z = u := ⟨_, rfl⟩
                    obtain ⟨hP1, hK1, hD1⟩ := hB
                    rw [ht] at hP1
                    have hK1 := va_K.moved hvm.symm hK1
                    try dsimp only at hw
                    have hPD := va_join (wr := [(qf118, .inl (cf118, 2100, .inl g118_204)), (qf119, .inl (cf119, 2100, .inl g119_204)), (qf105, .inl (cf105, 8, .inl f105)), (qf104, .inl (cf104, 8, .inl f104)), (qf106, .inl (cf106, 8, .inl f106)), (qf108, .inl (cf108, 8, .inl f108)), (qf107, .inl (cf107, 96, .inl f107)), (qf109, .inl (cf109, 96, .inl f109)), (qf102, .inl (cf102, 2048, .inl f102))]) (w1 := [(h0, .inr (13, z_15)), (qf100, .inl (cf100, 48000, .inl f100))]) hP hD [9, 10] [0, 1, 2, 3, 4, 5, 6, 7, 8] rfl rfl (by decide) (by decide) hk1 hFc hP1 hD1
                    clear hP hD
                    obtain ⟨hP, hD⟩ := hPD
                    replace hK := (hK.sub (tys' := [(cf118, .int), (cf119, .int), (cf105, .int), (cf104, .int), (cf106, .int), (cf108, .int), (cf107, .int), (cf109, .int), (cf102, .int)]) [0, 1, 2, 3, 4, 5, 6, 7, 8] rfl).app hK1
                    clear hPc hDc hKc hFc hP1 hK1 hD1 hz1 hk1 ht hvm
                    generalize H1 = H at hP hS ⊢
                    replace hP : va_P (dC, dI) vwCl [(qf118, .inl (cf118, 2100, .inl g118_204)), (qf119, .inl (cf119, 2100, .inl g119_204)), (qf105, .inl (cf105, 8, .inl f105)), (qf104, .inl (cf104, 8, .inl f104)), (qf106, .inl (cf106, 8, .inl f106)), (qf108, .inl (cf108, 8, .inl f108)), (qf107, .inl (cf107, 96, .inl f107)), (qf109, .inl (cf109, 96, .inl f109)), (qf102, .inl (cf102, 2048, .inl f102)), (h0, .inr (13, z_15)), (qf100, .inl (cf100, 48000, .inl f100))] H := hP
                    replace hD : va_D A [(qf118, .inl (cf118, 2100, .inl g118_204)), (qf119, .inl (cf119, 2100, .inl g119_204)), (qf105, .inl (cf105, 8, .inl f105)), (qf104, .inl (cf104, 8, .inl f104)), (qf106, .inl (cf106, 8, .inl f106)), (qf108, .inl (cf108, 8, .inl f108)), (qf107, .inl (cf107, 96, .inl f107)), (qf109, .inl (cf109, 96, .inl f109)), (qf102, .inl (cf102, 2048, .inl f102)), (h0, .inr (13, z_15)), (qf100, .inl (cf100, 48000, .inl f100))] := hD
                    replace hK : va_K (dC, dI) vwCl [(cf118, .int), (cf119, .int), (cf105, .int), (cf104, .int), (cf106, .int), (cf108, .int), (cf107, .int), (cf109, .int), (cf102, .int), (cf100, .int)] s := hK
                    obtain ⟨hwa_15, hln_15, hre_15⟩ := hw
                    have hfk_15_98 : z_15[98]? = some (.int v98) := (hre_15 98 ).trans (hfk_13_98)
                    have hfk_15_100 : z_15[100]? = some (.ref qf100) := (hre_15 100 ).trans (hfk_13_100)
                    have hfk_15_102 : z_15[102]? = some (.ref qf102) := (hre_15 102 ).trans (hfk_13_102)
                    have hfk_15_104 : z_15[104]? = some (.ref qf104) := (hre_15 104 ).trans (hfk_13_104)
                    have hfk_15_105 : z_15[105]? = some (.ref qf105) := (hre_15 105 ).trans (hfk_13_105)
                    have hfk_15_106 : z_15[106]? = some (.ref qf106) := (hre_15 106 ).trans (hfk_13_106)
                    have hfk_15_107 : z_15[107]? = some (.ref qf107) := (hre_15 107 ).trans (hfk_13_107)
                    have hfk_15_108 : z_15[108]? = some (.ref qf108) := (hre_15 108 ).trans (hfk_13_108)
                    have hfk_15_109 : z_15[109]? = some (.ref qf109) := (hre_15 109 ).trans (hfk_13_109)
                    have hfk_15_117 : z_15[117]? = some (.int x117_204) := (hre_15 117 ).trans (hfk_13_117)
                    have hfk_15_118 : z_15[118]? = some (.ref qf118) := (hre_15 118 ).trans (hfk_13_118)
                    have hfk_15_119 : z_15[119]? = some (.ref qf119) := (hre_15 119 ).trans (hfk_13_119)
                    have hfk_15_120 : z_15[120]? = some (.int x120_204) := (hre_15 120 ).trans (hfk_13_120)
                    have hfk_15_121 : z_15[121]? = some (.int u8_1) := (hre_15 121 ).trans (hfk_13_121)
                    have hfk_15_122 : z_15[122]? = some (.int x122_204) := (hre_15 122 ).trans (hfk_13_122)
                    have hfk_15_123 : z_15[123]? = some (.int x123_204) := (hre_15 123 ).trans (hfk_13_123)
                    have hfk_15_124 : z_15[124]? = some (.int x124_204) := (hre_15 124 ).trans (hfk_13_124)
                    have hfk_15_125 : z_15[125]? = some (.int x125_204) := (hre_15 125 ).trans (hfk_13_125)
                    have hrq_15 : ∀ j : Nat, j ≠ 117 → j ≠ 120 → j ≠ 121 → j ≠ 122 → j ≠ 123 → j ≠ 124 → j ≠ 125 → z_15[j]? = zs[j]? := fun j g117 g120 g121 g122 g123 g124 g125 => (hre_15 j ).trans (hrq_13 j g117 g120 g121 g122 g123 g124 g125)
                    obtain rfl := hwa_15
                    refine lv_iconst (v := 1) hx hb dX13_classFits_327 (by decide) ?_
                    refine lv_icmp_ne (tgt := 340) hx hb dX13_classFits_328 (by decide) (fun c_31 => ?_) (fun c_31 => ?_)
                    · rw [if_neg c_31] at hsp
                      refine lv_iinc (v := (l4_204 + 1)) (lv' := [(4, .int (l4_204 + 1)), (7, .int 1), (6, .int (u8_0 - 8)), (5, .int u8_0), (0, .ref h0), (1, .int l1_204), (2, .int l2_204)]) hx hb dX13_classFits_340 hl (k := 3) rfl rfl (by decide) rfl (fun ls hl => ?_)
                      refine lv_goto (tgt := 204) hx hb dX13_classFits_343 (by decide) ?_
                      exact ih_204 H locs ls z_15 l1_204 l2_204 (l4_204 + 1) g118_204 g119_204 x117_204 x120_204 u8_1 x122_204 x123_204 x124_204 x125_204 (hfk_15_98) (hfk_15_100) (hfk_15_102) (hfk_15_104) (hfk_15_105) (hfk_15_106) (hfk_15_107) (hfk_15_108) (hfk_15_109) (hfk_15_117) (hfk_15_118) (hfk_15_119) (hfk_15_120) (hfk_15_121) (hfk_15_122) (hfk_15_123) (hfk_15_124) (hfk_15_125) hln_15 hrq_15 (lv_sub hl [0, 4, 5, 6] rfl) hS (hD.sub (ws' := [(h0, .inr (13, z_15)), (qf105, .inl (cf105, 8, .inl f105)), (qf102, .inl (cf102, 2048, .inl f102)), (qf100, .inl (cf100, 48000, .inl f100)), (qf104, .inl (cf104, 8, .inl f104)), (qf106, .inl (cf106, 8, .inl f106)), (qf107, .inl (cf107, 96, .inl f107)), (qf109, .inl (cf109, 96, .inl f109)), (qf118, .inl (cf118, 2100, .inl g118_204)), (qf119, .inl (cf119, 2100, .inl g119_204)), (qf108, .inl (cf108, 8, .inl f108))]) [9, 2, 8, 10, 3, 4, 6, 7, 0, 1, 5] (by decide) rfl) (hP.sub (ws' := [(h0, .inr (13, z_15)), (qf105, .inl (cf105, 8, .inl f105)), (qf102, .inl (cf102, 2048, .inl f102)), (qf100, .inl (cf100, 48000, .inl f100)), (qf104, .inl (cf104, 8, .inl f104)), (qf106, .inl (cf106, 8, .inl f106)), (qf107, .inl (cf107, 96, .inl f107)), (qf109, .inl (cf109, 96, .inl f109)), (qf118, .inl (cf118, 2100, .inl g118_204)), (qf119, .inl (cf119, 2100, .inl g119_204)), (qf108, .inl (cf108, 8, .inl f108))]) [9, 2, 8, 10, 3, 4, 6, 7, 0, 1, 5] rfl) hsp
                    · rw [if_pos c_31] at hsp
                      refine lv_aload_n hx hb dX13_classFits_331 rfl (lv_at hl 4 rfl) ?_
                      refine lv_iconst (v := 5) hx hb dX13_classFits_332 (by decide) ?_
                      refine lv_iload_n hx hb dX13_classFits_333 rfl (lv_at hl 5 rfl) ?_
                      refine lv_iconst (v := (-1)) hx hb dX13_classFits_334 (by decide) ?_
                      refine lv_iconst (v := (-1)) hx hb dX13_classFits_335 (by decide) ?_
                      obtain ⟨⟨u16_0, u16_1, u16_2, u16_3, u16_4⟩, hu_16, hsp⟩ := ox_bind hsp
                      try dsimp only at hsp
                      have hPc := hP.sub (ws' := [(h0, .inr (13, z_15))]) [9] rfl
                      have hDc := hD.sub (ws' := [(h0, .inr (13, z_15))]) [9] (by decide) rfl
                      have hKc := hK.sub (tys' := []) [] rfl
                      have hFc := va_free (wc := [(h0, .inr (13, z_15))]) hD hS hA [9] rfl
                      refine va_calli (va_runV (As := [.int 5, .int l1_204, .int (-1), .int (-1)]) (rest := []) ⟨hx, hb, hml, hown, hts⟩ (tm_bad l dC dI H.size h0 z_15 5 l1_204 (-1) (-1) x122_204 x123_204 x124_204 x125_204 nf u16_0 u16_1 u16_2 u16_3 u16_4 hln_15 hfk_15_122 hfk_15_123 hfk_15_124 hfk_15_125 hu_16) (cwV 4 hts gv_h9_63 rfl rfl rfl (by decide +kernel) ⟨Nat.le_of_ble_eq_true rfl, Nat.le_of_ble_eq_true rfl⟩) ⟨fun a U g mk q => by obtain ⟨q0, q1, qP, qK, qD⟩ := q; exact ⟨q0, q1, qP, va_K.moved (u := U) (U := U.calling g mk a) (Vm.Alike.refl U.vm) qK, qD⟩, va_recv hKc hPc (ci := 13) (q0 := 0) rfl rfl, fun U hU hW => ⟨rfl, by rw [hU], by rw [hU]; exact hPc, va_K.moved hW.alike hKc, hDc.weaken (fun _ _ _ _ => trivial)⟩⟩ rfl rfl hl.1 rfl (lv_room (Nat.le_of_ble_eq_true rfl)) dX13_classFits_336 ⟨Nat.le_of_ble_eq_true rfl, Nat.le_of_ble_eq_true rfl⟩) hS (fun q _ h => hFc q h) hFc ?_
                      clear hS
                      intro r_32 u t H1 locs ht hvm hw hB hz1 hk1 hS
                      obtain ⟨z_16, rfl⟩ : ∃ z, z = u := ⟨_, rfl⟩
                      obtain ⟨hP1, hK1, hD1⟩ := hB
                      rw [ht] at hP1
                      have hK1 := va_K.moved hvm.symm hK1
                      try dsimp only at hw
                      have hPD := va_join (wr := [(qf118, .inl (cf118, 2100, .inl g118_204)), (qf119, .inl (cf119, 2100, .inl g119_204)), (qf105, .inl (cf105, 8, .inl f105)), (qf104, .inl (cf104, 8, .inl f104)), (qf106, .inl (cf106, 8, .inl f106)), (qf108, .inl (cf108, 8, .inl f108)), (qf107, .inl (cf107, 96, .inl f107)), (qf109, .inl (cf109, 96, .inl f109)), (qf102, .inl (cf102, 2048, .inl f102)), (qf100, .inl (cf100, 48000, .inl f100))]) (w1 := [(h0, .inr (13, z_16))]) hP hD [9] [0, 1, 2, 3, 4, 5, 6, 7, 8, 10] rfl rfl (by decide) (by decide) hk1 hFc hP1 hD1
                      clear hP hD
                      obtain ⟨hP, hD⟩ := hPD
                      replace hK := (hK.sub (tys' := [(cf118, .int), (cf119, .int), (cf105, .int), (cf104, .int), (cf106, .int), (cf108, .int), (cf107, .int), (cf109, .int), (cf102, .int), (cf100, .int)]) [0, 1, 2, 3, 4, 5, 6, 7, 8, 9] rfl).app hK1
                      clear hPc hDc hKc hFc hP1 hK1 hD1 hz1 hk1 ht hvm
                      generalize H1 = H at hP hS ⊢
                      replace hP : va_P (dC, dI) vwCl [(qf118, .inl (cf118, 2100, .inl g118_204)), (qf119, .inl (cf119, 2100, .inl g119_204)), (qf105, .inl (cf105, 8, .inl f105)), (qf104, .inl (cf104, 8, .inl f104)), (qf106, .inl (cf106, 8, .inl f106)), (qf108, .inl (cf108, 8, .inl f108)), (qf107, .inl (cf107, 96, .inl f107)), (qf109, .inl (cf109, 96, .inl f109)), (qf102, .inl (cf102, 2048, .inl f102)), (qf100, .inl (cf100, 48000, .inl f100)), (h0, .inr (13, z_16))] H := hP
                      replace hD : va_D A [(qf118, .inl (cf118, 2100, .inl g118_204)), (qf119, .inl (cf119, 2100, .inl g119_204)), (qf105, .inl (cf105, 8, .inl f105)), (qf104, .inl (cf104, 8, .inl f104)), (qf106, .inl (cf106, 8, .inl f106)), (qf108, .inl (cf108, 8, .inl f108)), (qf107, .inl (cf107, 96, .inl f107)), (qf109, .inl (cf109, 96, .inl f109)), (qf102, .inl (cf102, 2048, .inl f102)), (qf100, .inl (cf100, 48000, .inl f100)), (h0, .inr (13, z_16))] := hD
                      replace hK : va_K (dC, dI) vwCl [(cf118, .int), (cf119, .int), (cf105, .int), (cf104, .int), (cf106, .int), (cf108, .int), (cf107, .int), (cf109, .int), (cf102, .int), (cf100, .int)] s := hK
                      obtain ⟨hwa_16, hln_16, hre_16, hch_16_122, hch_16_123, hch_16_124, hch_16_125⟩ := hw
                      have hfk_16_98 : z_16[98]? = some (.int v98) := (hre_16 98 (by decide) (by decide) (by decide) (by decide)).trans (hfk_15_98)
                      have hfk_16_100 : z_16[100]? = some (.ref qf100) := (hre_16 100 (by decide) (by decide) (by decide) (by decide)).trans (hfk_15_100)
                      have hfk_16_102 : z_16[102]? = some (.ref qf102) := (hre_16 102 (by decide) (by decide) (by decide) (by decide)).trans (hfk_15_102)
                      have hfk_16_104 : z_16[104]? = some (.ref qf104) := (hre_16 104 (by decide) (by decide) (by decide) (by decide)).trans (hfk_15_104)
                      have hfk_16_105 : z_16[105]? = some (.ref qf105) := (hre_16 105 (by decide) (by decide) (by decide) (by decide)).trans (hfk_15_105)
                      have hfk_16_106 : z_16[106]? = some (.ref qf106) := (hre_16 106 (by decide) (by decide) (by decide) (by decide)).trans (hfk_15_106)
                      have hfk_16_107 : z_16[107]? = some (.ref qf107) := (hre_16 107 (by decide) (by decide) (by decide) (by decide)).trans (hfk_15_107)
                      have hfk_16_108 : z_16[108]? = some (.ref qf108) := (hre_16 108 (by decide) (by decide) (by decide) (by decide)).trans (hfk_15_108)
                      have hfk_16_109 : z_16[109]? = some (.ref qf109) := (hre_16 109 (by decide) (by decide) (by decide) (by decide)).trans (hfk_15_109)
                      have hfk_16_117 : z_16[117]? = some (.int x117_204) := (hre_16 117 (by decide) (by decide) (by decide) (by decide)).trans (hfk_15_117)
                      have hfk_16_118 : z_16[118]? = some (.ref qf118) := (hre_16 118 (by decide) (by decide) (by decide) (by decide)).trans (hfk_15_118)
                      have hfk_16_119 : z_16[119]? = some (.ref qf119) := (hre_16 119 (by decide) (by decide) (by decide) (by decide)).trans (hfk_15_119)
                      have hfk_16_120 : z_16[120]? = some (.int x120_204) := (hre_16 120 (by decide) (by decide) (by decide) (by decide)).trans (hfk_15_120)
                      have hfk_16_121 : z_16[121]? = some (.int u8_1) := (hre_16 121 (by decide) (by decide) (by decide) (by decide)).trans (hfk_15_121)
                      have hrq_16 : ∀ j : Nat, j ≠ 117 → j ≠ 120 → j ≠ 121 → j ≠ 122 → j ≠ 123 → j ≠ 124 → j ≠ 125 → z_16[j]? = zs[j]? := fun j g117 g120 g121 g122 g123 g124 g125 => (hre_16 j g122 g123 g124 g125).trans (hrq_15 j g117 g120 g121 g122 g123 g124 g125)
                      obtain ⟨rfl, hz_16⟩ := hwa_16
                      rcases hz_16 with rfl | rfl
                      · rw [if_pos rfl] at hsp
                        have hr0 := Option.some.inj hsp
                        clear hsp
                        obtain ⟨hq0, hr1⟩ := Prod.mk.inj hr0
                        clear hr0
                        obtain ⟨hq1, hr2⟩ := Prod.mk.inj hr1
                        clear hr1
                        obtain ⟨hq2, hr3⟩ := Prod.mk.inj hr2
                        clear hr2
                        obtain ⟨hq3, hr4⟩ := Prod.mk.inj hr3
                        clear hr3
                        obtain ⟨hq4, hr5⟩ := Prod.mk.inj hr4
                        clear hr4
                        obtain ⟨hq5, hr6⟩ := Prod.mk.inj hr5
                        clear hr5
                        obtain ⟨hq6, hr7⟩ := Prod.mk.inj hr6
                        clear hr6
                        obtain ⟨hq7, hr8⟩ := Prod.mk.inj hr7
                        clear hr7
                        obtain ⟨hq8, hr9⟩ := Prod.mk.inj hr8
                        clear hr8
                        subst hq0
                        subst hq1
                        subst hq2
                        subst hq3
                        subst hq4
                        subst hq5
                        subst hq6
                        subst hq7
                        subst hq8
                        subst hr9
                        have hP9 := hP.sub (ws' := [(h0, .inr (13, z_16)), (qf105, .inl (cf105, 8, .inl f105)), (qf102, .inl (cf102, 2048, .inl f102)), (qf100, .inl (cf100, 48000, .inl f100)), (qf104, .inl (cf104, 8, .inl f104)), (qf106, .inl (cf106, 8, .inl f106)), (qf107, .inl (cf107, 96, .inl f107)), (qf109, .inl (cf109, 96, .inl f109)), (qf118, .inl (cf118, 2100, .inl g118_204)), (qf119, .inl (cf119, 2100, .inl g119_204)), (qf108, .inl (cf108, 8, .inl f108))]) [10, 2, 8, 9, 3, 4, 6, 7, 0, 1, 5] rfl
                        have hD9 := hD.sub (ws' := [(h0, .inr (13, z_16)), (qf105, .inl (cf105, 8, .inl f105)), (qf102, .inl (cf102, 2048, .inl f102)), (qf100, .inl (cf100, 48000, .inl f100)), (qf104, .inl (cf104, 8, .inl f104)), (qf106, .inl (cf106, 8, .inl f106)), (qf107, .inl (cf107, 96, .inl f107)), (qf109, .inl (cf109, 96, .inl f109)), (qf118, .inl (cf118, 2100, .inl g118_204)), (qf119, .inl (cf119, 2100, .inl g119_204)), (qf108, .inl (cf108, 8, .inl f108))]) [10, 2, 8, 9, 3, 4, 6, 7, 0, 1, 5] (by decide) rfl
                        have hK9 := hK.sub (tys' := [(cf105, .int), (cf102, .int), (cf100, .int), (cf104, .int), (cf106, .int), (cf107, .int), (cf109, .int), (cf118, .int), (cf119, .int), (cf108, .int)]) [2, 8, 9, 3, 4, 6, 7, 0, 1, 5] rfl
                        exact W.zret hx hb hr (by decide) (fun t ht hW => ⟨⟨(0), (z_16), rfl, ⟨⟨rfl, Or.inl rfl⟩, hln_16, hrq_16, hfk_16_117, hfk_16_120, hfk_16_121, hch_16_122, hch_16_123, hch_16_124, hch_16_125⟩, by rw [ht]; exact hP9, va_K.moved hW.alike hK9, hD9⟩, hS.F ht⟩) hS.2.2 dX13_classFits_339
                      · rw [if_neg (by decide)] at hsp
                        have hr0 := Option.some.inj hsp
                        clear hsp
                        obtain ⟨hq0, hr1⟩ := Prod.mk.inj hr0
                        clear hr0
                        obtain ⟨hq1, hr2⟩ := Prod.mk.inj hr1
                        clear hr1
                        obtain ⟨hq2, hr3⟩ := Prod.mk.inj hr2
                        clear hr2
                        obtain ⟨hq3, hr4⟩ := Prod.mk.inj hr3
                        clear hr3
                        obtain ⟨hq4, hr5⟩ := Prod.mk.inj hr4
                        clear hr4
                        obtain ⟨hq5, hr6⟩ := Prod.mk.inj hr5
                        clear hr5
                        obtain ⟨hq6, hr7⟩ := Prod.mk.inj hr6
                        clear hr6
                        obtain ⟨hq7, hr8⟩ := Prod.mk.inj hr7
                        clear hr7
                        obtain ⟨hq8, hr9⟩ := Prod.mk.inj hr8
                        clear hr8
                        subst hq0
                        subst hq1
                        subst hq2
                        subst hq3
                        subst hq4
                        subst hq5
                        subst hq6
                        subst hq7
                        subst hq8
                        subst hr9
                        have hP9 := hP.sub (ws' := [(h0, .inr (13, z_16)), (qf105, .inl (cf105, 8, .inl f105)), (qf102, .inl (cf102, 2048, .inl f102)), (qf100, .inl (cf100, 48000, .inl f100)), (qf104, .inl (cf104, 8, .inl f104)), (qf106, .inl (cf106, 8, .inl f106)), (qf107, .inl (cf107, 96, .inl f107)), (qf109, .inl (cf109, 96, .inl f109)), (qf118, .inl (cf118, 2100, .inl g118_204)), (qf119, .inl (cf119, 2100, .inl g119_204)), (qf108, .inl (cf108, 8, .inl f108))]) [10, 2, 8, 9, 3, 4, 6, 7, 0, 1, 5] rfl
                        have hD9 := hD.sub (ws' := [(h0, .inr (13, z_16)), (qf105, .inl (cf105, 8, .inl f105)), (qf102, .inl (cf102, 2048, .inl f102)), (qf100, .inl (cf100, 48000, .inl f100)), (qf104, .inl (cf104, 8, .inl f104)), (qf106, .inl (cf106, 8, .inl f106)), (qf107, .inl (cf107, 96, .inl f107)), (qf109, .inl (cf109, 96, .inl f109)), (qf118, .inl (cf118, 2100, .inl g118_204)), (qf119, .inl (cf119, 2100, .inl g119_204)), (qf108, .inl (cf108, 8, .inl f108))]) [10, 2, 8, 9, 3, 4, 6, 7, 0, 1, 5] (by decide) rfl
                        have hK9 := hK.sub (tys' := [(cf105, .int), (cf102, .int), (cf100, .int), (cf104, .int), (cf106, .int), (cf107, .int), (cf109, .int), (cf118, .int), (cf119, .int), (cf108, .int)]) [2, 8, 9, 3, 4, 6, 7, 0, 1, 5] rfl
                        exact W.zret hx hb hr (by decide) (fun t ht hW => ⟨⟨(1), (z_16), rfl, ⟨⟨rfl, Or.inr rfl⟩, hln_16, hrq_16, hfk_16_117, hfk_16_120, hfk_16_121, hch_16_122, hch_16_123, hch_16_124, hch_16_125⟩, by rw [ht]; exact hP9, va_K.moved hW.alike hK9, hD9⟩, hS.F ht⟩) hS.2.2 dX13_classFits_339
              · rw [if_pos c_18] at hsp
                refine lv_goto (tgt := 340) hx hb dX13_classFits_242 (by decide) ?_
                refine lv_iinc (v := (l4_204 + 1)) (lv' := [(4, .int (l4_204 + 1)), (5, .int u8_0), (0, .ref h0), (1, .int l1_204), (2, .int l2_204)]) hx hb dX13_classFits_340 hl (k := 1) rfl rfl (by decide) rfl (fun ls hl => ?_)
                refine lv_goto (tgt := 204) hx hb dX13_classFits_343 (by decide) ?_
                exact ih_204 H locs ls z_8 l1_204 l2_204 (l4_204 + 1) g118_204 g119_204 x117_204 x120_204 u8_1 x122_204 x123_204 x124_204 x125_204 (hfk_8_98) (hfk_8_100) (hfk_8_102) (hfk_8_104) (hfk_8_105) (hfk_8_106) (hfk_8_107) (hfk_8_108) (hfk_8_109) (hfk_8_117) (hfk_8_118) (hfk_8_119) (hfk_8_120) (hch_8_121) (hfk_8_122) (hfk_8_123) (hfk_8_124) (hfk_8_125) hln_8 hrq_8 (lv_sub hl [0, 2, 3, 4] rfl) hS (hD.sub (ws' := [(h0, .inr (13, z_8)), (qf105, .inl (cf105, 8, .inl f105)), (qf102, .inl (cf102, 2048, .inl f102)), (qf100, .inl (cf100, 48000, .inl f100)), (qf104, .inl (cf104, 8, .inl f104)), (qf106, .inl (cf106, 8, .inl f106)), (qf107, .inl (cf107, 96, .inl f107)), (qf109, .inl (cf109, 96, .inl f109)), (qf118, .inl (cf118, 2100, .inl g118_204)), (qf119, .inl (cf119, 2100, .inl g119_204)), (qf108, .inl (cf108, 8, .inl f108))]) [2, 3, 4, 5, 6, 7, 9, 10, 0, 1, 8] (by decide) rfl) (hP.sub (ws' := [(h0, .inr (13, z_8)), (qf105, .inl (cf105, 8, .inl f105)), (qf102, .inl (cf102, 2048, .inl f102)), (qf100, .inl (cf100, 48000, .inl f100)), (qf104, .inl (cf104, 8, .inl f104)), (qf106, .inl (cf106, 8, .inl f106)), (qf107, .inl (cf107, 96, .inl f107)), (qf109, .inl (cf109, 96, .inl f109)), (qf118, .inl (cf118, 2100, .inl g118_204)), (qf119, .inl (cf119, 2100, .inl g119_204)), (qf108, .inl (cf108, 8, .inl f108))]) [2, 3, 4, 5, 6, 7, 9, 10, 0, 1, 8] rfl) hsp
        · rw [if_neg c_12] at hsp
          refine lv_iload hx hb dX13_classFits_83 (lv_at hl 0 rfl) ?_
          refine lv_iconst (v := 1) hx hb dX13_classFits_85 (by decide) ?_
          refine lv_icmp_ne (tgt := 98) hx hb dX13_classFits_86 (by decide) (fun c_33 => ?_) (fun c_33 => ?_)
          · rw [if_neg c_33] at hsp
            refine lv_aload_n hx hb dX13_classFits_98 rfl (lv_at hl 1 rfl) ?_
            refine va_get (D := (dC, dI)) (ci := 13) (v := .ref qf106) (C := RX13) (T := TX13) (N := 155) hx hb hts uV_h9_X13 hown hK hP 0 rfl rfl 106 (by decide) (hts (.fieldLink RX13 227 "ClassMillModel" "fieldMany" "[I") mw_h9_256) (fun _ h9 => h9) hfh_77_106 dX13_classFits_99 ?_
            refine lv_iload_n hx hb dX13_classFits_102 rfl (lv_at hl 3 rfl) ?_
            obtain ⟨hi_34, hsp⟩ := ox_in hsp
            refine va_iald hx hb hK hP 5 4 rfl rfl (i := l2_77) hi_34 dX13_classFits_103 ?_
            exact hj_104 (H, locs, ls, z77, l1_77, l2_77, l4_77, (f106 (l2_77 : Int32).toNatClampNeg), g118_77, g119_77, x117_77, x120_77, x121_77, x122_77, x123_77, x124_77, x125_77) ⟨lv_sub hl [1, 2, 3, 0] rfl, hS, hD.sub (ws' := [(h0, .inr (13, z77)), (qf105, .inl (cf105, 8, .inl f105)), (qf102, .inl (cf102, 2048, .inl f102)), (qf100, .inl (cf100, 48000, .inl f100)), (qf104, .inl (cf104, 8, .inl f104)), (qf106, .inl (cf106, 8, .inl f106)), (qf107, .inl (cf107, 96, .inl f107)), (qf109, .inl (cf109, 96, .inl f109)), (qf118, .inl (cf118, 2100, .inl g118_77)), (qf119, .inl (cf119, 2100, .inl g119_77)), (qf108, .inl (cf108, 8, .inl f108))]) [0, 1, 2, 3, 4, 5, 6, 7, 8, 9, 10] (by decide) rfl, hP.sub (ws' := [(h0, .inr (13, z77)), (qf105, .inl (cf105, 8, .inl f105)), (qf102, .inl (cf102, 2048, .inl f102)), (qf100, .inl (cf100, 48000, .inl f100)), (qf104, .inl (cf104, 8, .inl f104)), (qf106, .inl (cf106, 8, .inl f106)), (qf107, .inl (cf107, 96, .inl f107)), (qf109, .inl (cf109, 96, .inl f109)), (qf118, .inl (cf118, 2100, .inl g118_77)), (qf119, .inl (cf119, 2100, .inl g119_77)), (qf108, .inl (cf108, 8, .inl f108))]) [0, 1, 2, 3, 4, 5, 6, 7, 8, 9, 10] rfl, hfh_77_98, hfh_77_100, hfh_77_102, hfh_77_104, hfh_77_105, hfh_77_106, hfh_77_107, hfh_77_108, hfh_77_109, hfh_77_117, hfh_77_118, hfh_77_119, hfh_77_120, hfh_77_121, hfh_77_122, hfh_77_123, hfh_77_124, hfh_77_125, hlh_77, hrh_77, hsp⟩
          · rw [if_pos c_33] at hsp
            refine lv_aload_n hx hb dX13_classFits_89 rfl (lv_at hl 1 rfl) ?_
            refine va_get (D := (dC, dI)) (ci := 13) (v := .ref qf108) (C := RX13) (T := TX13) (N := 155) hx hb hts uV_h9_X13 hown hK hP 0 rfl rfl 108 (by decide) (hts (.fieldLink RX13 233 "ClassMillModel" "methodMany" "[I") mw_h9_281) (fun _ h9 => h9) hfh_77_108 dX13_classFits_90 ?_
            refine lv_iload_n hx hb dX13_classFits_93 rfl (lv_at hl 3 rfl) ?_
            obtain ⟨hi_35, hsp⟩ := ox_in hsp
            refine va_iald hx hb hK hP 10 9 rfl rfl (i := l2_77) hi_35 dX13_classFits_94 ?_
            refine lv_goto (tgt := 104) hx hb dX13_classFits_95 (by decide) ?_
            exact hj_104 (H, locs, ls, z77, l1_77, l2_77, l4_77, (f108 (l2_77 : Int32).toNatClampNeg), g118_77, g119_77, x117_77, x120_77, x121_77, x122_77, x123_77, x124_77, x125_77) ⟨lv_sub hl [1, 2, 3, 0] rfl, hS, hD.sub (ws' := [(h0, .inr (13, z77)), (qf105, .inl (cf105, 8, .inl f105)), (qf102, .inl (cf102, 2048, .inl f102)), (qf100, .inl (cf100, 48000, .inl f100)), (qf104, .inl (cf104, 8, .inl f104)), (qf106, .inl (cf106, 8, .inl f106)), (qf107, .inl (cf107, 96, .inl f107)), (qf109, .inl (cf109, 96, .inl f109)), (qf118, .inl (cf118, 2100, .inl g118_77)), (qf119, .inl (cf119, 2100, .inl g119_77)), (qf108, .inl (cf108, 8, .inl f108))]) [0, 1, 2, 3, 4, 5, 6, 7, 8, 9, 10] (by decide) rfl, hP.sub (ws' := [(h0, .inr (13, z77)), (qf105, .inl (cf105, 8, .inl f105)), (qf102, .inl (cf102, 2048, .inl f102)), (qf100, .inl (cf100, 48000, .inl f100)), (qf104, .inl (cf104, 8, .inl f104)), (qf106, .inl (cf106, 8, .inl f106)), (qf107, .inl (cf107, 96, .inl f107)), (qf109, .inl (cf109, 96, .inl f109)), (qf118, .inl (cf118, 2100, .inl g118_77)), (qf119, .inl (cf119, 2100, .inl g119_77)), (qf108, .inl (cf108, 8, .inl f108))]) [0, 1, 2, 3, 4, 5, 6, 7, 8, 9, 10] rfl, hfh_77_98, hfh_77_100, hfh_77_102, hfh_77_104, hfh_77_105, hfh_77_106, hfh_77_107, hfh_77_108, hfh_77_109, hfh_77_117, hfh_77_118, hfh_77_119, hfh_77_120, hfh_77_121, hfh_77_122, hfh_77_123, hfh_77_124, hfh_77_125, hlh_77, hrh_77, hsp⟩
    · rw [if_neg c_11] at hsp
      refine lv_aload_n hx hb dX13_classFits_65 rfl (lv_at hl 0 rfl) ?_
      refine lv_iconst (v := 3) hx hb dX13_classFits_66 (by decide) ?_
      refine lv_iload_n hx hb dX13_classFits_67 rfl (lv_at hl 1 rfl) ?_
      refine lv_iconst (v := (-1)) hx hb dX13_classFits_68 (by decide) ?_
      refine lv_iconst (v := (-1)) hx hb dX13_classFits_69 (by decide) ?_
      obtain ⟨⟨u21_0, u21_1, u21_2, u21_3, u21_4⟩, hu_21, hsp⟩ := ox_bind hsp
      try dsimp only at hsp
      have hPc := hP.sub (ws' := [(h0, .inr (13, z60))]) [0] rfl
      have hDc := hD.sub (ws' := [(h0, .inr (13, z60))]) [0] (by decide) rfl
      have hKc := hK.sub (tys' := []) [] rfl
      have hFc := va_free (wc := [(h0, .inr (13, z60))]) hD hS hA [0] rfl
      refine va_calli (va_runV (As := [.int 3, .int l1_60, .int (-1), .int (-1)]) (rest := []) ⟨hx, hb, hml, hown, hts⟩ (tm_bad l dC dI H.size h0 z60 3 l1_60 (-1) (-1) x122_60 x123_60 x124_60 x125_60 nf u21_0 u21_1 u21_2 u21_3 u21_4 hlh_60 hfh_60_122 hfh_60_123 hfh_60_124 hfh_60_125 hu_21) (cwV 4 hts gv_h9_63 rfl rfl rfl (by decide +kernel) ⟨Nat.le_of_ble_eq_true rfl, Nat.le_of_ble_eq_true rfl⟩) ⟨fun a U g mk q => by obtain ⟨q0, q1, qP, qK, qD⟩ := q; exact ⟨q0, q1, qP, va_K.moved (u := U) (U := U.calling g mk a) (Vm.Alike.refl U.vm) qK, qD⟩, va_recv hKc hPc (ci := 13) (q0 := 0) rfl rfl, fun U hU hW => ⟨rfl, by rw [hU], by rw [hU]; exact hPc, va_K.moved hW.alike hKc, hDc.weaken (fun _ _ _ _ => trivial)⟩⟩ rfl rfl hl.1 rfl (lv_room (Nat.le_of_ble_eq_true rfl)) dX13_classFits_70 ⟨Nat.le_of_ble_eq_true rfl, Nat.le_of_ble_eq_true rfl⟩) hS (fun q _ h => hFc q h) hFc ?_
      clear hS
      intro r_46 u t H1 locs ht hvm hw hB hz1 hk1 hS
      obtain ⟨z_21, rfl⟩ : ∃ z, z = u := ⟨_, rfl⟩
      obtain ⟨hP1, hK1, hD1⟩ := hB
      rw [ht] at hP1
      have hK1 := va_K.moved hvm.symm hK1
      try dsimp only at hw
      have hPD := va_join (wr := [(qf105, .inl (cf105, 8, .inl f105)), (qf102, .inl (cf102, 2048, .inl f102)), (qf100, .inl (cf100, 48000, .inl f100)), (qf104, .inl (cf104, 8, .inl f104)), (qf106, .inl (cf106, 8, .inl f106)), (qf107, .inl (cf107, 96, .inl f107)), (qf109, .inl (cf109, 96, .inl f109)), (qf118, .inl (cf118, 2100, .inl g118_60)), (qf119, .inl (cf119, 2100, .inl g119_60)), (qf108, .inl (cf108, 8, .inl f108))]) (w1 := [(h0, .inr (13, z_21))]) hP hD [0] [1, 2, 3, 4, 5, 6, 7, 8, 9, 10] rfl rfl (by decide) (by decide) hk1 hFc hP1 hD1
      clear hP hD
      obtain ⟨hP, hD⟩ := hPD
      replace hK := (hK.sub (tys' := [(cf105, .int), (cf102, .int), (cf100, .int), (cf104, .int), (cf106, .int), (cf107, .int), (cf109, .int), (cf118, .int), (cf119, .int), (cf108, .int)]) [0, 1, 2, 3, 4, 5, 6, 7, 8, 9] rfl).app hK1
      clear hPc hDc hKc hFc hP1 hK1 hD1 hz1 hk1 ht hvm
      generalize H1 = H at hP hS ⊢
      replace hP : va_P (dC, dI) vwCl [(qf105, .inl (cf105, 8, .inl f105)), (qf102, .inl (cf102, 2048, .inl f102)), (qf100, .inl (cf100, 48000, .inl f100)), (qf104, .inl (cf104, 8, .inl f104)), (qf106, .inl (cf106, 8, .inl f106)), (qf107, .inl (cf107, 96, .inl f107)), (qf109, .inl (cf109, 96, .inl f109)), (qf118, .inl (cf118, 2100, .inl g118_60)), (qf119, .inl (cf119, 2100, .inl g119_60)), (qf108, .inl (cf108, 8, .inl f108)), (h0, .inr (13, z_21))] H := hP
      replace hD : va_D A [(qf105, .inl (cf105, 8, .inl f105)), (qf102, .inl (cf102, 2048, .inl f102)), (qf100, .inl (cf100, 48000, .inl f100)), (qf104, .inl (cf104, 8, .inl f104)), (qf106, .inl (cf106, 8, .inl f106)), (qf107, .inl (cf107, 96, .inl f107)), (qf109, .inl (cf109, 96, .inl f109)), (qf118, .inl (cf118, 2100, .inl g118_60)), (qf119, .inl (cf119, 2100, .inl g119_60)), (qf108, .inl (cf108, 8, .inl f108)), (h0, .inr (13, z_21))] := hD
      replace hK : va_K (dC, dI) vwCl [(cf105, .int), (cf102, .int), (cf100, .int), (cf104, .int), (cf106, .int), (cf107, .int), (cf109, .int), (cf118, .int), (cf119, .int), (cf108, .int)] s := hK
      obtain ⟨hwa_21, hln_21, hre_21, hch_21_122, hch_21_123, hch_21_124, hch_21_125⟩ := hw
      have hfk_21_98 : z_21[98]? = some (.int v98) := (hre_21 98 (by decide) (by decide) (by decide) (by decide)).trans (hfh_60_98)
      have hfk_21_100 : z_21[100]? = some (.ref qf100) := (hre_21 100 (by decide) (by decide) (by decide) (by decide)).trans (hfh_60_100)
      have hfk_21_102 : z_21[102]? = some (.ref qf102) := (hre_21 102 (by decide) (by decide) (by decide) (by decide)).trans (hfh_60_102)
      have hfk_21_104 : z_21[104]? = some (.ref qf104) := (hre_21 104 (by decide) (by decide) (by decide) (by decide)).trans (hfh_60_104)
      have hfk_21_105 : z_21[105]? = some (.ref qf105) := (hre_21 105 (by decide) (by decide) (by decide) (by decide)).trans (hfh_60_105)
      have hfk_21_106 : z_21[106]? = some (.ref qf106) := (hre_21 106 (by decide) (by decide) (by decide) (by decide)).trans (hfh_60_106)
      have hfk_21_107 : z_21[107]? = some (.ref qf107) := (hre_21 107 (by decide) (by decide) (by decide) (by decide)).trans (hfh_60_107)
      have hfk_21_108 : z_21[108]? = some (.ref qf108) := (hre_21 108 (by decide) (by decide) (by decide) (by decide)).trans (hfh_60_108)
      have hfk_21_109 : z_21[109]? = some (.ref qf109) := (hre_21 109 (by decide) (by decide) (by decide) (by decide)).trans (hfh_60_109)
      have hfk_21_117 : z_21[117]? = some (.int x117_60) := (hre_21 117 (by decide) (by decide) (by decide) (by decide)).trans (hfh_60_117)
      have hfk_21_118 : z_21[118]? = some (.ref qf118) := (hre_21 118 (by decide) (by decide) (by decide) (by decide)).trans (hfh_60_118)
      have hfk_21_119 : z_21[119]? = some (.ref qf119) := (hre_21 119 (by decide) (by decide) (by decide) (by decide)).trans (hfh_60_119)
      have hfk_21_120 : z_21[120]? = some (.int x120_60) := (hre_21 120 (by decide) (by decide) (by decide) (by decide)).trans (hfh_60_120)
      have hfk_21_121 : z_21[121]? = some (.int x121_60) := (hre_21 121 (by decide) (by decide) (by decide) (by decide)).trans (hfh_60_121)
      have hrq_21 : ∀ j : Nat, j ≠ 117 → j ≠ 120 → j ≠ 121 → j ≠ 122 → j ≠ 123 → j ≠ 124 → j ≠ 125 → z_21[j]? = zs[j]? := fun j g117 g120 g121 g122 g123 g124 g125 => (hre_21 j g122 g123 g124 g125).trans (hrh_60 j g117 g120 g121 g122 g123 g124 g125)
      obtain ⟨rfl, hz_21⟩ := hwa_21
      rcases hz_21 with rfl | rfl
      · rw [if_pos rfl] at hsp
        have hr0 := Option.some.inj hsp
        clear hsp
        obtain ⟨hq0, hr1⟩ := Prod.mk.inj hr0
        clear hr0
        obtain ⟨hq1, hr2⟩ := Prod.mk.inj hr1
        clear hr1
        obtain ⟨hq2, hr3⟩ := Prod.mk.inj hr2
        clear hr2
        obtain ⟨hq3, hr4⟩ := Prod.mk.inj hr3
        clear hr3
        obtain ⟨hq4, hr5⟩ := Prod.mk.inj hr4
        clear hr4
        obtain ⟨hq5, hr6⟩ := Prod.mk.inj hr5
        clear hr5
        obtain ⟨hq6, hr7⟩ := Prod.mk.inj hr6
        clear hr6
        obtain ⟨hq7, hr8⟩ := Prod.mk.inj hr7
        clear hr7
        obtain ⟨hq8, hr9⟩ := Prod.mk.inj hr8
        clear hr8
        subst hq0
        subst hq1
        subst hq2
        subst hq3
        subst hq4
        subst hq5
        subst hq6
        subst hq7
        subst hq8
        subst hr9
        have hP9 := hP.sub (ws' := [(h0, .inr (13, z_21)), (qf105, .inl (cf105, 8, .inl f105)), (qf102, .inl (cf102, 2048, .inl f102)), (qf100, .inl (cf100, 48000, .inl f100)), (qf104, .inl (cf104, 8, .inl f104)), (qf106, .inl (cf106, 8, .inl f106)), (qf107, .inl (cf107, 96, .inl f107)), (qf109, .inl (cf109, 96, .inl f109)), (qf118, .inl (cf118, 2100, .inl g118_60)), (qf119, .inl (cf119, 2100, .inl g119_60)), (qf108, .inl (cf108, 8, .inl f108))]) [10, 0, 1, 2, 3, 4, 5, 6, 7, 8, 9] rfl
        have hD9 := hD.sub (ws' := [(h0, .inr (13, z_21)), (qf105, .inl (cf105, 8, .inl f105)), (qf102, .inl (cf102, 2048, .inl f102)), (qf100, .inl (cf100, 48000, .inl f100)), (qf104, .inl (cf104, 8, .inl f104)), (qf106, .inl (cf106, 8, .inl f106)), (qf107, .inl (cf107, 96, .inl f107)), (qf109, .inl (cf109, 96, .inl f109)), (qf118, .inl (cf118, 2100, .inl g118_60)), (qf119, .inl (cf119, 2100, .inl g119_60)), (qf108, .inl (cf108, 8, .inl f108))]) [10, 0, 1, 2, 3, 4, 5, 6, 7, 8, 9] (by decide) rfl
        have hK9 := hK.sub (tys' := [(cf105, .int), (cf102, .int), (cf100, .int), (cf104, .int), (cf106, .int), (cf107, .int), (cf109, .int), (cf118, .int), (cf119, .int), (cf108, .int)]) [0, 1, 2, 3, 4, 5, 6, 7, 8, 9] rfl
        exact W.zret hx hb hr (by decide) (fun t ht hW => ⟨⟨(0), (z_21), rfl, ⟨⟨rfl, Or.inl rfl⟩, hln_21, hrq_21, hfk_21_117, hfk_21_120, hfk_21_121, hch_21_122, hch_21_123, hch_21_124, hch_21_125⟩, by rw [ht]; exact hP9, va_K.moved hW.alike hK9, hD9⟩, hS.F ht⟩) hS.2.2 dX13_classFits_73
      · rw [if_neg (by decide)] at hsp
        have hr0 := Option.some.inj hsp
        clear hsp
        obtain ⟨hq0, hr1⟩ := Prod.mk.inj hr0
        clear hr0
        obtain ⟨hq1, hr2⟩ := Prod.mk.inj hr1
        clear hr1
        obtain ⟨hq2, hr3⟩ := Prod.mk.inj hr2
        clear hr2
        obtain ⟨hq3, hr4⟩ := Prod.mk.inj hr3
        clear hr3
        obtain ⟨hq4, hr5⟩ := Prod.mk.inj hr4
        clear hr4
        obtain ⟨hq5, hr6⟩ := Prod.mk.inj hr5
        clear hr5
        obtain ⟨hq6, hr7⟩ := Prod.mk.inj hr6
        clear hr6
        obtain ⟨hq7, hr8⟩ := Prod.mk.inj hr7
        clear hr7
        obtain ⟨hq8, hr9⟩ := Prod.mk.inj hr8
        clear hr8
        subst hq0
        subst hq1
        subst hq2
        subst hq3
        subst hq4
        subst hq5
        subst hq6
        subst hq7
        subst hq8
        subst hr9
        have hP9 := hP.sub (ws' := [(h0, .inr (13, z_21)), (qf105, .inl (cf105, 8, .inl f105)), (qf102, .inl (cf102, 2048, .inl f102)), (qf100, .inl (cf100, 48000, .inl f100)), (qf104, .inl (cf104, 8, .inl f104)), (qf106, .inl (cf106, 8, .inl f106)), (qf107, .inl (cf107, 96, .inl f107)), (qf109, .inl (cf109, 96, .inl f109)), (qf118, .inl (cf118, 2100, .inl g118_60)), (qf119, .inl (cf119, 2100, .inl g119_60)), (qf108, .inl (cf108, 8, .inl f108))]) [10, 0, 1, 2, 3, 4, 5, 6, 7, 8, 9] rfl
        have hD9 := hD.sub (ws' := [(h0, .inr (13, z_21)), (qf105, .inl (cf105, 8, .inl f105)), (qf102, .inl (cf102, 2048, .inl f102)), (qf100, .inl (cf100, 48000, .inl f100)), (qf104, .inl (cf104, 8, .inl f104)), (qf106, .inl (cf106, 8, .inl f106)), (qf107, .inl (cf107, 96, .inl f107)), (qf109, .inl (cf109, 96, .inl f109)), (qf118, .inl (cf118, 2100, .inl g118_60)), (qf119, .inl (cf119, 2100, .inl g119_60)), (qf108, .inl (cf108, 8, .inl f108))]) [10, 0, 1, 2, 3, 4, 5, 6, 7, 8, 9] (by decide) rfl
        have hK9 := hK.sub (tys' := [(cf105, .int), (cf102, .int), (cf100, .int), (cf104, .int), (cf106, .int), (cf107, .int), (cf109, .int), (cf118, .int), (cf119, .int), (cf108, .int)]) [0, 1, 2, 3, 4, 5, 6, 7, 8, 9] rfl
        exact W.zret hx hb hr (by decide) (fun t ht hW => ⟨⟨(1), (z_21), rfl, ⟨⟨rfl, Or.inr rfl⟩, hln_21, hrq_21, hfk_21_117, hfk_21_120, hfk_21_121, hch_21_122, hch_21_123, hch_21_124, hch_21_125⟩, by rw [ht]; exact hP9, va_K.moved hW.alike hK9, hD9⟩, hS.F ht⟩) hS.2.2 dX13_classFits_73
  intro hj_60
  refine lv_iload_n hx hb dX13_classFits_0 rfl (lv_at hl 1 rfl) ?_
  refine lv_bipush (v := 8) hx hb dX13_classFits_1 (by decide) ?_
  refine lv_isub hx hb dX13_classFits_3 ?_
  refine lv_istore_n (lv' := [(2, .int (a1 - 8)), (0, .ref h0), (1, .int a1)]) hx hb dX13_classFits_4 rfl hl (by decide) rfl (fun ls hl => ?_)
  refine lv_aload_n hx hb dX13_classFits_5 rfl (lv_at hl 1 rfl) ?_
  refine lv_iload_n hx hb dX13_classFits_6 rfl (lv_at hl 2 rfl) ?_
  obtain ⟨u1_0, hu_1, hsp⟩ := ox_bind hsp
  try dsimp only at hsp
  have hPc := hP.sub (ws' := [(h0, .inr (13, zs)), (qf105, .inl (cf105, 8, .inl f105)), (qf102, .inl (cf102, 2048, .inl f102)), (qf100, .inl (cf100, 48000, .inl f100)), (qf104, .inl (cf104, 8, .inl f104))]) [0, 1, 2, 3, 4] rfl
  have hDc := hD.sub (ws' := [(h0, .inr (13, zs)), (qf105, .inl (cf105, 8, .inl f105)), (qf102, .inl (cf102, 2048, .inl f102)), (qf100, .inl (cf100, 48000, .inl f100)), (qf104, .inl (cf104, 8, .inl f104))]) [0, 1, 2, 3, 4] (by decide) rfl
  have hKc := hK.sub (tys' := [(cf105, .int), (cf102, .int), (cf100, .int), (cf104, .int)]) [0, 1, 2, 3] rfl
  have hFc := va_free (wc := [(h0, .inr (13, zs)), (qf105, .inl (cf105, 8, .inl f105)), (qf102, .inl (cf102, 2048, .inl f102)), (qf100, .inl (cf100, 48000, .inl f100)), (qf104, .inl (cf104, 8, .inl f104))]) hD hS hA [0, 1, 2, 3, 4] rfl
  refine va_calli (va_runV (As := [.int a1]) (rest := []) ⟨hx, hb, hml, hown, hts⟩ (vm_superOf l dC dI H.size h0 zs a1 v98 qf100 qf102 qf104 qf105 cf105 f105 cf102 f102 cf100 f100 cf104 f104 nS477 fS477 hS477 qS477 tS477 nf u1_0 hlen hf98 hf100 hf102 hf104 hf105 hu_1) (cwV 1 hts gv_h9_98 rfl rfl rfl (by decide +kernel) ⟨Nat.le_of_ble_eq_true rfl, Nat.le_of_ble_eq_true rfl⟩) ⟨fun a U g mk q => by obtain ⟨q0, q1, qP, qK, qD, qhZWS477, qhZRS477⟩ := q; exact ⟨q0, q1, qP, va_K.moved (u := U) (U := U.calling g mk a) (Vm.Alike.refl U.vm) qK, qD, pz_W.moved (u := U) (U := U.calling g mk a) (Vm.Alike.refl U.vm) qhZWS477, vk_R.same rfl qhZRS477⟩, va_recv hKc hPc (ci := 13) (q0 := 0) rfl rfl, fun U hU hW => ⟨rfl, by rw [hU], by rw [hU]; exact hPc, va_K.moved hW.alike hKc, hDc.weaken (fun _ _ _ _ => trivial), by rw [hU]; exact ((pz_W.moved hW.alike hZWS477).kept hS.2.1).narrow hFc, vk_R.warm hW hZRS477⟩⟩ rfl rfl hl.1 rfl (lv_room (Nat.le_of_ble_eq_true rfl)) dX13_classFits_7 ⟨Nat.le_of_ble_eq_true rfl, Nat.le_of_ble_eq_true rfl⟩) hS (fun q _ h => hFc q h) hFc ?_
  clear hS
  intro r_1 u t H1 locs ht hvm hw hB hz1 hk1 hS
  obtain ⟨z_1, rfl⟩ : ∃ z, z = u := ⟨_, rfl⟩
  obtain ⟨hP1, hK1, hD1⟩ := hB
  rw [ht] at hP1
  have hK1 := va_K.moved hvm.symm hK1
  try dsimp only at hw
  have hPD := va_join (wr := [(qf106, .inl (cf106, 8, .inl f106)), (qf107, .inl (cf107, 96, .inl f107)), (qf109, .inl (cf109, 96, .inl f109)), (qf118, .inl (cf118, 2100, .inl f118)), (qf119, .inl (cf119, 2100, .inl f119)), (qf108, .inl (cf108, 8, .inl f108))]) (w1 := [(h0, .inr (13, z_1)), (qf105, .inl (cf105, 8, .inl f105)), (qf102, .inl (cf102, 2048, .inl f102)), (qf100, .inl (cf100, 48000, .inl f100)), (qf104, .inl (cf104, 8, .inl f104))]) hP hD [0, 1, 2, 3, 4] [5, 6, 7, 8, 9, 10] rfl rfl (by decide) (by decide) hk1 hFc hP1 hD1
  clear hP hD
  obtain ⟨hP, hD⟩ := hPD
  replace hK := (hK.sub (tys' := [(cf106, .int), (cf107, .int), (cf109, .int), (cf118, .int), (cf119, .int), (cf108, .int)]) [4, 5, 6, 7, 8, 9] rfl).app hK1
  clear hPc hDc hKc hFc hP1 hK1 hD1 hz1 hk1 ht hvm
  generalize H1 = H at hP hS ⊢
  replace hP : va_P (dC, dI) vwCl [(qf106, .inl (cf106, 8, .inl f106)), (qf107, .inl (cf107, 96, .inl f107)), (qf109, .inl (cf109, 96, .inl f109)), (qf118, .inl (cf118, 2100, .inl f118)), (qf119, .inl (cf119, 2100, .inl f119)), (qf108, .inl (cf108, 8, .inl f108)), (h0, .inr (13, z_1)), (qf105, .inl (cf105, 8, .inl f105)), (qf102, .inl (cf102, 2048, .inl f102)), (qf100, .inl (cf100, 48000, .inl f100)), (qf104, .inl (cf104, 8, .inl f104))] H := hP
  replace hD : va_D A [(qf106, .inl (cf106, 8, .inl f106)), (qf107, .inl (cf107, 96, .inl f107)), (qf109, .inl (cf109, 96, .inl f109)), (qf118, .inl (cf118, 2100, .inl f118)), (qf119, .inl (cf119, 2100, .inl f119)), (qf108, .inl (cf108, 8, .inl f108)), (h0, .inr (13, z_1)), (qf105, .inl (cf105, 8, .inl f105)), (qf102, .inl (cf102, 2048, .inl f102)), (qf100, .inl (cf100, 48000, .inl f100)), (qf104, .inl (cf104, 8, .inl f104))] := hD
  replace hK : va_K (dC, dI) vwCl [(cf106, .int), (cf107, .int), (cf109, .int), (cf118, .int), (cf119, .int), (cf108, .int), (cf105, .int), (cf102, .int), (cf100, .int), (cf104, .int)] s := hK
  obtain ⟨hwa_1, hln_1, hre_1⟩ := hw
  have hfk_1_98 : z_1[98]? = some (.int v98) := (hre_1 98 ).trans (hf98)
  have hfk_1_100 : z_1[100]? = some (.ref qf100) := (hre_1 100 ).trans (hf100)
  have hfk_1_102 : z_1[102]? = some (.ref qf102) := (hre_1 102 ).trans (hf102)
  have hfk_1_104 : z_1[104]? = some (.ref qf104) := (hre_1 104 ).trans (hf104)
  have hfk_1_105 : z_1[105]? = some (.ref qf105) := (hre_1 105 ).trans (hf105)
  have hfk_1_106 : z_1[106]? = some (.ref qf106) := (hre_1 106 ).trans (hf106)
  have hfk_1_107 : z_1[107]? = some (.ref qf107) := (hre_1 107 ).trans (hf107)
  have hfk_1_108 : z_1[108]? = some (.ref qf108) := (hre_1 108 ).trans (hf108)
  have hfk_1_109 : z_1[109]? = some (.ref qf109) := (hre_1 109 ).trans (hf109)
  have hfk_1_117 : z_1[117]? = some (.int v117) := (hre_1 117 ).trans (hf117)
  have hfk_1_118 : z_1[118]? = some (.ref qf118) := (hre_1 118 ).trans (hf118)
  have hfk_1_119 : z_1[119]? = some (.ref qf119) := (hre_1 119 ).trans (hf119)
  have hfk_1_120 : z_1[120]? = some (.int v120) := (hre_1 120 ).trans (hf120)
  have hfk_1_121 : z_1[121]? = some (.int v121) := (hre_1 121 ).trans (hf121)
  have hfk_1_122 : z_1[122]? = some (.int v122) := (hre_1 122 ).trans (hf122)
  have hfk_1_123 : z_1[123]? = some (.int v123) := (hre_1 123 ).trans (hf123)
  have hfk_1_124 : z_1[124]? = some (.int v124) := (hre_1 124 ).trans (hf124)
  have hfk_1_125 : z_1[125]? = some (.int v125) := (hre_1 125 ).trans (hf125)
  have hrq_1 : ∀ j : Nat, j ≠ 117 → j ≠ 120 → j ≠ 121 → j ≠ 122 → j ≠ 123 → j ≠ 124 → j ≠ 125 → z_1[j]? = zs[j]? := fun j g117 g120 g121 g122 g123 g124 g125 => (hre_1 j ).trans (hrs0 j g117 g120 g121 g122 g123 g124 g125)
  obtain rfl := hwa_1
  refine lv_iconst (v := (-1)) hx hb dX13_classFits_10 (by decide) ?_
  refine lv_icmp_eq (tgt := 22) hx hb dX13_classFits_11 (by decide) (fun c_2 => ?_) (fun c_2 => ?_)
  · rw [if_pos c_2] at hsp
    refine lv_aload_n hx hb dX13_classFits_22 rfl (lv_at hl 1 rfl) ?_
    refine lv_iconst (v := 3) hx hb dX13_classFits_23 (by decide) ?_
    refine lv_iload_n hx hb dX13_classFits_24 rfl (lv_at hl 2 rfl) ?_
    refine lv_iconst (v := (-1)) hx hb dX13_classFits_25 (by decide) ?_
    refine lv_iconst (v := (-1)) hx hb dX13_classFits_26 (by decide) ?_
    obtain ⟨⟨u2_0, u2_1, u2_2, u2_3, u2_4⟩, hu_2, hsp⟩ := ox_bind hsp
    try dsimp only at hsp
    have hPc := hP.sub (ws' := [(h0, .inr (13, z_1))]) [6] rfl
    have hDc := hD.sub (ws' := [(h0, .inr (13, z_1))]) [6] (by decide) rfl
    have hKc := hK.sub (tys' := []) [] rfl
    have hFc := va_free (wc := [(h0, .inr (13, z_1))]) hD hS hA [6] rfl
    refine va_calli (va_runV (As := [.int 3, .int a1, .int (-1), .int (-1)]) (rest := []) ⟨hx, hb, hml, hown, hts⟩ (tm_bad l dC dI H.size h0 z_1 3 a1 (-1) (-1) v122 v123 v124 v125 nf u2_0 u2_1 u2_2 u2_3 u2_4 hln_1 hfk_1_122 hfk_1_123 hfk_1_124 hfk_1_125 hu_2) (cwV 4 hts gv_h9_63 rfl rfl rfl (by decide +kernel) ⟨Nat.le_of_ble_eq_true rfl, Nat.le_of_ble_eq_true rfl⟩) ⟨fun a U g mk q => by obtain ⟨q0, q1, qP, qK, qD⟩ := q; exact ⟨q0, q1, qP, va_K.moved (u := U) (U := U.calling g mk a) (Vm.Alike.refl U.vm) qK, qD⟩, va_recv hKc hPc (ci := 13) (q0 := 0) rfl rfl, fun U hU hW => ⟨rfl, by rw [hU], by rw [hU]; exact hPc, va_K.moved hW.alike hKc, hDc.weaken (fun _ _ _ _ => trivial)⟩⟩ rfl rfl hl.1 rfl (lv_room (Nat.le_of_ble_eq_true rfl)) dX13_classFits_27 ⟨Nat.le_of_ble_eq_true rfl, Nat.le_of_ble_eq_true rfl⟩) hS (fun q _ h => hFc q h) hFc ?_
    clear hS
    intro r_3 u t H1 locs ht hvm hw hB hz1 hk1 hS
    obtain ⟨z_2, rfl⟩ : ∃ z, z = u := ⟨_, rfl⟩
    obtain ⟨hP1, hK1, hD1⟩ := hB
    rw [ht] at hP1
    have hK1 := va_K.moved hvm.symm hK1
    try dsimp only at hw
    have hPD := va_join (wr := [(qf106, .inl (cf106, 8, .inl f106)), (qf107, .inl (cf107, 96, .inl f107)), (qf109, .inl (cf109, 96, .inl f109)), (qf118, .inl (cf118, 2100, .inl f118)), (qf119, .inl (cf119, 2100, .inl f119)), (qf108, .inl (cf108, 8, .inl f108)), (qf105, .inl (cf105, 8, .inl f105)), (qf102, .inl (cf102, 2048, .inl f102)), (qf100, .inl (cf100, 48000, .inl f100)), (qf104, .inl (cf104, 8, .inl f104))]) (w1 := [(h0, .inr (13, z_2))]) hP hD [6] [0, 1, 2, 3, 4, 5, 7, 8, 9, 10] rfl rfl (by decide) (by decide) hk1 hFc hP1 hD1
    clear hP hD
    obtain ⟨hP, hD⟩ := hPD
    replace hK := (hK.sub (tys' := [(cf106, .int), (cf107, .int), (cf109, .int), (cf118, .int), (cf119, .int), (cf108, .int), (cf105, .int), (cf102, .int), (cf100, .int), (cf104, .int)]) [0, 1, 2, 3, 4, 5, 6, 7, 8, 9] rfl).app hK1
    clear hPc hDc hKc hFc hP1 hK1 hD1 hz1 hk1 ht hvm
    generalize H1 = H at hP hS ⊢
    replace hP : va_P (dC, dI) vwCl [(qf106, .inl (cf106, 8, .inl f106)), (qf107, .inl (cf107, 96, .inl f107)), (qf109, .inl (cf109, 96, .inl f109)), (qf118, .inl (cf118, 2100, .inl f118)), (qf119, .inl (cf119, 2100, .inl f119)), (qf108, .inl (cf108, 8, .inl f108)), (qf105, .inl (cf105, 8, .inl f105)), (qf102, .inl (cf102, 2048, .inl f102)), (qf100, .inl (cf100, 48000, .inl f100)), (qf104, .inl (cf104, 8, .inl f104)), (h0, .inr (13, z_2))] H := hP
    replace hD : va_D A [(qf106, .inl (cf106, 8, .inl f106)), (qf107, .inl (cf107, 96, .inl f107)), (qf109, .inl (cf109, 96, .inl f109)), (qf118, .inl (cf118, 2100, .inl f118)), (qf119, .inl (cf119, 2100, .inl f119)), (qf108, .inl (cf108, 8, .inl f108)), (qf105, .inl (cf105, 8, .inl f105)), (qf102, .inl (cf102, 2048, .inl f102)), (qf100, .inl (cf100, 48000, .inl f100)), (qf104, .inl (cf104, 8, .inl f104)), (h0, .inr (13, z_2))] := hD
    replace hK : va_K (dC, dI) vwCl [(cf106, .int), (cf107, .int), (cf109, .int), (cf118, .int), (cf119, .int), (cf108, .int), (cf105, .int), (cf102, .int), (cf100, .int), (cf104, .int)] s := hK
    obtain ⟨hwa_2, hln_2, hre_2, hch_2_122, hch_2_123, hch_2_124, hch_2_125⟩ := hw
    have hfk_2_98 : z_2[98]? = some (.int v98) := (hre_2 98 (by decide) (by decide) (by decide) (by decide)).trans (hfk_1_98)
    have hfk_2_100 : z_2[100]? = some (.ref qf100) := (hre_2 100 (by decide) (by decide) (by decide) (by decide)).trans (hfk_1_100)
    have hfk_2_102 : z_2[102]? = some (.ref qf102) := (hre_2 102 (by decide) (by decide) (by decide) (by decide)).trans (hfk_1_102)
    have hfk_2_104 : z_2[104]? = some (.ref qf104) := (hre_2 104 (by decide) (by decide) (by decide) (by decide)).trans (hfk_1_104)
    have hfk_2_105 : z_2[105]? = some (.ref qf105) := (hre_2 105 (by decide) (by decide) (by decide) (by decide)).trans (hfk_1_105)
    have hfk_2_106 : z_2[106]? = some (.ref qf106) := (hre_2 106 (by decide) (by decide) (by decide) (by decide)).trans (hfk_1_106)
    have hfk_2_107 : z_2[107]? = some (.ref qf107) := (hre_2 107 (by decide) (by decide) (by decide) (by decide)).trans (hfk_1_107)
    have hfk_2_108 : z_2[108]? = some (.ref qf108) := (hre_2 108 (by decide) (by decide) (by decide) (by decide)).trans (hfk_1_108)
    have hfk_2_109 : z_2[109]? = some (.ref qf109) := (hre_2 109 (by decide) (by decide) (by decide) (by decide)).trans (hfk_1_109)
    have hfk_2_117 : z_2[117]? = some (.int v117) := (hre_2 117 (by decide) (by decide) (by decide) (by decide)).trans (hfk_1_117)
    have hfk_2_118 : z_2[118]? = some (.ref qf118) := (hre_2 118 (by decide) (by decide) (by decide) (by decide)).trans (hfk_1_118)
    have hfk_2_119 : z_2[119]? = some (.ref qf119) := (hre_2 119 (by decide) (by decide) (by decide) (by decide)).trans (hfk_1_119)
    have hfk_2_120 : z_2[120]? = some (.int v120) := (hre_2 120 (by decide) (by decide) (by decide) (by decide)).trans (hfk_1_120)
    have hfk_2_121 : z_2[121]? = some (.int v121) := (hre_2 121 (by decide) (by decide) (by decide) (by decide)).trans (hfk_1_121)
    have hrq_2 : ∀ j : Nat, j ≠ 117 → j ≠ 120 → j ≠ 121 → j ≠ 122 → j ≠ 123 → j ≠ 124 → j ≠ 125 → z_2[j]? = zs[j]? := fun j g117 g120 g121 g122 g123 g124 g125 => (hre_2 j g122 g123 g124 g125).trans (hrq_1 j g117 g120 g121 g122 g123 g124 g125)
    obtain ⟨rfl, hz_2⟩ := hwa_2
    rcases hz_2 with rfl | rfl
    · rw [if_pos rfl] at hsp
      have hr0 := Option.some.inj hsp
      clear hsp
      obtain ⟨hq0, hr1⟩ := Prod.mk.inj hr0
      clear hr0
      obtain ⟨hq1, hr2⟩ := Prod.mk.inj hr1
      clear hr1
      obtain ⟨hq2, hr3⟩ := Prod.mk.inj hr2
      clear hr2
      obtain ⟨hq3, hr4⟩ := Prod.mk.inj hr3
      clear hr3
      obtain ⟨hq4, hr5⟩ := Prod.mk.inj hr4
      clear hr4
      obtain ⟨hq5, hr6⟩ := Prod.mk.inj hr5
      clear hr5
      obtain ⟨hq6, hr7⟩ := Prod.mk.inj hr6
      clear hr6
      obtain ⟨hq7, hr8⟩ := Prod.mk.inj hr7
      clear hr7
      obtain ⟨hq8, hr9⟩ := Prod.mk.inj hr8
      clear hr8
      subst hq0
      subst hq1
      subst hq2
      subst hq3
      subst hq4
      subst hq5
      subst hq6
      subst hq7
      subst hq8
      subst hr9
      have hP9 := hP.sub (ws' := [(h0, .inr (13, z_2)), (qf105, .inl (cf105, 8, .inl f105)), (qf102, .inl (cf102, 2048, .inl f102)), (qf100, .inl (cf100, 48000, .inl f100)), (qf104, .inl (cf104, 8, .inl f104)), (qf106, .inl (cf106, 8, .inl f106)), (qf107, .inl (cf107, 96, .inl f107)), (qf109, .inl (cf109, 96, .inl f109)), (qf118, .inl (cf118, 2100, .inl f118)), (qf119, .inl (cf119, 2100, .inl f119)), (qf108, .inl (cf108, 8, .inl f108))]) [10, 6, 7, 8, 9, 0, 1, 2, 3, 4, 5] rfl
      have hD9 := hD.sub (ws' := [(h0, .inr (13, z_2)), (qf105, .inl (cf105, 8, .inl f105)), (qf102, .inl (cf102, 2048, .inl f102)), (qf100, .inl (cf100, 48000, .inl f100)), (qf104, .inl (cf104, 8, .inl f104)), (qf106, .inl (cf106, 8, .inl f106)), (qf107, .inl (cf107, 96, .inl f107)), (qf109, .inl (cf109, 96, .inl f109)), (qf118, .inl (cf118, 2100, .inl f118)), (qf119, .inl (cf119, 2100, .inl f119)), (qf108, .inl (cf108, 8, .inl f108))]) [10, 6, 7, 8, 9, 0, 1, 2, 3, 4, 5] (by decide) rfl
      have hK9 := hK.sub (tys' := [(cf105, .int), (cf102, .int), (cf100, .int), (cf104, .int), (cf106, .int), (cf107, .int), (cf109, .int), (cf118, .int), (cf119, .int), (cf108, .int)]) [6, 7, 8, 9, 0, 1, 2, 3, 4, 5] rfl
      exact W.zret hx hb hr (by decide) (fun t ht hW => ⟨⟨(0), (z_2), rfl, ⟨⟨rfl, Or.inl rfl⟩, hln_2, hrq_2, hfk_2_117, hfk_2_120, hfk_2_121, hch_2_122, hch_2_123, hch_2_124, hch_2_125⟩, by rw [ht]; exact hP9, va_K.moved hW.alike hK9, hD9⟩, hS.F ht⟩) hS.2.2 dX13_classFits_30
    · rw [if_neg (by decide)] at hsp
      have hr0 := Option.some.inj hsp
      clear hsp
      obtain ⟨hq0, hr1⟩ := Prod.mk.inj hr0
      clear hr0
      obtain ⟨hq1, hr2⟩ := Prod.mk.inj hr1
      clear hr1
      obtain ⟨hq2, hr3⟩ := Prod.mk.inj hr2
      clear hr2
      obtain ⟨hq3, hr4⟩ := Prod.mk.inj hr3
      clear hr3
      obtain ⟨hq4, hr5⟩ := Prod.mk.inj hr4
      clear hr4
      obtain ⟨hq5, hr6⟩ := Prod.mk.inj hr5
      clear hr5
      obtain ⟨hq6, hr7⟩ := Prod.mk.inj hr6
      clear hr6
      obtain ⟨hq7, hr8⟩ := Prod.mk.inj hr7
      clear hr7
      obtain ⟨hq8, hr9⟩ := Prod.mk.inj hr8
      clear hr8
      subst hq0
      subst hq1
      subst hq2
      subst hq3
      subst hq4
      subst hq5
      subst hq6
      subst hq7
      subst hq8
      subst hr9
      have hP9 := hP.sub (ws' := [(h0, .inr (13, z_2)), (qf105, .inl (cf105, 8, .inl f105)), (qf102, .inl (cf102, 2048, .inl f102)), (qf100, .inl (cf100, 48000, .inl f100)), (qf104, .inl (cf104, 8, .inl f104)), (qf106, .inl (cf106, 8, .inl f106)), (qf107, .inl (cf107, 96, .inl f107)), (qf109, .inl (cf109, 96, .inl f109)), (qf118, .inl (cf118, 2100, .inl f118)), (qf119, .inl (cf119, 2100, .inl f119)), (qf108, .inl (cf108, 8, .inl f108))]) [10, 6, 7, 8, 9, 0, 1, 2, 3, 4, 5] rfl
      have hD9 := hD.sub (ws' := [(h0, .inr (13, z_2)), (qf105, .inl (cf105, 8, .inl f105)), (qf102, .inl (cf102, 2048, .inl f102)), (qf100, .inl (cf100, 48000, .inl f100)), (qf104, .inl (cf104, 8, .inl f104)), (qf106, .inl (cf106, 8, .inl f106)), (qf107, .inl (cf107, 96, .inl f107)), (qf109, .inl (cf109, 96, .inl f109)), (qf118, .inl (cf118, 2100, .inl f118)), (qf119, .inl (cf119, 2100, .inl f119)), (qf108, .inl (cf108, 8, .inl f108))]) [10, 6, 7, 8, 9, 0, 1, 2, 3, 4, 5] (by decide) rfl
      have hK9 := hK.sub (tys' := [(cf105, .int), (cf102, .int), (cf100, .int), (cf104, .int), (cf106, .int), (cf107, .int), (cf109, .int), (cf118, .int), (cf119, .int), (cf108, .int)]) [6, 7, 8, 9, 0, 1, 2, 3, 4, 5] rfl
      exact W.zret hx hb hr (by decide) (fun t ht hW => ⟨⟨(1), (z_2), rfl, ⟨⟨rfl, Or.inr rfl⟩, hln_2, hrq_2, hfk_2_117, hfk_2_120, hfk_2_121, hch_2_122, hch_2_123, hch_2_124, hch_2_125⟩, by rw [ht]; exact hP9, va_K.moved hW.alike hK9, hD9⟩, hS.F ht⟩) hS.2.2 dX13_classFits_30
  · rw [if_neg c_2] at hsp
    refine lv_aload_n hx hb dX13_classFits_14 rfl (lv_at hl 1 rfl) ?_
    refine lv_iload_n hx hb dX13_classFits_15 rfl (lv_at hl 0 rfl) ?_
    obtain ⟨⟨u3_0, g903_1, g903_2, u3_3, u3_4⟩, hu_3, hsp⟩ := ox_bind hsp
    try dsimp only at hsp
    have hPc := hP.sub (ws' := [(h0, .inr (13, z_1)), (qf106, .inl (cf106, 8, .inl f106)), (qf107, .inl (cf107, 96, .inl f107)), (qf100, .inl (cf100, 48000, .inl f100)), (qf109, .inl (cf109, 96, .inl f109)), (qf102, .inl (cf102, 2048, .inl f102)), (qf104, .inl (cf104, 8, .inl f104)), (qf118, .inl (cf118, 2100, .inl f118)), (qf119, .inl (cf119, 2100, .inl f119)), (qf108, .inl (cf108, 8, .inl f108))]) [6, 0, 1, 9, 2, 8, 10, 3, 4, 5] rfl
    have hDc := hD.sub (ws' := [(h0, .inr (13, z_1)), (qf106, .inl (cf106, 8, .inl f106)), (qf107, .inl (cf107, 96, .inl f107)), (qf100, .inl (cf100, 48000, .inl f100)), (qf109, .inl (cf109, 96, .inl f109)), (qf102, .inl (cf102, 2048, .inl f102)), (qf104, .inl (cf104, 8, .inl f104)), (qf118, .inl (cf118, 2100, .inl f118)), (qf119, .inl (cf119, 2100, .inl f119)), (qf108, .inl (cf108, 8, .inl f108))]) [6, 0, 1, 9, 2, 8, 10, 3, 4, 5] (by decide) rfl
    have hKc := hK.sub (tys' := [(cf106, .int), (cf107, .int), (cf100, .int), (cf109, .int), (cf102, .int), (cf104, .int), (cf118, .int), (cf119, .int), (cf108, .int)]) [0, 1, 8, 2, 7, 9, 3, 4, 5] rfl
    have hFc := va_free (wc := [(h0, .inr (13, z_1)), (qf106, .inl (cf106, 8, .inl f106)), (qf107, .inl (cf107, 96, .inl f107)), (qf100, .inl (cf100, 48000, .inl f100)), (qf109, .inl (cf109, 96, .inl f109)), (qf102, .inl (cf102, 2048, .inl f102)), (qf104, .inl (cf104, 8, .inl f104)), (qf118, .inl (cf118, 2100, .inl f118)), (qf119, .inl (cf119, 2100, .inl f119)), (qf108, .inl (cf108, 8, .inl f108))]) hD hS hA [6, 0, 1, 9, 2, 8, 10, 3, 4, 5] rfl
    refine va_calli (va_runV (As := [.int (a1 - 8)]) (rest := []) ⟨hx, hb, hml, hown, hts⟩ (vm_kindsAreThere l dC dI H.size h0 z_1 ((a1 - 8)) v98 qf100 qf102 qf104 qf106 qf107 qf108 qf109 v117 qf118 qf119 v120 cf106 f106 cf107 f107 cf100 f100 cf109 f109 cf102 f102 cf104 f104 cf118 f118 cf119 f119 cf108 f108 nS477 fS477 hS477 qS477 tS477 nf u3_0 g903_1 g903_2 u3_3 u3_4 hln_1 hfk_1_98 hfk_1_100 hfk_1_102 hfk_1_104 hfk_1_106 hfk_1_107 hfk_1_108 hfk_1_109 hfk_1_117 hfk_1_118 hfk_1_119 hfk_1_120 hu_3) (cwV 1 hts gv_h9_105 rfl rfl rfl (by decide +kernel) ⟨Nat.le_of_ble_eq_true rfl, Nat.le_of_ble_eq_true rfl⟩) ⟨fun a U g mk q => by obtain ⟨q0, q1, qP, qK, qD, qhZWS477, qhZRS477⟩ := q; exact ⟨q0, q1, qP, va_K.moved (u := U) (U := U.calling g mk a) (Vm.Alike.refl U.vm) qK, qD, pz_W.moved (u := U) (U := U.calling g mk a) (Vm.Alike.refl U.vm) qhZWS477, vk_R.same rfl qhZRS477⟩, va_recv hKc hPc (ci := 13) (q0 := 0) rfl rfl, fun U hU hW => ⟨rfl, by rw [hU], by rw [hU]; exact hPc, va_K.moved hW.alike hKc, hDc.weaken (fun _ _ _ _ => trivial), by rw [hU]; exact ((pz_W.moved hW.alike hZWS477).kept hS.2.1).narrow hFc, vk_R.warm hW hZRS477⟩⟩ rfl rfl hl.1 rfl (lv_room (Nat.le_of_ble_eq_true rfl)) dX13_classFits_16 ⟨Nat.le_of_ble_eq_true rfl, Nat.le_of_ble_eq_true rfl⟩) hS (fun q _ h => hFc q h) hFc ?_
    clear hS
    intro r_4 u t H1 locs ht hvm hw hB hz1 hk1 hS
    obtain ⟨z_3, rfl⟩ : ∃ z, z = u := ⟨_, rfl⟩
    obtain ⟨hP1, hK1, hD1⟩ := hB
    rw [ht] at hP1
    have hK1 := va_K.moved hvm.symm hK1
    try dsimp only at hw
    have hPD := va_join (wr := [(qf105, .inl (cf105, 8, .inl f105))]) (w1 := [(h0, .inr (13, z_3)), (qf106, .inl (cf106, 8, .inl f106)), (qf107, .inl (cf107, 96, .inl f107)), (qf100, .inl (cf100, 48000, .inl f100)), (qf109, .inl (cf109, 96, .inl f109)), (qf102, .inl (cf102, 2048, .inl f102)), (qf104, .inl (cf104, 8, .inl f104)), (qf118, .inl (cf118, 2100, .inl g903_1)), (qf119, .inl (cf119, 2100, .inl g903_2)), (qf108, .inl (cf108, 8, .inl f108))]) hP hD [6, 0, 1, 9, 2, 8, 10, 3, 4, 5] [7] rfl rfl (by decide) (by decide) hk1 hFc hP1 hD1
    clear hP hD
    obtain ⟨hP, hD⟩ := hPD
    replace hK := (hK.sub (tys' := [(cf105, .int)]) [6] rfl).app hK1
    clear hPc hDc hKc hFc hP1 hK1 hD1 hz1 hk1 ht hvm
    generalize H1 = H at hP hS ⊢
    replace hP : va_P (dC, dI) vwCl [(qf105, .inl (cf105, 8, .inl f105)), (h0, .inr (13, z_3)), (qf106, .inl (cf106, 8, .inl f106)), (qf107, .inl (cf107, 96, .inl f107)), (qf100, .inl (cf100, 48000, .inl f100)), (qf109, .inl (cf109, 96, .inl f109)), (qf102, .inl (cf102, 2048, .inl f102)), (qf104, .inl (cf104, 8, .inl f104)), (qf118, .inl (cf118, 2100, .inl g903_1)), (qf119, .inl (cf119, 2100, .inl g903_2)), (qf108, .inl (cf108, 8, .inl f108))] H := hP
    replace hD : va_D A [(qf105, .inl (cf105, 8, .inl f105)), (h0, .inr (13, z_3)), (qf106, .inl (cf106, 8, .inl f106)), (qf107, .inl (cf107, 96, .inl f107)), (qf100, .inl (cf100, 48000, .inl f100)), (qf109, .inl (cf109, 96, .inl f109)), (qf102, .inl (cf102, 2048, .inl f102)), (qf104, .inl (cf104, 8, .inl f104)), (qf118, .inl (cf118, 2100, .inl g903_1)), (qf119, .inl (cf119, 2100, .inl g903_2)), (qf108, .inl (cf108, 8, .inl f108))] := hD
    replace hK : va_K (dC, dI) vwCl [(cf105, .int), (cf106, .int), (cf107, .int), (cf100, .int), (cf109, .int), (cf102, .int), (cf104, .int), (cf118, .int), (cf119, .int), (cf108, .int)] s := hK
    obtain ⟨hwa_3, hln_3, hre_3, hch_3_117, hch_3_120⟩ := hw
    have hfk_3_98 : z_3[98]? = some (.int v98) := (hre_3 98 (by decide) (by decide)).trans (hfk_1_98)
    have hfk_3_100 : z_3[100]? = some (.ref qf100) := (hre_3 100 (by decide) (by decide)).trans (hfk_1_100)
    have hfk_3_102 : z_3[102]? = some (.ref qf102) := (hre_3 102 (by decide) (by decide)).trans (hfk_1_102)
    have hfk_3_104 : z_3[104]? = some (.ref qf104) := (hre_3 104 (by decide) (by decide)).trans (hfk_1_104)
    have hfk_3_105 : z_3[105]? = some (.ref qf105) := (hre_3 105 (by decide) (by decide)).trans (hfk_1_105)
    have hfk_3_106 : z_3[106]? = some (.ref qf106) := (hre_3 106 (by decide) (by decide)).trans (hfk_1_106)
    have hfk_3_107 : z_3[107]? = some (.ref qf107) := (hre_3 107 (by decide) (by decide)).trans (hfk_1_107)
    have hfk_3_108 : z_3[108]? = some (.ref qf108) := (hre_3 108 (by decide) (by decide)).trans (hfk_1_108)
    have hfk_3_109 : z_3[109]? = some (.ref qf109) := (hre_3 109 (by decide) (by decide)).trans (hfk_1_109)
    have hfk_3_118 : z_3[118]? = some (.ref qf118) := (hre_3 118 (by decide) (by decide)).trans (hfk_1_118)
    have hfk_3_119 : z_3[119]? = some (.ref qf119) := (hre_3 119 (by decide) (by decide)).trans (hfk_1_119)
    have hfk_3_121 : z_3[121]? = some (.int v121) := (hre_3 121 (by decide) (by decide)).trans (hfk_1_121)
    have hfk_3_122 : z_3[122]? = some (.int v122) := (hre_3 122 (by decide) (by decide)).trans (hfk_1_122)
    have hfk_3_123 : z_3[123]? = some (.int v123) := (hre_3 123 (by decide) (by decide)).trans (hfk_1_123)
    have hfk_3_124 : z_3[124]? = some (.int v124) := (hre_3 124 (by decide) (by decide)).trans (hfk_1_124)
    have hfk_3_125 : z_3[125]? = some (.int v125) := (hre_3 125 (by decide) (by decide)).trans (hfk_1_125)
    have hrq_3 : ∀ j : Nat, j ≠ 117 → j ≠ 120 → j ≠ 121 → j ≠ 122 → j ≠ 123 → j ≠ 124 → j ≠ 125 → z_3[j]? = zs[j]? := fun j g117 g120 g121 g122 g123 g124 g125 => (hre_3 j g117 g120).trans (hrq_1 j g117 g120 g121 g122 g123 g124 g125)
    obtain ⟨rfl, hz_3⟩ := hwa_3
    rcases hz_3 with rfl | rfl
    · rw [if_pos rfl] at hsp
      refine lv_if_ne (tgt := 31) hx hb dX13_classFits_19 (by decide) (fun c_5 => (show False by revert c_5; decide).elim) (fun c_5 => ?_)
      refine lv_aload_n hx hb dX13_classFits_22 rfl (lv_at hl 1 rfl) ?_
      refine lv_iconst (v := 3) hx hb dX13_classFits_23 (by decide) ?_
      refine lv_iload_n hx hb dX13_classFits_24 rfl (lv_at hl 2 rfl) ?_
      refine lv_iconst (v := (-1)) hx hb dX13_classFits_25 (by decide) ?_
      refine lv_iconst (v := (-1)) hx hb dX13_classFits_26 (by decide) ?_
      obtain ⟨⟨u4_0, u4_1, u4_2, u4_3, u4_4⟩, hu_4, hsp⟩ := ox_bind hsp
      try dsimp only at hsp
      have hPc := hP.sub (ws' := [(h0, .inr (13, z_3))]) [1] rfl
      have hDc := hD.sub (ws' := [(h0, .inr (13, z_3))]) [1] (by decide) rfl
      have hKc := hK.sub (tys' := []) [] rfl
      have hFc := va_free (wc := [(h0, .inr (13, z_3))]) hD hS hA [1] rfl
      refine va_calli (va_runV (As := [.int 3, .int a1, .int (-1), .int (-1)]) (rest := []) ⟨hx, hb, hml, hown, hts⟩ (tm_bad l dC dI H.size h0 z_3 3 a1 (-1) (-1) v122 v123 v124 v125 nf u4_0 u4_1 u4_2 u4_3 u4_4 hln_3 hfk_3_122 hfk_3_123 hfk_3_124 hfk_3_125 hu_4) (cwV 4 hts gv_h9_63 rfl rfl rfl (by decide +kernel) ⟨Nat.le_of_ble_eq_true rfl, Nat.le_of_ble_eq_true rfl⟩) ⟨fun a U g mk q => by obtain ⟨q0, q1, qP, qK, qD⟩ := q; exact ⟨q0, q1, qP, va_K.moved (u := U) (U := U.calling g mk a) (Vm.Alike.refl U.vm) qK, qD⟩, va_recv hKc hPc (ci := 13) (q0 := 0) rfl rfl, fun U hU hW => ⟨rfl, by rw [hU], by rw [hU]; exact hPc, va_K.moved hW.alike hKc, hDc.weaken (fun _ _ _ _ => trivial)⟩⟩ rfl rfl hl.1 rfl (lv_room (Nat.le_of_ble_eq_true rfl)) dX13_classFits_27 ⟨Nat.le_of_ble_eq_true rfl, Nat.le_of_ble_eq_true rfl⟩) hS (fun q _ h => hFc q h) hFc ?_
      clear hS
      intro r_6 u t H1 locs ht hvm hw hB hz1 hk1 hS
      obtain ⟨z_4, rfl⟩ : ∃ z, z = u := ⟨_, rfl⟩
      obtain ⟨hP1, hK1, hD1⟩ := hB
      rw [ht] at hP1
      have hK1 := va_K.moved hvm.symm hK1
      try dsimp only at hw
      have hPD := va_join (wr := [(qf105, .inl (cf105, 8, .inl f105)), (qf106, .inl (cf106, 8, .inl f106)), (qf107, .inl (cf107, 96, .inl f107)), (qf100, .inl (cf100, 48000, .inl f100)), (qf109, .inl (cf109, 96, .inl f109)), (qf102, .inl (cf102, 2048, .inl f102)), (qf104, .inl (cf104, 8, .inl f104)), (qf118, .inl (cf118, 2100, .inl g903_1)), (qf119, .inl (cf119, 2100, .inl g903_2)), (qf108, .inl (cf108, 8, .inl f108))]) (w1 := [(h0, .inr (13, z_4))]) hP hD [1] [0, 2, 3, 4, 5, 6, 7, 8, 9, 10] rfl rfl (by decide) (by decide) hk1 hFc hP1 hD1
      clear hP hD
      obtain ⟨hP, hD⟩ := hPD
      replace hK := (hK.sub (tys' := [(cf105, .int), (cf106, .int), (cf107, .int), (cf100, .int), (cf109, .int), (cf102, .int), (cf104, .int), (cf118, .int), (cf119, .int), (cf108, .int)]) [0, 1, 2, 3, 4, 5, 6, 7, 8, 9] rfl).app hK1
      clear hPc hDc hKc hFc hP1 hK1 hD1 hz1 hk1 ht hvm
      generalize H1 = H at hP hS ⊢
      replace hP : va_P (dC, dI) vwCl [(qf105, .inl (cf105, 8, .inl f105)), (qf106, .inl (cf106, 8, .inl f106)), (qf107, .inl (cf107, 96, .inl f107)), (qf100, .inl (cf100, 48000, .inl f100)), (qf109, .inl (cf109, 96, .inl f109)), (qf102, .inl (cf102, 2048, .inl f102)), (qf104, .inl (cf104, 8, .inl f104)), (qf118, .inl (cf118, 2100, .inl g903_1)), (qf119, .inl (cf119, 2100, .inl g903_2)), (qf108, .inl (cf108, 8, .inl f108)), (h0, .inr (13, z_4))] H := hP
      replace hD : va_D A [(qf105, .inl (cf105, 8, .inl f105)), (qf106, .inl (cf106, 8, .inl f106)), (qf107, .inl (cf107, 96, .inl f107)), (qf100, .inl (cf100, 48000, .inl f100)), (qf109, .inl (cf109, 96, .inl f109)), (qf102, .inl (cf102, 2048, .inl f102)), (qf104, .inl (cf104, 8, .inl f104)), (qf118, .inl (cf118, 2100, .inl g903_1)), (qf119, .inl (cf119, 2100, .inl g903_2)), (qf108, .inl (cf108, 8, .inl f108)), (h0, .inr (13, z_4))] := hD
      replace hK : va_K (dC, dI) vwCl [(cf105, .int), (cf106, .int), (cf107, .int), (cf100, .int), (cf109, .int), (cf102, .int), (cf104, .int), (cf118, .int), (cf119, .int), (cf108, .int)] s := hK
      obtain ⟨hwa_4, hln_4, hre_4, hch_4_122, hch_4_123, hch_4_124, hch_4_125⟩ := hw
      have hfk_4_98 : z_4[98]? = some (.int v98) := (hre_4 98 (by decide) (by decide) (by decide) (by decide)).trans (hfk_3_98)
      have hfk_4_100 : z_4[100]? = some (.ref qf100) := (hre_4 100 (by decide) (by decide) (by decide) (by decide)).trans (hfk_3_100)
      have hfk_4_102 : z_4[102]? = some (.ref qf102) := (hre_4 102 (by decide) (by decide) (by decide) (by decide)).trans (hfk_3_102)
      have hfk_4_104 : z_4[104]? = some (.ref qf104) := (hre_4 104 (by decide) (by decide) (by decide) (by decide)).trans (hfk_3_104)
      have hfk_4_105 : z_4[105]? = some (.ref qf105) := (hre_4 105 (by decide) (by decide) (by decide) (by decide)).trans (hfk_3_105)
      have hfk_4_106 : z_4[106]? = some (.ref qf106) := (hre_4 106 (by decide) (by decide) (by decide) (by decide)).trans (hfk_3_106)
      have hfk_4_107 : z_4[107]? = some (.ref qf107) := (hre_4 107 (by decide) (by decide) (by decide) (by decide)).trans (hfk_3_107)
      have hfk_4_108 : z_4[108]? = some (.ref qf108) := (hre_4 108 (by decide) (by decide) (by decide) (by decide)).trans (hfk_3_108)
      have hfk_4_109 : z_4[109]? = some (.ref qf109) := (hre_4 109 (by decide) (by decide) (by decide) (by decide)).trans (hfk_3_109)
      have hfk_4_117 : z_4[117]? = some (.int u3_3) := (hre_4 117 (by decide) (by decide) (by decide) (by decide)).trans (hch_3_117)
      have hfk_4_118 : z_4[118]? = some (.ref qf118) := (hre_4 118 (by decide) (by decide) (by decide) (by decide)).trans (hfk_3_118)
      have hfk_4_119 : z_4[119]? = some (.ref qf119) := (hre_4 119 (by decide) (by decide) (by decide) (by decide)).trans (hfk_3_119)
      have hfk_4_120 : z_4[120]? = some (.int u3_4) := (hre_4 120 (by decide) (by decide) (by decide) (by decide)).trans (hch_3_120)
      have hfk_4_121 : z_4[121]? = some (.int v121) := (hre_4 121 (by decide) (by decide) (by decide) (by decide)).trans (hfk_3_121)
      have hrq_4 : ∀ j : Nat, j ≠ 117 → j ≠ 120 → j ≠ 121 → j ≠ 122 → j ≠ 123 → j ≠ 124 → j ≠ 125 → z_4[j]? = zs[j]? := fun j g117 g120 g121 g122 g123 g124 g125 => (hre_4 j g122 g123 g124 g125).trans (hrq_3 j g117 g120 g121 g122 g123 g124 g125)
      obtain ⟨rfl, hz_4⟩ := hwa_4
      rcases hz_4 with rfl | rfl
      · rw [if_pos rfl] at hsp
        have hr0 := Option.some.inj hsp
        clear hsp
        obtain ⟨hq0, hr1⟩ := Prod.mk.inj hr0
        clear hr0
        obtain ⟨hq1, hr2⟩ := Prod.mk.inj hr1
        clear hr1
        obtain ⟨hq2, hr3⟩ := Prod.mk.inj hr2
        clear hr2
        obtain ⟨hq3, hr4⟩ := Prod.mk.inj hr3
        clear hr3
        obtain ⟨hq4, hr5⟩ := Prod.mk.inj hr4
        clear hr4
        obtain ⟨hq5, hr6⟩ := Prod.mk.inj hr5
        clear hr5
        obtain ⟨hq6, hr7⟩ := Prod.mk.inj hr6
        clear hr6
        obtain ⟨hq7, hr8⟩ := Prod.mk.inj hr7
        clear hr7
        obtain ⟨hq8, hr9⟩ := Prod.mk.inj hr8
        clear hr8
        subst hq0
        subst hq1
        subst hq2
        subst hq3
        subst hq4
        subst hq5
        subst hq6
        subst hq7
        subst hq8
        subst hr9
        have hP9 := hP.sub (ws' := [(h0, .inr (13, z_4)), (qf105, .inl (cf105, 8, .inl f105)), (qf102, .inl (cf102, 2048, .inl f102)), (qf100, .inl (cf100, 48000, .inl f100)), (qf104, .inl (cf104, 8, .inl f104)), (qf106, .inl (cf106, 8, .inl f106)), (qf107, .inl (cf107, 96, .inl f107)), (qf109, .inl (cf109, 96, .inl f109)), (qf118, .inl (cf118, 2100, .inl g903_1)), (qf119, .inl (cf119, 2100, .inl g903_2)), (qf108, .inl (cf108, 8, .inl f108))]) [10, 0, 5, 3, 6, 1, 2, 4, 7, 8, 9] rfl
        have hD9 := hD.sub (ws' := [(h0, .inr (13, z_4)), (qf105, .inl (cf105, 8, .inl f105)), (qf102, .inl (cf102, 2048, .inl f102)), (qf100, .inl (cf100, 48000, .inl f100)), (qf104, .inl (cf104, 8, .inl f104)), (qf106, .inl (cf106, 8, .inl f106)), (qf107, .inl (cf107, 96, .inl f107)), (qf109, .inl (cf109, 96, .inl f109)), (qf118, .inl (cf118, 2100, .inl g903_1)), (qf119, .inl (cf119, 2100, .inl g903_2)), (qf108, .inl (cf108, 8, .inl f108))]) [10, 0, 5, 3, 6, 1, 2, 4, 7, 8, 9] (by decide) rfl
        have hK9 := hK.sub (tys' := [(cf105, .int), (cf102, .int), (cf100, .int), (cf104, .int), (cf106, .int), (cf107, .int), (cf109, .int), (cf118, .int), (cf119, .int), (cf108, .int)]) [0, 5, 3, 6, 1, 2, 4, 7, 8, 9] rfl
        exact W.zret hx hb hr (by decide) (fun t ht hW => ⟨⟨(0), (z_4), rfl, ⟨⟨rfl, Or.inl rfl⟩, hln_4, hrq_4, hfk_4_117, hfk_4_120, hfk_4_121, hch_4_122, hch_4_123, hch_4_124, hch_4_125⟩, by rw [ht]; exact hP9, va_K.moved hW.alike hK9, hD9⟩, hS.F ht⟩) hS.2.2 dX13_classFits_30
      · rw [if_neg (by decide)] at hsp
        have hr0 := Option.some.inj hsp
        clear hsp
        obtain ⟨hq0, hr1⟩ := Prod.mk.inj hr0
        clear hr0
        obtain ⟨hq1, hr2⟩ := Prod.mk.inj hr1
        clear hr1
        obtain ⟨hq2, hr3⟩ := Prod.mk.inj hr2
        clear hr2
        obtain ⟨hq3, hr4⟩ := Prod.mk.inj hr3
        clear hr3
        obtain ⟨hq4, hr5⟩ := Prod.mk.inj hr4
        clear hr4
        obtain ⟨hq5, hr6⟩ := Prod.mk.inj hr5
        clear hr5
        obtain ⟨hq6, hr7⟩ := Prod.mk.inj hr6
        clear hr6
        obtain ⟨hq7, hr8⟩ := Prod.mk.inj hr7
        clear hr7
        obtain ⟨hq8, hr9⟩ := Prod.mk.inj hr8
        clear hr8
        subst hq0
        subst hq1
        subst hq2
        subst hq3
        subst hq4
        subst hq5
        subst hq6
        subst hq7
        subst hq8
        subst hr9
        have hP9 := hP.sub (ws' := [(h0, .inr (13, z_4)), (qf105, .inl (cf105, 8, .inl f105)), (qf102, .inl (cf102, 2048, .inl f102)), (qf100, .inl (cf100, 48000, .inl f100)), (qf104, .inl (cf104, 8, .inl f104)), (qf106, .inl (cf106, 8, .inl f106)), (qf107, .inl (cf107, 96, .inl f107)), (qf109, .inl (cf109, 96, .inl f109)), (qf118, .inl (cf118, 2100, .inl g903_1)), (qf119, .inl (cf119, 2100, .inl g903_2)), (qf108, .inl (cf108, 8, .inl f108))]) [10, 0, 5, 3, 6, 1, 2, 4, 7, 8, 9] rfl
        have hD9 := hD.sub (ws' := [(h0, .inr (13, z_4)), (qf105, .inl (cf105, 8, .inl f105)), (qf102, .inl (cf102, 2048, .inl f102)), (qf100, .inl (cf100, 48000, .inl f100)), (qf104, .inl (cf104, 8, .inl f104)), (qf106, .inl (cf106, 8, .inl f106)), (qf107, .inl (cf107, 96, .inl f107)), (qf109, .inl (cf109, 96, .inl f109)), (qf118, .inl (cf118, 2100, .inl g903_1)), (qf119, .inl (cf119, 2100, .inl g903_2)), (qf108, .inl (cf108, 8, .inl f108))]) [10, 0, 5, 3, 6, 1, 2, 4, 7, 8, 9] (by decide) rfl
        have hK9 := hK.sub (tys' := [(cf105, .int), (cf102, .int), (cf100, .int), (cf104, .int), (cf106, .int), (cf107, .int), (cf109, .int), (cf118, .int), (cf119, .int), (cf108, .int)]) [0, 5, 3, 6, 1, 2, 4, 7, 8, 9] rfl
        exact W.zret hx hb hr (by decide) (fun t ht hW => ⟨⟨(1), (z_4), rfl, ⟨⟨rfl, Or.inr rfl⟩, hln_4, hrq_4, hfk_4_117, hfk_4_120, hfk_4_121, hch_4_122, hch_4_123, hch_4_124, hch_4_125⟩, by rw [ht]; exact hP9, va_K.moved hW.alike hK9, hD9⟩, hS.F ht⟩) hS.2.2 dX13_classFits_30
    · rw [if_neg (by decide)] at hsp
      refine lv_if_ne (tgt := 31) hx hb dX13_classFits_19 (by decide) (fun c_7 => ?_) (fun c_7 => (show False by revert c_7; decide).elim)
      refine lv_iload_n hx hb dX13_classFits_31 rfl (lv_at hl 2 rfl) ?_
      refine lv_istore_n (lv' := [(3, .int a1), (2, .int (a1 - 8)), (0, .ref h0), (1, .int a1)]) hx hb dX13_classFits_32 rfl hl (by decide) rfl (fun ls hl => ?_)
      refine lv_iconst (v := 0) hx hb dX13_classFits_33 (by decide) ?_
      refine lv_istore (lv' := [(4, .int 0), (3, .int a1), (2, .int (a1 - 8)), (0, .ref h0), (1, .int a1)]) hx hb dX13_classFits_34 hl (by decide) rfl (fun ls hl => ?_)
      replace hl : lv_has ls 8 [(4, .int 0), (3, .int a1), (2, .int (a1 - 8)), (0, .ref h0), (1, .int a1)] := lv_sub hl [0, 1, 2, 3, 4] rfl
      replace hP := hP.sub (ws' := [(h0, .inr (13, z_3)), (qf105, .inl (cf105, 8, .inl f105)), (qf102, .inl (cf102, 2048, .inl f102)), (qf100, .inl (cf100, 48000, .inl f100)), (qf104, .inl (cf104, 8, .inl f104)), (qf106, .inl (cf106, 8, .inl f106)), (qf107, .inl (cf107, 96, .inl f107)), (qf109, .inl (cf109, 96, .inl f109)), (qf118, .inl (cf118, 2100, .inl g903_1)), (qf119, .inl (cf119, 2100, .inl g903_2)), (qf108, .inl (cf108, 8, .inl f108))]) [1, 0, 6, 4, 7, 2, 3, 5, 8, 9, 10] rfl
      replace hD := hD.sub (ws' := [(h0, .inr (13, z_3)), (qf105, .inl (cf105, 8, .inl f105)), (qf102, .inl (cf102, 2048, .inl f102)), (qf100, .inl (cf100, 48000, .inl f100)), (qf104, .inl (cf104, 8, .inl f104)), (qf106, .inl (cf106, 8, .inl f106)), (qf107, .inl (cf107, 96, .inl f107)), (qf109, .inl (cf109, 96, .inl f109)), (qf118, .inl (cf118, 2100, .inl g903_1)), (qf119, .inl (cf119, 2100, .inl g903_2)), (qf108, .inl (cf108, 8, .inl f108))]) [1, 0, 6, 4, 7, 2, 3, 5, 8, 9, 10] (by decide) rfl
      replace hK := hK.sub (tys' := [(cf105, .int), (cf102, .int), (cf100, .int), (cf104, .int), (cf106, .int), (cf107, .int), (cf109, .int), (cf118, .int), (cf119, .int), (cf108, .int)]) [0, 5, 3, 6, 1, 2, 4, 7, 8, 9] rfl
      obtain ⟨n_36, hn_36⟩ : ∃ z : Nat, z = nf := ⟨_, rfl⟩
      obtain ⟨l1_36, el1_36⟩ : ∃ z : Int32, z = a1 := ⟨_, rfl⟩
      obtain ⟨l2_36, el2_36⟩ : ∃ z : Int32, z = (a1 - 8) := ⟨_, rfl⟩
      obtain ⟨l3_36, el3_36⟩ : ∃ z : Int32, z = a1 := ⟨_, rfl⟩
      obtain ⟨l4_36, el4_36⟩ : ∃ z : Int32, z = 0 := ⟨_, rfl⟩
      obtain ⟨g118_36, eg118_36⟩ : ∃ z : Nat → Int32, z = g903_1 := ⟨_, rfl⟩
      obtain ⟨g119_36, eg119_36⟩ : ∃ z : Nat → Int32, z = g903_2 := ⟨_, rfl⟩
      obtain ⟨x117_36, ex117_36⟩ : ∃ z : Int32, z = u3_3 := ⟨_, rfl⟩
      obtain ⟨x120_36, ex120_36⟩ : ∃ z : Int32, z = u3_4 := ⟨_, rfl⟩
      obtain ⟨x121_36, ex121_36⟩ : ∃ z : Int32, z = v121 := ⟨_, rfl⟩
      obtain ⟨x122_36, ex122_36⟩ : ∃ z : Int32, z = v122 := ⟨_, rfl⟩
      obtain ⟨x123_36, ex123_36⟩ : ∃ z : Int32, z = v123 := ⟨_, rfl⟩
      obtain ⟨x124_36, ex124_36⟩ : ∃ z : Int32, z = v124 := ⟨_, rfl⟩
      obtain ⟨x125_36, ex125_36⟩ : ∃ z : Int32, z = v125 := ⟨_, rfl⟩
      replace hsp : lp_vm_classFits_36 nf n_36 a1 v98 v117 v120 v121 v122 v123 v124 v125 f105 f102 f100 f104 f106 f107 f109 f118 f119 f108 nS477 fS477 l1_36 l2_36 l3_36 l4_36 g118_36 g119_36 x117_36 x120_36 x121_36 x122_36 x123_36 x124_36 x125_36 = some (r0, o118, o119, w117, w120, w121, w122, w123, w124, w125) := by rw [hn_36, el1_36, el2_36, el3_36, el4_36, eg118_36, eg119_36, ex117_36, ex120_36, ex121_36, ex122_36, ex123_36, ex124_36, ex125_36]; exact hsp
      replace hl : lv_has ls 8 [(4, .int l4_36), (3, .int l3_36), (2, .int l2_36), (0, .ref h0), (1, .int l1_36)] := by rw [el1_36, el2_36, el3_36, el4_36]; exact hl
      obtain ⟨z36, ez36⟩ : ∃ z : List Value, z = z_3 := ⟨_, rfl⟩
      have hfh_36_98 : z36[98]? = some (.int v98) := by rw [ez36]; exact hfk_3_98
      have hfh_36_100 : z36[100]? = some (.ref qf100) := by rw [ez36]; exact hfk_3_100
      have hfh_36_102 : z36[102]? = some (.ref qf102) := by rw [ez36]; exact hfk_3_102
      have hfh_36_104 : z36[104]? = some (.ref qf104) := by rw [ez36]; exact hfk_3_104
      have hfh_36_105 : z36[105]? = some (.ref qf105) := by rw [ez36]; exact hfk_3_105
      have hfh_36_106 : z36[106]? = some (.ref qf106) := by rw [ez36]; exact hfk_3_106
      have hfh_36_107 : z36[107]? = some (.ref qf107) := by rw [ez36]; exact hfk_3_107
      have hfh_36_108 : z36[108]? = some (.ref qf108) := by rw [ez36]; exact hfk_3_108
      have hfh_36_109 : z36[109]? = some (.ref qf109) := by rw [ez36]; exact hfk_3_109
      have hfh_36_117 : z36[117]? = some (.int x117_36) := by rw [ez36, ex117_36]; exact hch_3_117
      have hfh_36_118 : z36[118]? = some (.ref qf118) := by rw [ez36]; exact hfk_3_118
      have hfh_36_119 : z36[119]? = some (.ref qf119) := by rw [ez36]; exact hfk_3_119
      have hfh_36_120 : z36[120]? = some (.int x120_36) := by rw [ez36, ex120_36]; exact hch_3_120
      have hfh_36_121 : z36[121]? = some (.int x121_36) := by rw [ez36, ex121_36]; exact hfk_3_121
      have hfh_36_122 : z36[122]? = some (.int x122_36) := by rw [ez36, ex122_36]; exact hfk_3_122
      have hfh_36_123 : z36[123]? = some (.int x123_36) := by rw [ez36, ex123_36]; exact hfk_3_123
      have hfh_36_124 : z36[124]? = some (.int x124_36) := by rw [ez36, ex124_36]; exact hfk_3_124
      have hfh_36_125 : z36[125]? = some (.int x125_36) := by rw [ez36, ex125_36]; exact hfk_3_125
      have hlh_36 : z36.length = 155 := by rw [ez36]; exact hln_3
      have hrh_36 : ∀ j : Nat, j ≠ 117 → j ≠ 120 → j ≠ 121 → j ≠ 122 → j ≠ 123 → j ≠ 124 → j ≠ 125 → z36[j]? = zs[j]? := by rw [ez36]; exact hrq_3
      replace hP : va_P (dC, dI) vwCl [(h0, .inr (13, z36)), (qf105, .inl (cf105, 8, .inl f105)), (qf102, .inl (cf102, 2048, .inl f102)), (qf100, .inl (cf100, 48000, .inl f100)), (qf104, .inl (cf104, 8, .inl f104)), (qf106, .inl (cf106, 8, .inl f106)), (qf107, .inl (cf107, 96, .inl f107)), (qf109, .inl (cf109, 96, .inl f109)), (qf118, .inl (cf118, 2100, .inl g118_36)), (qf119, .inl (cf119, 2100, .inl g119_36)), (qf108, .inl (cf108, 8, .inl f108))] H := by rw [ez36, eg118_36, eg119_36]; exact hP
      replace hD : va_D A [(h0, .inr (13, z36)), (qf105, .inl (cf105, 8, .inl f105)), (qf102, .inl (cf102, 2048, .inl f102)), (qf100, .inl (cf100, 48000, .inl f100)), (qf104, .inl (cf104, 8, .inl f104)), (qf106, .inl (cf106, 8, .inl f106)), (qf107, .inl (cf107, 96, .inl f107)), (qf109, .inl (cf109, 96, .inl f109)), (qf118, .inl (cf118, 2100, .inl g118_36)), (qf119, .inl (cf119, 2100, .inl g119_36)), (qf108, .inl (cf108, 8, .inl f108))] := by rw [ez36, eg118_36, eg119_36]; exact hD
      clear hn_36 ez36 el1_36 el2_36 el3_36 el4_36 eg118_36 eg119_36 ex117_36 ex120_36 ex121_36 ex122_36 ex123_36 ex124_36 ex125_36
      try clear hlo
      try clear hH
      revert hsp
      revert hP
      revert hD
      revert hS
      revert hl
      revert hrh_36
      revert hlh_36
      revert hfh_36_125
      revert hfh_36_124
      revert hfh_36_123
      revert hfh_36_122
      revert hfh_36_121
      revert hfh_36_120
      revert hfh_36_119
      revert hfh_36_118
      revert hfh_36_117
      revert hfh_36_109
      revert hfh_36_108
      revert hfh_36_107
      revert hfh_36_106
      revert hfh_36_105
      revert hfh_36_104
      revert hfh_36_102
      revert hfh_36_100
      revert hfh_36_98
      revert x125_36
      revert x124_36
      revert x123_36
      revert x122_36
      revert x121_36
      revert x120_36
      revert x117_36
      revert g119_36
      revert g118_36
      revert l4_36
      revert l3_36
      revert l2_36
      revert l1_36
      revert z36
      revert ls
      revert locs
      revert H
      induction n_36 with
      | zero => intro H locs ls z36 l1_36 l2_36 l3_36 l4_36 g118_36 g119_36 x117_36 x120_36 x121_36 x122_36 x123_36 x124_36 x125_36 hfh_36_98 hfh_36_100 hfh_36_102 hfh_36_104 hfh_36_105 hfh_36_106 hfh_36_107 hfh_36_108 hfh_36_109 hfh_36_117 hfh_36_118 hfh_36_119 hfh_36_120 hfh_36_121 hfh_36_122 hfh_36_123 hfh_36_124 hfh_36_125 hlh_36 hrh_36 hl hS hD hP hsp; unfold lp_vm_classFits_36 at hsp; cases hsp
      | succ n_36 ih_36 =>
        intro H locs ls z36 l1_36 l2_36 l3_36 l4_36 g118_36 g119_36 x117_36 x120_36 x121_36 x122_36 x123_36 x124_36 x125_36 hfh_36_98 hfh_36_100 hfh_36_102 hfh_36_104 hfh_36_105 hfh_36_106 hfh_36_107 hfh_36_108 hfh_36_109 hfh_36_117 hfh_36_118 hfh_36_119 hfh_36_120 hfh_36_121 hfh_36_122 hfh_36_123 hfh_36_124 hfh_36_125 hlh_36 hrh_36 hl hS hD hP hsp
        unfold lp_vm_classFits_36 at hsp
        try dsimp only at hsp
        refine lv_iload hx hb dX13_classFits_36 (lv_at hl 0 rfl) ?_
        refine lv_bipush (v := 16) hx hb dX13_classFits_38 (by decide) ?_
        refine lv_icmp_gt (tgt := 60) hx hb dX13_classFits_40 (by decide) (fun c_8 => ?_) (fun c_8 => ?_)
        · rw [if_pos c_8] at hsp
          exact hj_60 (H, locs, ls, z36, l1_36, l2_36, l3_36, g118_36, g119_36, x117_36, x120_36, x121_36, x122_36, x123_36, x124_36, x125_36) ⟨lv_sub hl [3, 4, 2, 1] rfl, hS, hD.sub (ws' := [(h0, .inr (13, z36)), (qf105, .inl (cf105, 8, .inl f105)), (qf102, .inl (cf102, 2048, .inl f102)), (qf100, .inl (cf100, 48000, .inl f100)), (qf104, .inl (cf104, 8, .inl f104)), (qf106, .inl (cf106, 8, .inl f106)), (qf107, .inl (cf107, 96, .inl f107)), (qf109, .inl (cf109, 96, .inl f109)), (qf118, .inl (cf118, 2100, .inl g118_36)), (qf119, .inl (cf119, 2100, .inl g119_36)), (qf108, .inl (cf108, 8, .inl f108))]) [0, 1, 2, 3, 4, 5, 6, 7, 8, 9, 10] (by decide) rfl, hP.sub (ws' := [(h0, .inr (13, z36)), (qf105, .inl (cf105, 8, .inl f105)), (qf102, .inl (cf102, 2048, .inl f102)), (qf100, .inl (cf100, 48000, .inl f100)), (qf104, .inl (cf104, 8, .inl f104)), (qf106, .inl (cf106, 8, .inl f106)), (qf107, .inl (cf107, 96, .inl f107)), (qf109, .inl (cf109, 96, .inl f109)), (qf118, .inl (cf118, 2100, .inl g118_36)), (qf119, .inl (cf119, 2100, .inl g119_36)), (qf108, .inl (cf108, 8, .inl f108))]) [0, 1, 2, 3, 4, 5, 6, 7, 8, 9, 10] rfl, hfh_36_98, hfh_36_100, hfh_36_102, hfh_36_104, hfh_36_105, hfh_36_106, hfh_36_107, hfh_36_108, hfh_36_109, hfh_36_117, hfh_36_118, hfh_36_119, hfh_36_120, hfh_36_121, hfh_36_122, hfh_36_123, hfh_36_124, hfh_36_125, hlh_36, hrh_36, hsp⟩
        · rw [if_neg c_8] at hsp
          refine lv_iload_n hx hb dX13_classFits_43 rfl (lv_at hl 1 rfl) ?_
          refine lv_iconst (v := (-1)) hx hb dX13_classFits_44 (by decide) ?_
          refine lv_icmp_eq (tgt := 60) hx hb dX13_classFits_45 (by decide) (fun c_9 => ?_) (fun c_9 => ?_)
          · rw [if_pos c_9] at hsp
            exact hj_60 (H, locs, ls, z36, l1_36, l2_36, l3_36, g118_36, g119_36, x117_36, x120_36, x121_36, x122_36, x123_36, x124_36, x125_36) ⟨lv_sub hl [3, 4, 2, 1] rfl, hS, hD.sub (ws' := [(h0, .inr (13, z36)), (qf105, .inl (cf105, 8, .inl f105)), (qf102, .inl (cf102, 2048, .inl f102)), (qf100, .inl (cf100, 48000, .inl f100)), (qf104, .inl (cf104, 8, .inl f104)), (qf106, .inl (cf106, 8, .inl f106)), (qf107, .inl (cf107, 96, .inl f107)), (qf109, .inl (cf109, 96, .inl f109)), (qf118, .inl (cf118, 2100, .inl g118_36)), (qf119, .inl (cf119, 2100, .inl g119_36)), (qf108, .inl (cf108, 8, .inl f108))]) [0, 1, 2, 3, 4, 5, 6, 7, 8, 9, 10] (by decide) rfl, hP.sub (ws' := [(h0, .inr (13, z36)), (qf105, .inl (cf105, 8, .inl f105)), (qf102, .inl (cf102, 2048, .inl f102)), (qf100, .inl (cf100, 48000, .inl f100)), (qf104, .inl (cf104, 8, .inl f104)), (qf106, .inl (cf106, 8, .inl f106)), (qf107, .inl (cf107, 96, .inl f107)), (qf109, .inl (cf109, 96, .inl f109)), (qf118, .inl (cf118, 2100, .inl g118_36)), (qf119, .inl (cf119, 2100, .inl g119_36)), (qf108, .inl (cf108, 8, .inl f108))]) [0, 1, 2, 3, 4, 5, 6, 7, 8, 9, 10] rfl, hfh_36_98, hfh_36_100, hfh_36_102, hfh_36_104, hfh_36_105, hfh_36_106, hfh_36_107, hfh_36_108, hfh_36_109, hfh_36_117, hfh_36_118, hfh_36_119, hfh_36_120, hfh_36_121, hfh_36_122, hfh_36_123, hfh_36_124, hfh_36_125, hlh_36, hrh_36, hsp⟩
          · rw [if_neg c_9] at hsp
            refine lv_aload_n hx hb dX13_classFits_48 rfl (lv_at hl 3 rfl) ?_
            refine lv_iload_n hx hb dX13_classFits_49 rfl (lv_at hl 1 rfl) ?_
            obtain ⟨u5_0, hu_5, hsp⟩ := ox_bind hsp
            try dsimp only at hsp
            have hPc := hP.sub (ws' := [(h0, .inr (13, z36)), (qf105, .inl (cf105, 8, .inl f105)), (qf102, .inl (cf102, 2048, .inl f102)), (qf100, .inl (cf100, 48000, .inl f100)), (qf104, .inl (cf104, 8, .inl f104))]) [0, 1, 2, 3, 4] rfl
            have hDc := hD.sub (ws' := [(h0, .inr (13, z36)), (qf105, .inl (cf105, 8, .inl f105)), (qf102, .inl (cf102, 2048, .inl f102)), (qf100, .inl (cf100, 48000, .inl f100)), (qf104, .inl (cf104, 8, .inl f104))]) [0, 1, 2, 3, 4] (by decide) rfl
            have hKc := hK.sub (tys' := [(cf105, .int), (cf102, .int), (cf100, .int), (cf104, .int)]) [0, 1, 2, 3] rfl
            have hFc := va_free (wc := [(h0, .inr (13, z36)), (qf105, .inl (cf105, 8, .inl f105)), (qf102, .inl (cf102, 2048, .inl f102)), (qf100, .inl (cf100, 48000, .inl f100)), (qf104, .inl (cf104, 8, .inl f104))]) hD hS hA [0, 1, 2, 3, 4] rfl
            refine va_calli (va_runV (As := [.int l3_36]) (rest := []) ⟨hx, hb, hml, hown, hts⟩ (vm_superOf l dC dI H.size h0 z36 l3_36 v98 qf100 qf102 qf104 qf105 cf105 f105 cf102 f102 cf100 f100 cf104 f104 nS477 fS477 hS477 qS477 tS477 nf u5_0 hlh_36 hfh_36_98 hfh_36_100 hfh_36_102 hfh_36_104 hfh_36_105 hu_5) (cwV 1 hts gv_h9_98 rfl rfl rfl (by decide +kernel) ⟨Nat.le_of_ble_eq_true rfl, Nat.le_of_ble_eq_true rfl⟩) ⟨fun a U g mk q => by obtain ⟨q0, q1, qP, qK, qD, qhZWS477, qhZRS477⟩ := q; exact ⟨q0, q1, qP, va_K.moved (u := U) (U := U.calling g mk a) (Vm.Alike.refl U.vm) qK, qD, pz_W.moved (u := U) (U := U.calling g mk a) (Vm.Alike.refl U.vm) qhZWS477, vk_R.same rfl qhZRS477⟩, va_recv hKc hPc (ci := 13) (q0 := 0) rfl rfl, fun U hU hW => ⟨rfl, by rw [hU], by rw [hU]; exact hPc, va_K.moved hW.alike hKc, hDc.weaken (fun _ _ _ _ => trivial), by rw [hU]; exact ((pz_W.moved hW.alike hZWS477).kept hS.2.1).narrow hFc, vk_R.warm hW hZRS477⟩⟩ rfl rfl hl.1 rfl (lv_room (Nat.le_of_ble_eq_true rfl)) dX13_classFits_50 ⟨Nat.le_of_ble_eq_true rfl, Nat.le_of_ble_eq_true rfl⟩) hS (fun q _ h => hFc q h) hFc ?_
            clear hS
            intro r_10 u t H1 locs ht hvm hw hB hz1 hk1 hS
            obtain ⟨z_5, rfl⟩ : ∃ z, z = u := ⟨_, rfl⟩
            obtain ⟨hP1, hK1, hD1⟩ := hB
            rw [ht] at hP1
            have hK1 := va_K.moved hvm.symm hK1
            try dsimp only at hw
            have hPD := va_join (wr := [(qf106, .inl (cf106, 8, .inl f106)), (qf107, .inl (cf107, 96, .inl f107)), (qf109, .inl (cf109, 96, .inl f109)), (qf118, .inl (cf118, 2100, .inl g118_36)), (qf119, .inl (cf119, 2100, .inl g119_36)), (qf108, .inl (cf108, 8, .inl f108))]) (w1 := [(h0, .inr (13, z_5)), (qf105, .inl (cf105, 8, .inl f105)), (qf102, .inl (cf102, 2048, .inl f102)), (qf100, .inl (cf100, 48000, .inl f100)), (qf104, .inl (cf104, 8, .inl f104))]) hP hD [0, 1, 2, 3, 4] [5, 6, 7, 8, 9, 10] rfl rfl (by decide) (by decide) hk1 hFc hP1 hD1
            clear hP hD
            obtain ⟨hP, hD⟩ := hPD
            replace hK := (hK.sub (tys' := [(cf106, .int), (cf107, .int), (cf109, .int), (cf118, .int), (cf119, .int), (cf108, .int)]) [4, 5, 6, 7, 8, 9] rfl).app hK1
            clear hPc hDc hKc hFc hP1 hK1 hD1 hz1 hk1 ht hvm
            generalize H1 = H at hP hS ⊢
            replace hP : va_P (dC, dI) vwCl [(qf106, .inl (cf106, 8, .inl f106)), (qf107, .inl (cf107, 96, .inl f107)), (qf109, .inl (cf109, 96, .inl f109)), (qf118, .inl (cf118, 2100, .inl g118_36)), (qf119, .inl (cf119, 2100, .inl g119_36)), (qf108, .inl (cf108, 8, .inl f108)), (h0, .inr (13, z_5)), (qf105, .inl (cf105, 8, .inl f105)), (qf102, .inl (cf102, 2048, .inl f102)), (qf100, .inl (cf100, 48000, .inl f100)), (qf104, .inl (cf104, 8, .inl f104))] H := hP
            replace hD : va_D A [(qf106, .inl (cf106, 8, .inl f106)), (qf107, .inl (cf107, 96, .inl f107)), (qf109, .inl (cf109, 96, .inl f109)), (qf118, .inl (cf118, 2100, .inl g118_36)), (qf119, .inl (cf119, 2100, .inl g119_36)), (qf108, .inl (cf108, 8, .inl f108)), (h0, .inr (13, z_5)), (qf105, .inl (cf105, 8, .inl f105)), (qf102, .inl (cf102, 2048, .inl f102)), (qf100, .inl (cf100, 48000, .inl f100)), (qf104, .inl (cf104, 8, .inl f104))] := hD
            replace hK : va_K (dC, dI) vwCl [(cf106, .int), (cf107, .int), (cf109, .int), (cf118, .int), (cf119, .int), (cf108, .int), (cf105, .int), (cf102, .int), (cf100, .int), (cf104, .int)] s := hK
            obtain ⟨hwa_5, hln_5, hre_5⟩ := hw
            have hfk_5_98 : z_5[98]? = some (.int v98) := (hre_5 98 ).trans (hfh_36_98)
            have hfk_5_100 : z_5[100]? = some (.ref qf100) := (hre_5 100 ).trans (hfh_36_100)
            have hfk_5_102 : z_5[102]? = some (.ref qf102) := (hre_5 102 ).trans (hfh_36_102)
            have hfk_5_104 : z_5[104]? = some (.ref qf104) := (hre_5 104 ).trans (hfh_36_104)
            have hfk_5_105 : z_5[105]? = some (.ref qf105) := (hre_5 105 ).trans (hfh_36_105)
            have hfk_5_106 : z_5[106]? = some (.ref qf106) := (hre_5 106 ).trans (hfh_36_106)
            have hfk_5_107 : z_5[107]? = some (.ref qf107) := (hre_5 107 ).trans (hfh_36_107)
            have hfk_5_108 : z_5[108]? = some (.ref qf108) := (hre_5 108 ).trans (hfh_36_108)
            have hfk_5_109 : z_5[109]? = some (.ref qf109) := (hre_5 109 ).trans (hfh_36_109)
            have hfk_5_117 : z_5[117]? = some (.int x117_36) := (hre_5 117 ).trans (hfh_36_117)
            have hfk_5_118 : z_5[118]? = some (.ref qf118) := (hre_5 118 ).trans (hfh_36_118)
            have hfk_5_119 : z_5[119]? = some (.ref qf119) := (hre_5 119 ).trans (hfh_36_119)
            have hfk_5_120 : z_5[120]? = some (.int x120_36) := (hre_5 120 ).trans (hfh_36_120)
            have hfk_5_121 : z_5[121]? = some (.int x121_36) := (hre_5 121 ).trans (hfh_36_121)
            have hfk_5_122 : z_5[122]? = some (.int x122_36) := (hre_5 122 ).trans (hfh_36_122)
            have hfk_5_123 : z_5[123]? = some (.int x123_36) := (hre_5 123 ).trans (hfh_36_123)
            have hfk_5_124 : z_5[124]? = some (.int x124_36) := (hre_5 124 ).trans (hfh_36_124)
            have hfk_5_125 : z_5[125]? = some (.int x125_36) := (hre_5 125 ).trans (hfh_36_125)
            have hrq_5 : ∀ j : Nat, j ≠ 117 → j ≠ 120 → j ≠ 121 → j ≠ 122 → j ≠ 123 → j ≠ 124 → j ≠ 125 → z_5[j]? = zs[j]? := fun j g117 g120 g121 g122 g123 g124 g125 => (hre_5 j ).trans (hrh_36 j g117 g120 g121 g122 g123 g124 g125)
            obtain rfl := hwa_5
            refine lv_istore_n (lv' := [(3, .int u5_0), (4, .int l4_36), (2, .int l2_36), (0, .ref h0), (1, .int l1_36)]) hx hb dX13_classFits_53 rfl hl (by decide) rfl (fun ls hl => ?_)
            refine lv_iinc (v := (l4_36 + 1)) (lv' := [(4, .int (l4_36 + 1)), (3, .int u5_0), (2, .int l2_36), (0, .ref h0), (1, .int l1_36)]) hx hb dX13_classFits_54 hl (k := 1) rfl rfl (by decide) rfl (fun ls hl => ?_)
            refine lv_goto (tgt := 36) hx hb dX13_classFits_57 (by decide) ?_
            exact ih_36 H locs ls z_5 l1_36 l2_36 u5_0 (l4_36 + 1) g118_36 g119_36 x117_36 x120_36 x121_36 x122_36 x123_36 x124_36 x125_36 (hfk_5_98) (hfk_5_100) (hfk_5_102) (hfk_5_104) (hfk_5_105) (hfk_5_106) (hfk_5_107) (hfk_5_108) (hfk_5_109) (hfk_5_117) (hfk_5_118) (hfk_5_119) (hfk_5_120) (hfk_5_121) (hfk_5_122) (hfk_5_123) (hfk_5_124) (hfk_5_125) hln_5 hrq_5 (lv_sub hl [0, 1, 2, 3, 4] rfl) hS (hD.sub (ws' := [(h0, .inr (13, z_5)), (qf105, .inl (cf105, 8, .inl f105)), (qf102, .inl (cf102, 2048, .inl f102)), (qf100, .inl (cf100, 48000, .inl f100)), (qf104, .inl (cf104, 8, .inl f104)), (qf106, .inl (cf106, 8, .inl f106)), (qf107, .inl (cf107, 96, .inl f107)), (qf109, .inl (cf109, 96, .inl f109)), (qf118, .inl (cf118, 2100, .inl g118_36)), (qf119, .inl (cf119, 2100, .inl g119_36)), (qf108, .inl (cf108, 8, .inl f108))]) [6, 7, 8, 9, 10, 0, 1, 2, 3, 4, 5] (by decide) rfl) (hP.sub (ws' := [(h0, .inr (13, z_5)), (qf105, .inl (cf105, 8, .inl f105)), (qf102, .inl (cf102, 2048, .inl f102)), (qf100, .inl (cf100, 48000, .inl f100)), (qf104, .inl (cf104, 8, .inl f104)), (qf106, .inl (cf106, 8, .inl f106)), (qf107, .inl (cf107, 96, .inl f107)), (qf109, .inl (cf109, 96, .inl f109)), (qf118, .inl (cf118, 2100, .inl g118_36)), (qf119, .inl (cf119, 2100, .inl g119_36)), (qf108, .inl (cf108, 8, .inl f108))]) [6, 7, 8, 9, 10, 0, 1, 2, 3, 4, 5] rfl) hsp
def sp_vm_framed (nf : Nat) (a1 : Int32) (v98 : Int32) (v117 : Int32) (v120 : Int32) (v132 : Int32) (f100 : Nat → Int32) (f102 : Nat → Int32) (f104 : Nat → Int32) (f118 : Nat → Int32) (f119 : Nat → Int32) (nS477 : Nat) (fS477 : Nat → Int32) : Option (Int32 × (Nat → Int32) × (Nat → Int32) × Int32 × Int32) := ((sp_tm_byteAt nf v132 a1 f100).bind (fun p1 => (if 3 ≤ p1 then ((sp_tm_byteAt nf v132 (a1 + 1) f100).bind (fun p2 => ((sp_vm_typeOfClass nf v132 p2 v98 v117 v120 f102 f100 f104 f118 f119 nS477 fS477).bind (fun p3 => (some (p3.1, p3.2.1, p3.2.2.1, p3.2.2.2.1, p3.2.2.2.2)))))) else ((sp_tm_byteAt nf v132 a1 f100).bind (fun p4 => (some (p4, f118, f119, v117, v120)))))))

set_option maxHeartbeats 4000000 in
set_option maxRecDepth 100000 in
/-- ClassMillModel.kindsAreThere -/
theorem vm_kindsAreThere (l : Launch) (dC : Nat → ClassId) (dI : Nat → Nat → Nat) (sz : Nat) (h0 : Nat) (zs : (List Value)) (a1 : Int32) (v98 : Int32) (qf100 : Nat) (qf102 : Nat) (qf104 : Nat) (qf106 : Nat) (qf107 : Nat) (qf108 : Nat) (qf109 : Nat) (v117 : Int32) (qf118 : Nat) (qf119 : Nat) (v120 : Int32) (cf106 : ClassId) (f106 : (Nat → Int32)) (cf107 : ClassId) (f107 : (Nat → Int32)) (cf100 : ClassId) (f100 : (Nat → Int32)) (cf109 : ClassId) (f109 : (Nat → Int32)) (cf102 : ClassId) (f102 : (Nat → Int32)) (cf104 : ClassId) (f104 : (Nat → Int32)) (cf118 : ClassId) (f118 : (Nat → Int32)) (cf119 : ClassId) (f119 : (Nat → Int32)) (cf108 : ClassId) (f108 : (Nat → Int32)) (nS477 : Nat) (fS477 : (Nat → Int32)) (hS477 : Nat) (qS477 : Nat) (tS477 : String) (nf : Nat) (r0 : Int32) (o118 : (Nat → Int32)) (o119 : (Nat → Int32)) (w117 : Int32) (w120 : Int32) (hlen : zs.length = 155) (hf98 : zs[98]? = some (.int v98)) (hf100 : zs[100]? = some (.ref qf100)) (hf102 : zs[102]? = some (.ref qf102)) (hf104 : zs[104]? = some (.ref qf104)) (hf106 : zs[106]? = some (.ref qf106)) (hf107 : zs[107]? = some (.ref qf107)) (hf108 : zs[108]? = some (.ref qf108)) (hf109 : zs[109]? = some (.ref qf109)) (hf117 : zs[117]? = some (.int v117)) (hf118 : zs[118]? = some (.ref qf118)) (hf119 : zs[119]? = some (.ref qf119)) (hf120 : zs[120]? = some (.int v120)) (hsp : sp_vm_kindsAreThere nf a1 v98 v117 v120 f106 f107 f100 f109 f102 f104 f118 f119 f108 nS477 fS477 = some (r0, o118, o119, w117, w120)) : Met l yX13_kindsAreThere (.code yX13_kindsAreThere cX13_kindsAreThere 5 (some .boolean) :: VS_h9) ({ frames := 9, cells := 0, slots := 0, locals := 209 }) (va_Pc [.ref h0, .int a1] (fun U => U.heap.size = sz ∧ va_P (dC, dI) vwCl [(h0, .inr (13, zs)), (qf106, .inl (cf106, 8, .inl f106)), (qf107, .inl (cf107, 96, .inl f107)), (qf100, .inl (cf100, 48000, .inl f100)), (qf109, .inl (cf109, 96, .inl f109)), (qf102, .inl (cf102, 2048, .inl f102)), (qf104, .inl (cf104, 8, .inl f104)), (qf118, .inl (cf118, 2100, .inl f118)), (qf119, .inl (cf119, 2100, .inl f119)), (qf108, .inl (cf108, 8, .inl f108))] U.heap ∧ va_K (dC, dI) vwCl [(cf106, .int), (cf107, .int), (cf100, .int), (cf109, .int), (cf102, .int), (cf104, .int), (cf118, .int), (cf119, .int), (cf108, .int)] U ∧ va_D (fun _ => True) [(h0, .inr (13, zs)), (qf106, .inl (cf106, 8, .inl f106)), (qf107, .inl (cf107, 96, .inl f107)), (qf100, .inl (cf100, 48000, .inl f100)), (qf109, .inl (cf109, 96, .inl f109)), (qf102, .inl (cf102, 2048, .inl f102)), (qf104, .inl (cf104, 8, .inl f104)), (qf118, .inl (cf118, 2100, .inl f118)), (qf119, .inl (cf119, 2100, .inl f119)), (qf108, .inl (cf108, 8, .inl f108))] ∧ pz_W nS477 fS477 hS477 qS477 (va_A [(h0, .inr (13, zs)), (qf106, .inl (cf106, 8, .inl f106)), (qf107, .inl (cf107, 96, .inl f107)), (qf100, .inl (cf100, 48000, .inl f100)), (qf109, .inl (cf109, 96, .inl f109)), (qf102, .inl (cf102, 2048, .inl f102)), (qf104, .inl (cf104, 8, .inl f104)), (qf118, .inl (cf118, 2100, .inl f118)), (qf119, .inl (cf119, 2100, .inl f119)), (qf108, .inl (cf108, 8, .inl f108))] sz) U U.heap ∧ vk_R RX13 477 tS477 hS477 U)) (va_Qi (fun (r : Int32) (u : (List Value)) => match u with | (zo1) => (r0 = r ∧ (r0 = 0 ∨ r0 = 1)) ∧ zo1.length = 155 ∧ (∀ j : Nat, j ≠ 117 → j ≠ 120 → zo1[j]? = zs[j]?) ∧ zo1[117]? = some (.int w117) ∧ zo1[120]? = some (.int w120)) (fun (u : (List Value)) (t : State) => match u with | (zo1) => va_P (dC, dI) vwCl [(h0, .inr (13, zo1)), (qf106, .inl (cf106, 8, .inl f106)), (qf107, .inl (cf107, 96, .inl f107)), (qf100, .inl (cf100, 48000, .inl f100)), (qf109, .inl (cf109, 96, .inl f109)), (qf102, .inl (cf102, 2048, .inl f102)), (qf104, .inl (cf104, 8, .inl f104)), (qf118, .inl (cf118, 2100, .inl o118)), (qf119, .inl (cf119, 2100, .inl o119)), (qf108, .inl (cf108, 8, .inl f108))] t.heap ∧ va_K (dC, dI) vwCl [(cf106, .int), (cf107, .int), (cf100, .int), (cf109, .int), (cf102, .int), (cf104, .int), (cf118, .int), (cf119, .int), (cf108, .int)] t ∧ va_D (va_A [(h0, .inr (13, zs)), (qf106, .inl (cf106, 8, .inl f106)), (qf107, .inl (cf107, 96, .inl f107)), (qf100, .inl (cf100, 48000, .inl f100)), (qf109, .inl (cf109, 96, .inl f109)), (qf102, .inl (cf102, 2048, .inl f102)), (qf104, .inl (cf104, 8, .inl f104)), (qf118, .inl (cf118, 2100, .inl f118)), (qf119, .inl (cf119, 2100, .inl f119)), (qf108, .inl (cf108, 8, .inl f108))] sz) [(h0, .inr (13, zo1)), (qf106, .inl (cf106, 8, .inl f106)), (qf107, .inl (cf107, 96, .inl f107)), (qf100, .inl (cf100, 48000, .inl f100)), (qf109, .inl (cf109, 96, .inl f109)), (qf102, .inl (cf102, 2048, .inl f102)), (qf104, .inl (cf104, 8, .inl f104)), (qf118, .inl (cf118, 2100, .inl o118)), (qf119, .inl (cf119, 2100, .inl o119)), (qf108, .inl (cf108, 8, .inl f108))]) (va_A [(h0, .inr (13, zs)), (qf106, .inl (cf106, 8, .inl f106)), (qf107, .inl (cf107, 96, .inl f107)), (qf100, .inl (cf100, 48000, .inl f100)), (qf109, .inl (cf109, 96, .inl f109)), (qf102, .inl (cf102, 2048, .inl f102)), (qf104, .inl (cf104, 8, .inl f104)), (qf118, .inl (cf118, 2100, .inl f118)), (qf119, .inl (cf119, 2100, .inl f119)), (qf108, .inl (cf108, 8, .inl f108))] sz)) 0 0 (va_A [(h0, .inr (13, zs)), (qf106, .inl (cf106, 8, .inl f106)), (qf107, .inl (cf107, 96, .inl f107)), (qf100, .inl (cf100, 48000, .inl f100)), (qf109, .inl (cf109, 96, .inl f109)), (qf102, .inl (cf102, 2048, .inl f102)), (qf104, .inl (cf104, 8, .inl f104)), (qf118, .inl (cf118, 2100, .inl f118)), (qf119, .inl (cf119, 2100, .inl f119)), (qf108, .inl (cf108, 8, .inl f108))] sz) := by
  refine Met.ofW (cc := cX13_kindsAreThere) (maxL := 5) (ret := (some .boolean)) (by decide) rfl ?_
  intro p e s m args below meth c s₁ B hml hv
  obtain ⟨rfl, hsz, hP, hK, hD0, hZWS477, hZRS477⟩ := hv
  have hx := B.exec
  have hb := B.bytes
  have hr := B.returns
  have hts := atoms_spec (ws := (.code yX13_kindsAreThere cX13_kindsAreThere 5 (some .boolean) :: VS_h9)) B.pre
  replace hts := fun w (h : w ∈ VS_h9) => hts w (List.mem_cons_of_mem _ h)
  have hown : s.vm.findClass RX13 = some m.cls := findClass_of_methodNamed B.named
  have hlocks := B.notSynchronized
  subst hsz
  have hD := hD0.self (sz := s.heap.size)
  generalize hAe : va_A [(h0, .inr (13, zs)), (qf106, .inl (cf106, 8, .inl f106)), (qf107, .inl (cf107, 96, .inl f107)), (qf100, .inl (cf100, 48000, .inl f100)), (qf109, .inl (cf109, 96, .inl f109)), (qf102, .inl (cf102, 2048, .inl f102)), (qf104, .inl (cf104, 8, .inl f104)), (qf118, .inl (cf118, 2100, .inl f118)), (qf119, .inl (cf119, 2100, .inl f119)), (qf108, .inl (cf108, 8, .inl f108))] s.heap.size = A at hD hZWS477 ⊢
  have hA : ∀ q : Nat, s.heap.size ≤ q → A q := fun q h => by rw [← hAe]; exact Or.inr h
  have hP : va_P (dC, dI) vwCl [(h0, .inr (13, zs)), (qf106, .inl (cf106, 8, .inl f106)), (qf107, .inl (cf107, 96, .inl f107)), (qf100, .inl (cf100, 48000, .inl f100)), (qf109, .inl (cf109, 96, .inl f109)), (qf102, .inl (cf102, 2048, .inl f102)), (qf104, .inl (cf104, 8, .inl f104)), (qf118, .inl (cf118, 2100, .inl f118)), (qf119, .inl (cf119, 2100, .inl f119)), (qf108, .inl (cf108, 8, .inl f108))] s.heap := hP
  have hl := lv_entry ([.ref h0, .int a1]) (n := 5) (Nat.le_of_ble_eq_true rfl)
  rw [lg_entry_eq]
  generalize (lg_sl ([.ref h0, .int a1]) ++ List.replicate (5 - (lg_sl ([.ref h0, .int a1])).length) Slot.unset).toArray = ls at hl ⊢
  have hl : lv_has ls 5 [(0, .ref h0), (1, .int a1)] := hl
  obtain ⟨H, hH⟩ : ∃ H : Heap, s.heap = H := ⟨_, rfl⟩
  rw [hH] at hP ⊢
  have hS : va_S A s.heap H [] := by rw [← hH]; exact va_S.rf
  obtain ⟨locs, hlo⟩ : ∃ locs : List Loc, locs = [] := ⟨_, rfl⟩
  rw [← hlo] at hS ⊢
  have hrs0 : ∀ j : Nat, j ≠ 117 → j ≠ 120 → zs[j]? = zs[j]? := fun _ _ _  => rfl
  unfold sp_vm_kindsAreThere at hsp
  refine jn_use (α := Heap × List Loc × Array Slot × List Value × Int32 × Int32 × (Nat → Int32) × (Nat → Int32) × Int32 × Int32) (fun x9 => x9.1) (fun x9 => x9.2.1) (fun x9 => F0 m 40 x9.2.2.1 []) (fun x9 => match x9 with | (H, locs, ls, z40, l1_40, l2_40, g118_40, g119_40, x117_40, x120_40) => lv_has ls 5 [(0, .ref h0), (1, .int l1_40), (2, .int l2_40)] ∧ va_S A s.heap H locs ∧ va_D A [(h0, .inr (13, z40)), (qf106, .inl (cf106, 8, .inl f106)), (qf107, .inl (cf107, 96, .inl f107)), (qf100, .inl (cf100, 48000, .inl f100)), (qf109, .inl (cf109, 96, .inl f109)), (qf102, .inl (cf102, 2048, .inl f102)), (qf104, .inl (cf104, 8, .inl f104)), (qf118, .inl (cf118, 2100, .inl g118_40)), (qf119, .inl (cf119, 2100, .inl g119_40)), (qf108, .inl (cf108, 8, .inl f108))] ∧ va_P (dC, dI) vwCl [(h0, .inr (13, z40)), (qf106, .inl (cf106, 8, .inl f106)), (qf107, .inl (cf107, 96, .inl f107)), (qf100, .inl (cf100, 48000, .inl f100)), (qf109, .inl (cf109, 96, .inl f109)), (qf102, .inl (cf102, 2048, .inl f102)), (qf104, .inl (cf104, 8, .inl f104)), (qf118, .inl (cf118, 2100, .inl g118_40)), (qf119, .inl (cf119, 2100, .inl g119_40)), (qf108, .inl (cf108, 8, .inl f108))] H ∧ z40[98]? = some (.int v98) ∧ z40[100]? = some (.ref qf100) ∧ z40[102]? = some (.ref qf102) ∧ z40[104]? = some (.ref qf104) ∧ z40[106]? = some (.ref qf106) ∧ z40[107]? = some (.ref qf107) ∧ z40[108]? = some (.ref qf108) ∧ z40[109]? = some (.ref qf109) ∧ z40[117]? = some (.int x117_40) ∧ z40[118]? = some (.ref qf118) ∧ z40[119]? = some (.ref qf119) ∧ z40[120]? = some (.int x120_40) ∧ z40.length = 155 ∧ (∀ j : Nat, j ≠ 117 → j ≠ 120 → z40[j]? = zs[j]?) ∧ jn_vm_kindsAreThere_40 nf a1 v98 v117 v120 f106 f107 f100 f109 f102 f104 f118 f119 f108 nS477 fS477 l1_40 l2_40 g118_40 g119_40 x117_40 x120_40 = some (r0, o118, o119, w117, w120)) ?_ ?_
  · intro x9 hJ9
    obtain ⟨H, locs, ls, z40, l1_40, l2_40, g118_40, g119_40, x117_40, x120_40⟩ := x9
    obtain ⟨hl, hS, hD, hP, hfh_40_98, hfh_40_100, hfh_40_102, hfh_40_104, hfh_40_106, hfh_40_107, hfh_40_108, hfh_40_109, hfh_40_117, hfh_40_118, hfh_40_119, hfh_40_120, hlh_40, hrh_40, hsp⟩ := hJ9
    replace hl : lv_has ls 5 [(0, .ref h0), (1, .int l1_40), (2, .int l2_40)] := hl
    replace hS : va_S A s.heap H locs := hS
    replace hD : va_D A [(h0, .inr (13, z40)), (qf106, .inl (cf106, 8, .inl f106)), (qf107, .inl (cf107, 96, .inl f107)), (qf100, .inl (cf100, 48000, .inl f100)), (qf109, .inl (cf109, 96, .inl f109)), (qf102, .inl (cf102, 2048, .inl f102)), (qf104, .inl (cf104, 8, .inl f104)), (qf118, .inl (cf118, 2100, .inl g118_40)), (qf119, .inl (cf119, 2100, .inl g119_40)), (qf108, .inl (cf108, 8, .inl f108))] := hD
    replace hP : va_P (dC, dI) vwCl [(h0, .inr (13, z40)), (qf106, .inl (cf106, 8, .inl f106)), (qf107, .inl (cf107, 96, .inl f107)), (qf100, .inl (cf100, 48000, .inl f100)), (qf109, .inl (cf109, 96, .inl f109)), (qf102, .inl (cf102, 2048, .inl f102)), (qf104, .inl (cf104, 8, .inl f104)), (qf118, .inl (cf118, 2100, .inl g118_40)), (qf119, .inl (cf119, 2100, .inl g119_40)), (qf108, .inl (cf108, 8, .inl f108))] H := hP
    replace hsp : jn_vm_kindsAreThere_40 nf a1 v98 v117 v120 f106 f107 f100 f109 f102 f104 f118 f119 f108 nS477 fS477 l1_40 l2_40 g118_40 g119_40 x117_40 x120_40 = some (r0, o118, o119, w117, w120) := hsp
    show W _ _ _ _ _ _ _ _ _ _ H locs _ _ _ (F0 m 40 ls [])
    unfold jn_vm_kindsAreThere_40 at hsp
    try dsimp only at hsp
    refine lv_iconst (v := 0) hx hb dX13_kindsAreThere_40 (by decide) ?_
    refine lv_istore_n (lv' := [(3, .int 0), (0, .ref h0), (1, .int l1_40), (2, .int l2_40)]) hx hb dX13_kindsAreThere_41 rfl hl (by decide) rfl (fun ls hl => ?_)
    replace hl : lv_has ls 5 [(3, .int 0), (0, .ref h0), (1, .int l1_40), (2, .int l2_40)] := lv_sub hl [0, 1, 2, 3] rfl
    replace hP := hP.sub (ws' := [(h0, .inr (13, z40)), (qf106, .inl (cf106, 8, .inl f106)), (qf107, .inl (cf107, 96, .inl f107)), (qf100, .inl (cf100, 48000, .inl f100)), (qf109, .inl (cf109, 96, .inl f109)), (qf102, .inl (cf102, 2048, .inl f102)), (qf104, .inl (cf104, 8, .inl f104)), (qf118, .inl (cf118, 2100, .inl g118_40)), (qf119, .inl (cf119, 2100, .inl g119_40)), (qf108, .inl (cf108, 8, .inl f108))]) [0, 1, 2, 3, 4, 5, 6, 7, 8, 9] rfl
    replace hD := hD.sub (ws' := [(h0, .inr (13, z40)), (qf106, .inl (cf106, 8, .inl f106)), (qf107, .inl (cf107, 96, .inl f107)), (qf100, .inl (cf100, 48000, .inl f100)), (qf109, .inl (cf109, 96, .inl f109)), (qf102, .inl (cf102, 2048, .inl f102)), (qf104, .inl (cf104, 8, .inl f104)), (qf118, .inl (cf118, 2100, .inl g118_40)), (qf119, .inl (cf119, 2100, .inl g119_40)), (qf108, .inl (cf108, 8, .inl f108))]) [0, 1, 2, 3, 4, 5, 6, 7, 8, 9] (by decide) rfl
    replace hK := hK.sub (tys' := [(cf106, .int), (cf107, .int), (cf100, .int), (cf109, .int), (cf102, .int), (cf104, .int), (cf118, .int), (cf119, .int), (cf108, .int)]) [0, 1, 2, 3, 4, 5, 6, 7, 8] rfl
    obtain ⟨n_42, hn_42⟩ : ∃ z : Nat, z = nf := ⟨_, rfl⟩
    obtain ⟨l1_42, el1_42⟩ : ∃ z : Int32, z = l1_40 := ⟨_, rfl⟩
    obtain ⟨l2_42, el2_42⟩ : ∃ z : Int32, z = l2_40 := ⟨_, rfl⟩
    obtain ⟨l3_42, el3_42⟩ : ∃ z : Int32, z = 0 := ⟨_, rfl⟩
    obtain ⟨g118_42, eg118_42⟩ : ∃ z : Nat → Int32, z = g118_40 := ⟨_, rfl⟩
    obtain ⟨g119_42, eg119_42⟩ : ∃ z : Nat → Int32, z = g119_40 := ⟨_, rfl⟩
    obtain ⟨x117_42, ex117_42⟩ : ∃ z : Int32, z = x117_40 := ⟨_, rfl⟩
    obtain ⟨x120_42, ex120_42⟩ : ∃ z : Int32, z = x120_40 := ⟨_, rfl⟩
    replace hsp : lp_vm_kindsAreThere_42 nf n_42 a1 v98 v117 v120 f106 f107 f100 f109 f102 f104 f118 f119 f108 nS477 fS477 l1_42 l2_42 l3_42 g118_42 g119_42 x117_42 x120_42 = some (r0, o118, o119, w117, w120) := by rw [hn_42, el1_42, el2_42, el3_42, eg118_42, eg119_42, ex117_42, ex120_42]; exact hsp
    replace hl : lv_has ls 5 [(3, .int l3_42), (0, .ref h0), (1, .int l1_42), (2, .int l2_42)] := by rw [el1_42, el2_42, el3_42]; exact hl
    obtain ⟨z42, ez42⟩ : ∃ z : List Value, z = z40 := ⟨_, rfl⟩
    have hfh_42_98 : z42[98]? = some (.int v98) := by rw [ez42]; exact hfh_40_98
    have hfh_42_100 : z42[100]? = some (.ref qf100) := by rw [ez42]; exact hfh_40_100
    have hfh_42_102 : z42[102]? = some (.ref qf102) := by rw [ez42]; exact hfh_40_102
    have hfh_42_104 : z42[104]? = some (.ref qf104) := by rw [ez42]; exact hfh_40_104
    have hfh_42_106 : z42[106]? = some (.ref qf106) := by rw [ez42]; exact hfh_40_106
    have hfh_42_107 : z42[107]? = some (.ref qf107) := by rw [ez42]; exact hfh_40_107
    have hfh_42_108 : z42[108]? = some (.ref qf108) := by rw [ez42]; exact hfh_40_108
    have hfh_42_109 : z42[109]? = some (.ref qf109) := by rw [ez42]; exact hfh_40_109
    have hfh_42_117 : z42[117]? = some (.int x117_42) := by rw [ez42, ex117_42]; exact hfh_40_117
    have hfh_42_118 : z42[118]? = some (.ref qf118) := by rw [ez42]; exact hfh_40_118
    have hfh_42_119 : z42[119]? = some (.ref qf119) := by rw [ez42]; exact hfh_40_119
    have hfh_42_120 : z42[120]? = some (.int x120_42) := by rw [ez42, ex120_42]; exact hfh_40_120
    have hlh_42 : z42.length = 155 := by rw [ez42]; exact hlh_40
    have hrh_42 : ∀ j : Nat, j ≠ 117 → j ≠ 120 → z42[j]? = zs[j]? := by rw [ez42]; exact hrh_40
    replace hP : va_P (dC, dI) vwCl [(h0, .inr (13, z42)), (qf106, .inl (cf106, 8, .inl f106)), (qf107, .inl (cf107, 96, .inl f107)), (qf100, .inl (cf100, 48000, .inl f100)), (qf109, .inl (cf109, 96, .inl f109)), (qf102, .inl (cf102, 2048, .inl f102)), (qf104, .inl (cf104, 8, .inl f104)), (qf118, .inl (cf118, 2100, .inl g118_42)), (qf119, .inl (cf119, 2100, .inl g119_42)), (qf108, .inl (cf108, 8, .inl f108))] H := by rw [ez42, eg118_42, eg119_42]; exact hP
    replace hD : va_D A [(h0, .inr (13, z42)), (qf106, .inl (cf106, 8, .inl f106)), (qf107, .inl (cf107, 96, .inl f107)), (qf100, .inl (cf100, 48000, .inl f100)), (qf109, .inl (cf109, 96, .inl f109)), (qf102, .inl (cf102, 2048, .inl f102)), (qf104, .inl (cf104, 8, .inl f104)), (qf118, .inl (cf118, 2100, .inl g118_42)), (qf119, .inl (cf119, 2100, .inl g119_42)), (qf108, .inl (cf108, 8, .inl f108))] := by rw [ez42, eg118_42, eg119_42]; exact hD
    clear hn_42 ez42 el1_42 el2_42 el3_42 eg118_42 eg119_42 ex117_42 ex120_42
    try clear hlo
    try clear hH
    revert hsp
    revert hP
    revert hD
    revert hS
    revert hl
    revert hrh_42
    revert hlh_42
    revert hfh_42_120
    revert hfh_42_119
    revert hfh_42_118
    revert hfh_42_117
    revert hfh_42_109
    revert hfh_42_108
    revert hfh_42_107
    revert hfh_42_106
    revert hfh_42_104
    revert hfh_42_102
    revert hfh_42_100
    revert hfh_42_98
    revert x120_42
    revert x117_42
    revert g119_42
    revert g118_42
    revert l3_42
    revert l2_42
    revert l1_42
    revert z42
    revert ls
    revert locs
    revert H
    induction n_42 with
    | zero => intro H locs ls z42 l1_42 l2_42 l3_42 g118_42 g119_42 x117_42 x120_42 hfh_42_98 hfh_42_100 hfh_42_102 hfh_42_104 hfh_42_106 hfh_42_107 hfh_42_108 hfh_42_109 hfh_42_117 hfh_42_118 hfh_42_119 hfh_42_120 hlh_42 hrh_42 hl hS hD hP hsp; unfold lp_vm_kindsAreThere_42 at hsp; cases hsp
    | succ n_42 ih_42 =>
      intro H locs ls z42 l1_42 l2_42 l3_42 g118_42 g119_42 x117_42 x120_42 hfh_42_98 hfh_42_100 hfh_42_102 hfh_42_104 hfh_42_106 hfh_42_107 hfh_42_108 hfh_42_109 hfh_42_117 hfh_42_118 hfh_42_119 hfh_42_120 hlh_42 hrh_42 hl hS hD hP hsp
      unfold lp_vm_kindsAreThere_42 at hsp
      try dsimp only at hsp
      refine jn_use (α := Heap × List Loc × Array Slot × List Value × Int32 × Int32 × Int32 × Int32 × (Nat → Int32) × (Nat → Int32) × Int32 × Int32) (fun x9 => x9.1) (fun x9 => x9.2.1) (fun x9 => F0 m 119 x9.2.2.1 []) (fun x9 => match x9 with | (H, locs, ls, z119, l1_119, l2_119, l3_119, l4_119, g118_119, g119_119, x117_119, x120_119) => lv_has ls 5 [(0, .ref h0), (1, .int l1_119), (2, .int l2_119), (3, .int l3_119), (4, .int l4_119)] ∧ va_S A s.heap H locs ∧ va_D A [(h0, .inr (13, z119)), (qf106, .inl (cf106, 8, .inl f106)), (qf107, .inl (cf107, 96, .inl f107)), (qf100, .inl (cf100, 48000, .inl f100)), (qf109, .inl (cf109, 96, .inl f109)), (qf102, .inl (cf102, 2048, .inl f102)), (qf104, .inl (cf104, 8, .inl f104)), (qf118, .inl (cf118, 2100, .inl g118_119)), (qf119, .inl (cf119, 2100, .inl g119_119)), (qf108, .inl (cf108, 8, .inl f108))] ∧ va_P (dC, dI) vwCl [(h0, .inr (13, z119)), (qf106, .inl (cf106, 8, .inl f106)), (qf107, .inl (cf107, 96, .inl f107)), (qf100, .inl (cf100, 48000, .inl f100)), (qf109, .inl (cf109, 96, .inl f109)), (qf102, .inl (cf102, 2048, .inl f102)), (qf104, .inl (cf104, 8, .inl f104)), (qf118, .inl (cf118, 2100, .inl g118_119)), (qf119, .inl (cf119, 2100, .inl g119_119)), (qf108, .inl (cf108, 8, .inl f108))] H ∧ z119[98]? = some (.int v98) ∧ z119[100]? = some (.ref qf100) ∧ z119[102]? = some (.ref qf102) ∧ z119[104]? = some (.ref qf104) ∧ z119[106]? = some (.ref qf106) ∧ z119[107]? = some (.ref qf107) ∧ z119[108]? = some (.ref qf108) ∧ z119[109]? = some (.ref qf109) ∧ z119[117]? = some (.int x117_119) ∧ z119[118]? = some (.ref qf118) ∧ z119[119]? = some (.ref qf119) ∧ z119[120]? = some (.int x120_119) ∧ z119.length = 155 ∧ (∀ j : Nat, j ≠ 117 → j ≠ 120 → z119[j]? = zs[j]?) ∧ jn_vm_kindsAreThere_119 nf a1 v98 v117 v120 f106 f107 f100 f109 f102 f104 f118 f119 f108 nS477 fS477 (lp_vm_kindsAreThere_42 nf n_42 a1 v98 v117 v120 f106 f107 f100 f109 f102 f104 f118 f119 f108 nS477 fS477) l1_119 l2_119 l3_119 l4_119 g118_119 g119_119 x117_119 x120_119 = some (r0, o118, o119, w117, w120)) ?_ ?_
      · intro x9 hJ9
        obtain ⟨H, locs, ls, z119, l1_119, l2_119, l3_119, l4_119, g118_119, g119_119, x117_119, x120_119⟩ := x9
        obtain ⟨hl, hS, hD, hP, hfh_119_98, hfh_119_100, hfh_119_102, hfh_119_104, hfh_119_106, hfh_119_107, hfh_119_108, hfh_119_109, hfh_119_117, hfh_119_118, hfh_119_119, hfh_119_120, hlh_119, hrh_119, hsp⟩ := hJ9
        replace hl : lv_has ls 5 [(0, .ref h0), (1, .int l1_119), (2, .int l2_119), (3, .int l3_119), (4, .int l4_119)] := hl
        replace hS : va_S A s.heap H locs := hS
        replace hD : va_D A [(h0, .inr (13, z119)), (qf106, .inl (cf106, 8, .inl f106)), (qf107, .inl (cf107, 96, .inl f107)), (qf100, .inl (cf100, 48000, .inl f100)), (qf109, .inl (cf109, 96, .inl f109)), (qf102, .inl (cf102, 2048, .inl f102)), (qf104, .inl (cf104, 8, .inl f104)), (qf118, .inl (cf118, 2100, .inl g118_119)), (qf119, .inl (cf119, 2100, .inl g119_119)), (qf108, .inl (cf108, 8, .inl f108))] := hD
        replace hP : va_P (dC, dI) vwCl [(h0, .inr (13, z119)), (qf106, .inl (cf106, 8, .inl f106)), (qf107, .inl (cf107, 96, .inl f107)), (qf100, .inl (cf100, 48000, .inl f100)), (qf109, .inl (cf109, 96, .inl f109)), (qf102, .inl (cf102, 2048, .inl f102)), (qf104, .inl (cf104, 8, .inl f104)), (qf118, .inl (cf118, 2100, .inl g118_119)), (qf119, .inl (cf119, 2100, .inl g119_119)), (qf108, .inl (cf108, 8, .inl f108))] H := hP
        replace hsp : jn_vm_kindsAreThere_119 nf a1 v98 v117 v120 f106 f107 f100 f109 f102 f104 f118 f119 f108 nS477 fS477 (lp_vm_kindsAreThere_42 nf n_42 a1 v98 v117 v120 f106 f107 f100 f109 f102 f104 f118 f119 f108 nS477 fS477) l1_119 l2_119 l3_119 l4_119 g118_119 g119_119 x117_119 x120_119 = some (r0, o118, o119, w117, w120) := hsp
        show W _ _ _ _ _ _ _ _ _ _ H locs _ _ _ (F0 m 119 ls [])
        unfold jn_vm_kindsAreThere_119 at hsp
        try dsimp only at hsp
        refine lv_iload_n hx hb dX13_kindsAreThere_119 rfl (lv_at hl 2 rfl) ?_
        refine lv_if_eq (tgt := 141) hx hb dX13_kindsAreThere_120 (by decide) (fun c_17 => ?_) (fun c_17 => ?_)
        · rw [if_pos c_17] at hsp
          refine lv_iconst (v := 0) hx hb dX13_kindsAreThere_141 (by decide) ?_
          refine lv_istore_n (lv' := [(2, .int 0), (0, .ref h0), (1, .int l1_119), (3, .int l3_119), (4, .int l4_119)]) hx hb dX13_kindsAreThere_142 rfl hl (by decide) rfl (fun ls hl => ?_)
          refine lv_iinc (v := (l3_119 + 1)) (lv' := [(3, .int (l3_119 + 1)), (2, .int 0), (0, .ref h0), (1, .int l1_119), (4, .int l4_119)]) hx hb dX13_kindsAreThere_143 hl (k := 3) rfl rfl (by decide) rfl (fun ls hl => ?_)
          refine lv_goto (tgt := 42) hx hb dX13_kindsAreThere_146 (by decide) ?_
          exact ih_42 H locs ls z119 l1_119 0 (l3_119 + 1) g118_119 g119_119 x117_119 x120_119 (hfh_119_98) (hfh_119_100) (hfh_119_102) (hfh_119_104) (hfh_119_106) (hfh_119_107) (hfh_119_108) (hfh_119_109) (hfh_119_117) (hfh_119_118) (hfh_119_119) (hfh_119_120) hlh_119 hrh_119 (lv_sub hl [0, 2, 3, 1] rfl) hS (hD.sub (ws' := [(h0, .inr (13, z119)), (qf106, .inl (cf106, 8, .inl f106)), (qf107, .inl (cf107, 96, .inl f107)), (qf100, .inl (cf100, 48000, .inl f100)), (qf109, .inl (cf109, 96, .inl f109)), (qf102, .inl (cf102, 2048, .inl f102)), (qf104, .inl (cf104, 8, .inl f104)), (qf118, .inl (cf118, 2100, .inl g118_119)), (qf119, .inl (cf119, 2100, .inl g119_119)), (qf108, .inl (cf108, 8, .inl f108))]) [0, 1, 2, 3, 4, 5, 6, 7, 8, 9] (by decide) rfl) (hP.sub (ws' := [(h0, .inr (13, z119)), (qf106, .inl (cf106, 8, .inl f106)), (qf107, .inl (cf107, 96, .inl f107)), (qf100, .inl (cf100, 48000, .inl f100)), (qf109, .inl (cf109, 96, .inl f109)), (qf102, .inl (cf102, 2048, .inl f102)), (qf104, .inl (cf104, 8, .inl f104)), (qf118, .inl (cf118, 2100, .inl g118_119)), (qf119, .inl (cf119, 2100, .inl g119_119)), (qf108, .inl (cf108, 8, .inl f108))]) [0, 1, 2, 3, 4, 5, 6, 7, 8, 9] rfl) hsp
        · rw [if_neg c_17] at hsp
          refine lv_aload_n hx hb dX13_kindsAreThere_123 rfl (lv_at hl 0 rfl) ?_
          refine lv_iload hx hb dX13_kindsAreThere_124 (lv_at hl 4 rfl) ?_
          refine lv_iconst (v := 1) hx hb dX13_kindsAreThere_126 (by decide) ?_
          refine lv_iadd hx hb dX13_kindsAreThere_127 ?_
          obtain ⟨⟨u7_0, g907_1, g907_2, u7_3, u7_4⟩, hu_7, hsp⟩ := ox_bind hsp
          try dsimp only at hsp
          have hPc := hP.sub (ws' := [(h0, .inr (13, z119)), (qf100, .inl (cf100, 48000, .inl f100)), (qf104, .inl (cf104, 8, .inl f104)), (qf102, .inl (cf102, 2048, .inl f102)), (qf118, .inl (cf118, 2100, .inl g118_119)), (qf119, .inl (cf119, 2100, .inl g119_119))]) [0, 3, 6, 5, 7, 8] rfl
          have hDc := hD.sub (ws' := [(h0, .inr (13, z119)), (qf100, .inl (cf100, 48000, .inl f100)), (qf104, .inl (cf104, 8, .inl f104)), (qf102, .inl (cf102, 2048, .inl f102)), (qf118, .inl (cf118, 2100, .inl g118_119)), (qf119, .inl (cf119, 2100, .inl g119_119))]) [0, 3, 6, 5, 7, 8] (by decide) rfl
          have hKc := hK.sub (tys' := [(cf100, .int), (cf104, .int), (cf102, .int), (cf118, .int), (cf119, .int)]) [2, 5, 4, 6, 7] rfl
          have hFc := va_free (wc := [(h0, .inr (13, z119)), (qf100, .inl (cf100, 48000, .inl f100)), (qf104, .inl (cf104, 8, .inl f104)), (qf102, .inl (cf102, 2048, .inl f102)), (qf118, .inl (cf118, 2100, .inl g118_119)), (qf119, .inl (cf119, 2100, .inl g119_119))]) hD hS hA [0, 3, 6, 5, 7, 8] rfl
          refine va_calli (va_runV (As := [.int (l4_119 + 1)]) (rest := []) ⟨hx, hb, hml, hown, hts⟩ (vm_typeAt l dC dI H.size h0 z119 ((l4_119 + 1)) v98 qf100 qf102 qf104 x117_119 qf118 qf119 x120_119 cf100 f100 cf104 f104 cf102 f102 cf118 g118_119 cf119 g119_119 nS477 fS477 hS477 qS477 tS477 nf u7_0 g907_1 g907_2 u7_3 u7_4 hlh_119 hfh_119_98 hfh_119_100 hfh_119_102 hfh_119_104 hfh_119_117 hfh_119_118 hfh_119_119 hfh_119_120 hu_7) (cwV 1 hts gv_h9_100 rfl rfl rfl (by decide +kernel) ⟨Nat.le_of_ble_eq_true rfl, Nat.le_of_ble_eq_true rfl⟩) ⟨fun a U g mk q => by obtain ⟨q0, q1, qP, qK, qD, qhZWS477, qhZRS477⟩ := q; exact ⟨q0, q1, qP, va_K.moved (u := U) (U := U.calling g mk a) (Vm.Alike.refl U.vm) qK, qD, pz_W.moved (u := U) (U := U.calling g mk a) (Vm.Alike.refl U.vm) qhZWS477, vk_R.same rfl qhZRS477⟩, va_recv hKc hPc (ci := 13) (q0 := 0) rfl rfl, fun U hU hW => ⟨rfl, by rw [hU], by rw [hU]; exact hPc, va_K.moved hW.alike hKc, hDc.weaken (fun _ _ _ _ => trivial), by rw [hU]; exact ((pz_W.moved hW.alike hZWS477).kept hS.2.1).narrow hFc, vk_R.warm hW hZRS477⟩⟩ rfl rfl hl.1 rfl (lv_room (Nat.le_of_ble_eq_true rfl)) dX13_kindsAreThere_128 ⟨Nat.le_of_ble_eq_true rfl, Nat.le_of_ble_eq_true rfl⟩) hS (fun q _ h => hFc q h) hFc ?_
          clear hS
          intro r_18 u t H1 locs ht hvm hw hB hz1 hk1 hS
          obtain ⟨z_7, rfl⟩ : ∃ z, z = u := ⟨_, rfl⟩
          obtain ⟨hP1, hK1, hD1⟩ := hB
          rw [ht] at hP1
          have hK1 := va_K.moved hvm.symm hK1
          try dsimp only at hw
          have hPD := va_join (wr := [(qf106, .inl (cf106, 8, .inl f106)), (qf107, .inl (cf107, 96, .inl f107)), (qf109, .inl (cf109, 96, .inl f109)), (qf108, .inl (cf108, 8, .inl f108))]) (w1 := [(h0, .inr (13, z_7)), (qf100, .inl (cf100, 48000, .inl f100)), (qf104, .inl (cf104, 8, .inl f104)), (qf102, .inl (cf102, 2048, .inl f102)), (qf118, .inl (cf118, 2100, .inl g907_1)), (qf119, .inl (cf119, 2100, .inl g907_2))]) hP hD [0, 3, 6, 5, 7, 8] [1, 2, 4, 9] rfl rfl (by decide) (by decide) hk1 hFc hP1 hD1
          clear hP hD
          obtain ⟨hP, hD⟩ := hPD
          replace hK := (hK.sub (tys' := [(cf106, .int), (cf107, .int), (cf109, .int), (cf108, .int)]) [0, 1, 3, 8] rfl).app hK1
          clear hPc hDc hKc hFc hP1 hK1 hD1 hz1 hk1 ht hvm
          generalize H1 = H at hP hS ⊢
          replace hP : va_P (dC, dI) vwCl [(qf106, .inl (cf106, 8, .inl f106)), (qf107, .inl (cf107, 96, .inl f107)), (qf109, .inl (cf109, 96, .inl f109)), (qf108, .inl (cf108, 8, .inl f108)), (h0, .inr (13, z_7)), (qf100, .inl (cf100, 48000, .inl f100)), (qf104, .inl (cf104, 8, .inl f104)), (qf102, .inl (cf102, 2048, .inl f102)), (qf118, .inl (cf118, 2100, .inl g907_1)), (qf119, .inl (cf119, 2100, .inl g907_2))] H := hP
          replace hD : va_D A [(qf106, .inl (cf106, 8, .inl f106)), (qf107, .inl (cf107, 96, .inl f107)), (qf109, .inl (cf109, 96, .inl f109)), (qf108, .inl (cf108, 8, .inl f108)), (h0, .inr (13, z_7)), (qf100, .inl (cf100, 48000, .inl f100)), (qf104, .inl (cf104, 8, .inl f104)), (qf102, .inl (cf102, 2048, .inl f102)), (qf118, .inl (cf118, 2100, .inl g907_1)), (qf119, .inl (cf119, 2100, .inl g907_2))] := hD
          replace hK : va_K (dC, dI) vwCl [(cf106, .int), (cf107, .int), (cf109, .int), (cf108, .int), (cf100, .int), (cf104, .int), (cf102, .int), (cf118, .int), (cf119, .int)] s := hK
          obtain ⟨hwa_7, hln_7, hre_7, hch_7_117, hch_7_120⟩ := hw
          have hfk_7_98 : z_7[98]? = some (.int v98) := (hre_7 98 (by decide) (by decide)).trans (hfh_119_98)
          have hfk_7_100 : z_7[100]? = some (.ref qf100) := (hre_7 100 (by decide) (by decide)).trans (hfh_119_100)
          have hfk_7_102 : z_7[102]? = some (.ref qf102) := (hre_7 102 (by decide) (by decide)).trans (hfh_119_102)
          have hfk_7_104 : z_7[104]? = some (.ref qf104) := (hre_7 104 (by decide) (by decide)).trans (hfh_119_104)
          have hfk_7_106 : z_7[106]? = some (.ref qf106) := (hre_7 106 (by decide) (by decide)).trans (hfh_119_106)
          have hfk_7_107 : z_7[107]? = some (.ref qf107) := (hre_7 107 (by decide) (by decide)).trans (hfh_119_107)
          have hfk_7_108 : z_7[108]? = some (.ref qf108) := (hre_7 108 (by decide) (by decide)).trans (hfh_119_108)
          have hfk_7_109 : z_7[109]? = some (.ref qf109) := (hre_7 109 (by decide) (by decide)).trans (hfh_119_109)
          have hfk_7_118 : z_7[118]? = some (.ref qf118) := (hre_7 118 (by decide) (by decide)).trans (hfh_119_118)
          have hfk_7_119 : z_7[119]? = some (.ref qf119) := (hre_7 119 (by decide) (by decide)).trans (hfh_119_119)
          have hrq_7 : ∀ j : Nat, j ≠ 117 → j ≠ 120 → z_7[j]? = zs[j]? := fun j g117 g120 => (hre_7 j g117 g120).trans (hrh_119 j g117 g120)
          obtain rfl := hwa_7
          obtain ⟨u8_0, hu_8, hsp⟩ := ox_bind hsp
          try dsimp only at hsp
          have hPc := hP.sub (ws' := []) [] rfl
          have hDc := hD.sub (ws' := []) [] (by decide) rfl
          have hKc := hK.sub (tys' := []) [] rfl
          have hFc := va_free (wc := []) hD hS hA [] rfl
          refine va_calli (va_runS (As := [.int u7_0]) (rest := []) ⟨hx, hb, hml, hown, hts⟩ (tm_isThere l dC dI H.size u7_0 nf u8_0 hu_8) (va_cwS 1 hts gv_h9_104 rfl rfl rfl (by decide +kernel) ⟨Nat.le_of_ble_eq_true rfl, Nat.le_of_ble_eq_true rfl⟩) ⟨fun a U g mk q => by obtain ⟨q0, q1, qP, qK, qD⟩ := q; exact ⟨q0, q1, qP, va_K.moved (u := U) (U := U.calling g mk a) (Vm.Alike.refl U.vm) qK, qD⟩, fun U hU hW => ⟨rfl, by rw [hU], by rw [hU]; exact hPc, va_K.moved hW.alike hKc, hDc.weaken (fun _ _ _ _ => trivial)⟩⟩ rfl rfl hl.1 rfl (lv_room (Nat.le_of_ble_eq_true rfl)) dX13_kindsAreThere_131 ⟨Nat.le_of_ble_eq_true rfl, Nat.le_of_ble_eq_true rfl⟩) hS (fun q _ h => hFc q h) hFc ?_
          clear hS
          intro r_19 u t H1 locs ht hvm hw hB hz1 hk1 hS
          obtain ⟨⟩ := u
          obtain ⟨hP1, hK1, hD1⟩ := hB
          rw [ht] at hP1
          have hK1 := va_K.moved hvm.symm hK1
          try dsimp only at hw
          have hPD := va_join (wr := [(qf106, .inl (cf106, 8, .inl f106)), (qf107, .inl (cf107, 96, .inl f107)), (qf109, .inl (cf109, 96, .inl f109)), (qf108, .inl (cf108, 8, .inl f108)), (h0, .inr (13, z_7)), (qf100, .inl (cf100, 48000, .inl f100)), (qf104, .inl (cf104, 8, .inl f104)), (qf102, .inl (cf102, 2048, .inl f102)), (qf118, .inl (cf118, 2100, .inl g907_1)), (qf119, .inl (cf119, 2100, .inl g907_2))]) (w1 := []) hP hD [] [0, 1, 2, 3, 4, 5, 6, 7, 8, 9] rfl rfl (by decide) (by decide) hk1 hFc hP1 hD1
          clear hP hD
          obtain ⟨hP, hD⟩ := hPD
          replace hK := (hK.sub (tys' := [(cf106, .int), (cf107, .int), (cf109, .int), (cf108, .int), (cf100, .int), (cf104, .int), (cf102, .int), (cf118, .int), (cf119, .int)]) [0, 1, 2, 3, 4, 5, 6, 7, 8] rfl).app hK1
          clear hPc hDc hKc hFc hP1 hK1 hD1 hz1 hk1 ht hvm
          generalize H1 = H at hP hS ⊢
          replace hP : va_P (dC, dI) vwCl [(qf106, .inl (cf106, 8, .inl f106)), (qf107, .inl (cf107, 96, .inl f107)), (qf109, .inl (cf109, 96, .inl f109)), (qf108, .inl (cf108, 8, .inl f108)), (h0, .inr (13, z_7)), (qf100, .inl (cf100, 48000, .inl f100)), (qf104, .inl (cf104, 8, .inl f104)), (qf102, .inl (cf102, 2048, .inl f102)), (qf118, .inl (cf118, 2100, .inl g907_1)), (qf119, .inl (cf119, 2100, .inl g907_2))] H := hP
          replace hD : va_D A [(qf106, .inl (cf106, 8, .inl f106)), (qf107, .inl (cf107, 96, .inl f107)), (qf109, .inl (cf109, 96, .inl f109)), (qf108, .inl (cf108, 8, .inl f108)), (h0, .inr (13, z_7)), (qf100, .inl (cf100, 48000, .inl f100)), (qf104, .inl (cf104, 8, .inl f104)), (qf102, .inl (cf102, 2048, .inl f102)), (qf118, .inl (cf118, 2100, .inl g907_1)), (qf119, .inl (cf119, 2100, .inl g907_2))] := hD
          replace hK : va_K (dC, dI) vwCl [(cf106, .int), (cf107, .int), (cf109, .int), (cf108, .int), (cf100, .int), (cf104, .int), (cf102, .int), (cf118, .int), (cf119, .int)] s := hK
          obtain ⟨rfl, hz_8⟩ := hw
          rcases hz_8 with rfl | rfl
          · rw [if_pos rfl] at hsp
            refine lv_if_eq (tgt := 141) hx hb dX13_kindsAreThere_134 (by decide) (fun c_20 => ?_) (fun c_20 => (show False by revert c_20; decide).elim)
            refine lv_iconst (v := 0) hx hb dX13_kindsAreThere_141 (by decide) ?_
            refine lv_istore_n (lv' := [(2, .int 0), (0, .ref h0), (1, .int l1_119), (3, .int l3_119), (4, .int l4_119)]) hx hb dX13_kindsAreThere_142 rfl hl (by decide) rfl (fun ls hl => ?_)
            refine lv_iinc (v := (l3_119 + 1)) (lv' := [(3, .int (l3_119 + 1)), (2, .int 0), (0, .ref h0), (1, .int l1_119), (4, .int l4_119)]) hx hb dX13_kindsAreThere_143 hl (k := 3) rfl rfl (by decide) rfl (fun ls hl => ?_)
            refine lv_goto (tgt := 42) hx hb dX13_kindsAreThere_146 (by decide) ?_
            exact ih_42 H locs ls z_7 l1_119 0 (l3_119 + 1) g907_1 g907_2 u7_3 u7_4 (hfk_7_98) (hfk_7_100) (hfk_7_102) (hfk_7_104) (hfk_7_106) (hfk_7_107) (hfk_7_108) (hfk_7_109) (hch_7_117) (hfk_7_118) (hfk_7_119) (hch_7_120) hln_7 hrq_7 (lv_sub hl [0, 2, 3, 1] rfl) hS (hD.sub (ws' := [(h0, .inr (13, z_7)), (qf106, .inl (cf106, 8, .inl f106)), (qf107, .inl (cf107, 96, .inl f107)), (qf100, .inl (cf100, 48000, .inl f100)), (qf109, .inl (cf109, 96, .inl f109)), (qf102, .inl (cf102, 2048, .inl f102)), (qf104, .inl (cf104, 8, .inl f104)), (qf118, .inl (cf118, 2100, .inl g907_1)), (qf119, .inl (cf119, 2100, .inl g907_2)), (qf108, .inl (cf108, 8, .inl f108))]) [4, 0, 1, 5, 2, 7, 6, 8, 9, 3] (by decide) rfl) (hP.sub (ws' := [(h0, .inr (13, z_7)), (qf106, .inl (cf106, 8, .inl f106)), (qf107, .inl (cf107, 96, .inl f107)), (qf100, .inl (cf100, 48000, .inl f100)), (qf109, .inl (cf109, 96, .inl f109)), (qf102, .inl (cf102, 2048, .inl f102)), (qf104, .inl (cf104, 8, .inl f104)), (qf118, .inl (cf118, 2100, .inl g907_1)), (qf119, .inl (cf119, 2100, .inl g907_2)), (qf108, .inl (cf108, 8, .inl f108))]) [4, 0, 1, 5, 2, 7, 6, 8, 9, 3] rfl) hsp
          · rw [if_neg (by decide)] at hsp
            refine lv_if_eq (tgt := 141) hx hb dX13_kindsAreThere_134 (by decide) (fun c_21 => (show False by revert c_21; decide).elim) (fun c_21 => ?_)
            refine lv_iconst (v := 1) hx hb dX13_kindsAreThere_137 (by decide) ?_
            refine lv_goto (tgt := 142) hx hb dX13_kindsAreThere_138 (by decide) ?_
            refine lv_istore_n (lv' := [(2, .int 1), (0, .ref h0), (1, .int l1_119), (3, .int l3_119), (4, .int l4_119)]) hx hb dX13_kindsAreThere_142 rfl hl (by decide) rfl (fun ls hl => ?_)
            refine lv_iinc (v := (l3_119 + 1)) (lv' := [(3, .int (l3_119 + 1)), (2, .int 1), (0, .ref h0), (1, .int l1_119), (4, .int l4_119)]) hx hb dX13_kindsAreThere_143 hl (k := 3) rfl rfl (by decide) rfl (fun ls hl => ?_)
            refine lv_goto (tgt := 42) hx hb dX13_kindsAreThere_146 (by decide) ?_
            exact ih_42 H locs ls z_7 l1_119 1 (l3_119 + 1) g907_1 g907_2 u7_3 u7_4 (hfk_7_98) (hfk_7_100) (hfk_7_102) (hfk_7_104) (hfk_7_106) (hfk_7_107) (hfk_7_108) (hfk_7_109) (hch_7_117) (hfk_7_118) (hfk_7_119) (hch_7_120) hln_7 hrq_7 (lv_sub hl [0, 2, 3, 1] rfl) hS (hD.sub (ws' := [(h0, .inr (13, z_7)), (qf106, .inl (cf106, 8, .inl f106)), (qf107, .inl (cf107, 96, .inl f107)), (qf100, .inl (cf100, 48000, .inl f100)), (qf109, .inl (cf109, 96, .inl f109)), (qf102, .inl (cf102, 2048, .inl f102)), (qf104, .inl (cf104, 8, .inl f104)), (qf118, .inl (cf118, 2100, .inl g907_1)), (qf119, .inl (cf119, 2100, .inl g907_2)), (qf108, .inl (cf108, 8, .inl f108))]) [4, 0, 1, 5, 2, 7, 6, 8, 9, 3] (by decide) rfl) (hP.sub (ws' := [(h0, .inr (13, z_7)), (qf106, .inl (cf106, 8, .inl f106)), (qf107, .inl (cf107, 96, .inl f107)), (qf100, .inl (cf100, 48000, .inl f100)), (qf109, .inl (cf109, 96, .inl f109)), (qf102, .inl (cf102, 2048, .inl f102)), (qf104, .inl (cf104, 8, .inl f104)), (qf118, .inl (cf118, 2100, .inl g907_1)), (qf119, .inl (cf119, 2100, .inl g907_2)), (qf108, .inl (cf108, 8, .inl f108))]) [4, 0, 1, 5, 2, 7, 6, 8, 9, 3] rfl) hsp
      intro hj_119
      refine lv_iload_n hx hb dX13_kindsAreThere_42 rfl (lv_at hl 0 rfl) ?_
      refine lv_aload_n hx hb dX13_kindsAreThere_43 rfl (lv_at hl 1 rfl) ?_
      refine va_get (D := (dC, dI)) (ci := 13) (v := .ref qf108) (C := RX13) (T := TX13) (N := 155) hx hb hts uV_h9_X13 hown hK hP 0 rfl rfl 108 (by decide) (hts (.fieldLink RX13 233 "ClassMillModel" "methodMany" "[I") mw_h9_281) (fun _ h9 => h9) hfh_42_108 dX13_kindsAreThere_44 ?_
      refine lv_iload_n hx hb dX13_kindsAreThere_47 rfl (lv_at hl 2 rfl) ?_
      obtain ⟨hi_7, hsp⟩ := ox_in hsp
      refine va_iald hx hb hK hP 9 8 rfl rfl (i := l1_42) hi_7 dX13_kindsAreThere_48 ?_
      refine lv_icmp_ge (tgt := 149) hx hb dX13_kindsAreThere_49 (by decide) (fun c_8 => ?_) (fun c_8 => ?_)
      · rw [if_pos c_8] at hsp
        refine lv_iload_n hx hb dX13_kindsAreThere_149 rfl (lv_at hl 3 rfl) ?_
        rcases ox_01 hsp with ⟨rfl, hsp⟩ | ⟨rfl, hsp⟩
        · skip
          have hr0 := Option.some.inj hsp
          clear hsp
          obtain ⟨hq0, hr1⟩ := Prod.mk.inj hr0
          clear hr0
          obtain ⟨hq1, hr2⟩ := Prod.mk.inj hr1
          clear hr1
          obtain ⟨hq2, hr3⟩ := Prod.mk.inj hr2
          clear hr2
          obtain ⟨hq3, hr4⟩ := Prod.mk.inj hr3
          clear hr3
          subst hq0
          subst hq1
          subst hq2
          subst hq3
          subst hr4
          have hP9 := hP.sub (ws' := [(h0, .inr (13, z42)), (qf106, .inl (cf106, 8, .inl f106)), (qf107, .inl (cf107, 96, .inl f107)), (qf100, .inl (cf100, 48000, .inl f100)), (qf109, .inl (cf109, 96, .inl f109)), (qf102, .inl (cf102, 2048, .inl f102)), (qf104, .inl (cf104, 8, .inl f104)), (qf118, .inl (cf118, 2100, .inl g118_42)), (qf119, .inl (cf119, 2100, .inl g119_42)), (qf108, .inl (cf108, 8, .inl f108))]) [0, 1, 2, 3, 4, 5, 6, 7, 8, 9] rfl
          have hD9 := hD.sub (ws' := [(h0, .inr (13, z42)), (qf106, .inl (cf106, 8, .inl f106)), (qf107, .inl (cf107, 96, .inl f107)), (qf100, .inl (cf100, 48000, .inl f100)), (qf109, .inl (cf109, 96, .inl f109)), (qf102, .inl (cf102, 2048, .inl f102)), (qf104, .inl (cf104, 8, .inl f104)), (qf118, .inl (cf118, 2100, .inl g118_42)), (qf119, .inl (cf119, 2100, .inl g119_42)), (qf108, .inl (cf108, 8, .inl f108))]) [0, 1, 2, 3, 4, 5, 6, 7, 8, 9] (by decide) rfl
          have hK9 := hK.sub (tys' := [(cf106, .int), (cf107, .int), (cf100, .int), (cf109, .int), (cf102, .int), (cf104, .int), (cf118, .int), (cf119, .int), (cf108, .int)]) [0, 1, 2, 3, 4, 5, 6, 7, 8] rfl
          exact W.zret hx hb hr (by decide) (fun t ht hW => ⟨⟨(0), (z42), rfl, ⟨⟨rfl, Or.inl rfl⟩, hlh_42, hrh_42, hfh_42_117, hfh_42_120⟩, by rw [ht]; exact hP9, va_K.moved hW.alike hK9, hD9⟩, hS.F ht⟩) hS.2.2 dX13_kindsAreThere_150
        · skip
          have hr0 := Option.some.inj hsp
          clear hsp
          obtain ⟨hq0, hr1⟩ := Prod.mk.inj hr0
          clear hr0
          obtain ⟨hq1, hr2⟩ := Prod.mk.inj hr1
          clear hr1
          obtain ⟨hq2, hr3⟩ := Prod.mk.inj hr2
          clear hr2
          obtain ⟨hq3, hr4⟩ := Prod.mk.inj hr3
          clear hr3
          subst hq0
          subst hq1
          subst hq2
          subst hq3
          subst hr4
          have hP9 := hP.sub (ws' := [(h0, .inr (13, z42)), (qf106, .inl (cf106, 8, .inl f106)), (qf107, .inl (cf107, 96, .inl f107)), (qf100, .inl (cf100, 48000, .inl f100)), (qf109, .inl (cf109, 96, .inl f109)), (qf102, .inl (cf102, 2048, .inl f102)), (qf104, .inl (cf104, 8, .inl f104)), (qf118, .inl (cf118, 2100, .inl g118_42)), (qf119, .inl (cf119, 2100, .inl g119_42)), (qf108, .inl (cf108, 8, .inl f108))]) [0, 1, 2, 3, 4, 5, 6, 7, 8, 9] rfl
          have hD9 := hD.sub (ws' := [(h0, .inr (13, z42)), (qf106, .inl (cf106, 8, .inl f106)), (qf107, .inl (cf107, 96, .inl f107)), (qf100, .inl (cf100, 48000, .inl f100)), (qf109, .inl (cf109, 96, .inl f109)), (qf102, .inl (cf102, 2048, .inl f102)), (qf104, .inl (cf104, 8, .inl f104)), (qf118, .inl (cf118, 2100, .inl g118_42)), (qf119, .inl (cf119, 2100, .inl g119_42)), (qf108, .inl (cf108, 8, .inl f108))]) [0, 1, 2, 3, 4, 5, 6, 7, 8, 9] (by decide) rfl
          have hK9 := hK.sub (tys' := [(cf106, .int), (cf107, .int), (cf100, .int), (cf109, .int), (cf102, .int), (cf104, .int), (cf118, .int), (cf119, .int), (cf108, .int)]) [0, 1, 2, 3, 4, 5, 6, 7, 8] rfl
          exact W.zret hx hb hr (by decide) (fun t ht hW => ⟨⟨(1), (z42), rfl, ⟨⟨rfl, Or.inr rfl⟩, hlh_42, hrh_42, hfh_42_117, hfh_42_120⟩, by rw [ht]; exact hP9, va_K.moved hW.alike hK9, hD9⟩, hS.F ht⟩) hS.2.2 dX13_kindsAreThere_150
      · rw [if_neg c_8] at hsp
        refine lv_iload_n hx hb dX13_kindsAreThere_52 rfl (lv_at hl 3 rfl) ?_
        refine lv_if_eq (tgt := 149) hx hb dX13_kindsAreThere_53 (by decide) (fun c_9 => ?_) (fun c_9 => ?_)
        · rw [if_pos c_9] at hsp
          refine lv_iload_n hx hb dX13_kindsAreThere_149 rfl (lv_at hl 3 rfl) ?_
          rcases ox_01 hsp with ⟨rfl, hsp⟩ | ⟨rfl, hsp⟩
          · skip
            have hr0 := Option.some.inj hsp
            clear hsp
            obtain ⟨hq0, hr1⟩ := Prod.mk.inj hr0
            clear hr0
            obtain ⟨hq1, hr2⟩ := Prod.mk.inj hr1
            clear hr1
            obtain ⟨hq2, hr3⟩ := Prod.mk.inj hr2
            clear hr2
            obtain ⟨hq3, hr4⟩ := Prod.mk.inj hr3
            clear hr3
            subst hq0
            subst hq1
            subst hq2
            subst hq3
            subst hr4
            have hP9 := hP.sub (ws' := [(h0, .inr (13, z42)), (qf106, .inl (cf106, 8, .inl f106)), (qf107, .inl (cf107, 96, .inl f107)), (qf100, .inl (cf100, 48000, .inl f100)), (qf109, .inl (cf109, 96, .inl f109)), (qf102, .inl (cf102, 2048, .inl f102)), (qf104, .inl (cf104, 8, .inl f104)), (qf118, .inl (cf118, 2100, .inl g118_42)), (qf119, .inl (cf119, 2100, .inl g119_42)), (qf108, .inl (cf108, 8, .inl f108))]) [0, 1, 2, 3, 4, 5, 6, 7, 8, 9] rfl
            have hD9 := hD.sub (ws' := [(h0, .inr (13, z42)), (qf106, .inl (cf106, 8, .inl f106)), (qf107, .inl (cf107, 96, .inl f107)), (qf100, .inl (cf100, 48000, .inl f100)), (qf109, .inl (cf109, 96, .inl f109)), (qf102, .inl (cf102, 2048, .inl f102)), (qf104, .inl (cf104, 8, .inl f104)), (qf118, .inl (cf118, 2100, .inl g118_42)), (qf119, .inl (cf119, 2100, .inl g119_42)), (qf108, .inl (cf108, 8, .inl f108))]) [0, 1, 2, 3, 4, 5, 6, 7, 8, 9] (by decide) rfl
            have hK9 := hK.sub (tys' := [(cf106, .int), (cf107, .int), (cf100, .int), (cf109, .int), (cf102, .int), (cf104, .int), (cf118, .int), (cf119, .int), (cf108, .int)]) [0, 1, 2, 3, 4, 5, 6, 7, 8] rfl
            exact W.zret hx hb hr (by decide) (fun t ht hW => ⟨⟨(0), (z42), rfl, ⟨⟨rfl, Or.inl rfl⟩, hlh_42, hrh_42, hfh_42_117, hfh_42_120⟩, by rw [ht]; exact hP9, va_K.moved hW.alike hK9, hD9⟩, hS.F ht⟩) hS.2.2 dX13_kindsAreThere_150
          · skip
            have hr0 := Option.some.inj hsp
            clear hsp
            obtain ⟨hq0, hr1⟩ := Prod.mk.inj hr0
            clear hr0
            obtain ⟨hq1, hr2⟩ := Prod.mk.inj hr1
            clear hr1
            obtain ⟨hq2, hr3⟩ := Prod.mk.inj hr2
            clear hr2
            obtain ⟨hq3, hr4⟩ := Prod.mk.inj hr3
            clear hr3
            subst hq0
            subst hq1
            subst hq2
            subst hq3
            subst hr4
            have hP9 := hP.sub (ws' := [(h0, .inr (13, z42)), (qf106, .inl (cf106, 8, .inl f106)), (qf107, .inl (cf107, 96, .inl f107)), (qf100, .inl (cf100, 48000, .inl f100)), (qf109, .inl (cf109, 96, .inl f109)), (qf102, .inl (cf102, 2048, .inl f102)), (qf104, .inl (cf104, 8, .inl f104)), (qf118, .inl (cf118, 2100, .inl g118_42)), (qf119, .inl (cf119, 2100, .inl g119_42)), (qf108, .inl (cf108, 8, .inl f108))]) [0, 1, 2, 3, 4, 5, 6, 7, 8, 9] rfl
            have hD9 := hD.sub (ws' := [(h0, .inr (13, z42)), (qf106, .inl (cf106, 8, .inl f106)), (qf107, .inl (cf107, 96, .inl f107)), (qf100, .inl (cf100, 48000, .inl f100)), (qf109, .inl (cf109, 96, .inl f109)), (qf102, .inl (cf102, 2048, .inl f102)), (qf104, .inl (cf104, 8, .inl f104)), (qf118, .inl (cf118, 2100, .inl g118_42)), (qf119, .inl (cf119, 2100, .inl g119_42)), (qf108, .inl (cf108, 8, .inl f108))]) [0, 1, 2, 3, 4, 5, 6, 7, 8, 9] (by decide) rfl
            have hK9 := hK.sub (tys' := [(cf106, .int), (cf107, .int), (cf100, .int), (cf109, .int), (cf102, .int), (cf104, .int), (cf118, .int), (cf119, .int), (cf108, .int)]) [0, 1, 2, 3, 4, 5, 6, 7, 8] rfl
            exact W.zret hx hb hr (by decide) (fun t ht hW => ⟨⟨(1), (z42), rfl, ⟨⟨rfl, Or.inr rfl⟩, hlh_42, hrh_42, hfh_42_117, hfh_42_120⟩, by rw [ht]; exact hP9, va_K.moved hW.alike hK9, hD9⟩, hS.F ht⟩) hS.2.2 dX13_kindsAreThere_150
        · rw [if_neg c_9] at hsp
          refine lv_sipush (v := 6000) hx hb dX13_kindsAreThere_56 (by decide) ?_
          refine lv_iload_n hx hb dX13_kindsAreThere_59 rfl (lv_at hl 2 rfl) ?_
          refine lv_imul hx hb dX13_kindsAreThere_60 ?_
          refine lv_aload_n hx hb dX13_kindsAreThere_61 rfl (lv_at hl 1 rfl) ?_
          refine va_get (D := (dC, dI)) (ci := 13) (v := .ref qf102) (C := RX13) (T := TX13) (N := 155) hx hb hts uV_h9_X13 hown hK hP 0 rfl rfl 102 (by decide) (hts (.fieldLink RX13 215 "ClassMillModel" "constantAt" "[I") mw_h9_267) (fun _ h9 => h9) hfh_42_102 dX13_kindsAreThere_62 ?_
          refine lv_sipush (v := 256) hx hb dX13_kindsAreThere_65 (by decide) ?_
          refine lv_iload_n hx hb dX13_kindsAreThere_68 rfl (lv_at hl 2 rfl) ?_
          refine lv_imul hx hb dX13_kindsAreThere_69 ?_
          refine lv_aload_n hx hb dX13_kindsAreThere_70 rfl (lv_at hl 1 rfl) ?_
          refine lv_iload_n hx hb dX13_kindsAreThere_71 rfl (lv_at hl 2 rfl) ?_
          refine lv_iload_n hx hb dX13_kindsAreThere_72 rfl (lv_at hl 0 rfl) ?_
          refine lv_iconst (v := 1) hx hb dX13_kindsAreThere_73 (by decide) ?_
          obtain ⟨u4_0, hu_4, hsp⟩ := ox_bind hsp
          try dsimp only at hsp
          have hPc := hP.sub (ws' := [(h0, .inr (13, z42)), (qf107, .inl (cf107, 96, .inl f107)), (qf100, .inl (cf100, 48000, .inl f100)), (qf109, .inl (cf109, 96, .inl f109))]) [0, 2, 3, 4] rfl
          have hDc := hD.sub (ws' := [(h0, .inr (13, z42)), (qf107, .inl (cf107, 96, .inl f107)), (qf100, .inl (cf100, 48000, .inl f100)), (qf109, .inl (cf109, 96, .inl f109))]) [0, 2, 3, 4] (by decide) rfl
          have hKc := hK.sub (tys' := [(cf107, .int), (cf100, .int), (cf109, .int)]) [1, 2, 3] rfl
          have hFc := va_free (wc := [(h0, .inr (13, z42)), (qf107, .inl (cf107, 96, .inl f107)), (qf100, .inl (cf100, 48000, .inl f100)), (qf109, .inl (cf109, 96, .inl f109))]) hD hS hA [0, 2, 3, 4] rfl
          refine va_calli (va_runV (As := [.int l1_42, .int l3_42, .int 1]) (rest := [.int (256 * l1_42), .ref qf102, .int (6000 * l1_42)]) ⟨hx, hb, hml, hown, hts⟩ (tm_kindText l dC dI H.size h0 z42 l1_42 l3_42 1 qf100 qf107 qf109 cf107 f107 cf100 f100 cf109 f109 nf u4_0 hlh_42 hfh_42_100 hfh_42_107 hfh_42_109 hu_4) (cwV 3 hts gv_h9_57 rfl rfl rfl (by decide +kernel) ⟨Nat.le_of_ble_eq_true rfl, Nat.le_of_ble_eq_true rfl⟩) ⟨fun a U g mk q => by obtain ⟨q0, q1, qP, qK, qD⟩ := q; exact ⟨q0, q1, qP, va_K.moved (u := U) (U := U.calling g mk a) (Vm.Alike.refl U.vm) qK, qD⟩, va_recv hKc hPc (ci := 13) (q0 := 0) rfl rfl, fun U hU hW => ⟨rfl, by rw [hU], by rw [hU]; exact hPc, va_K.moved hW.alike hKc, hDc.weaken (fun _ _ _ _ => trivial)⟩⟩ rfl rfl hl.1 rfl (lv_room (Nat.le_of_ble_eq_true rfl)) dX13_kindsAreThere_74 ⟨Nat.le_of_ble_eq_true rfl, Nat.le_of_ble_eq_true rfl⟩) hS (fun q _ h => hFc q h) hFc ?_
          clear hS
          intro r_10 u t H1 locs ht hvm hw hB hz1 hk1 hS
          obtain ⟨z_4, rfl⟩ : ∃ z, z = u := ⟨_, rfl⟩
          obtain ⟨hP1, hK1, hD1⟩ := hB
          rw [ht] at hP1
          have hK1 := va_K.moved hvm.symm hK1
          try dsimp only at hw
          have hPD := va_join (wr := [(qf106, .inl (cf106, 8, .inl f106)), (qf102, .inl (cf102, 2048, .inl f102)), (qf104, .inl (cf104, 8, .inl f104)), (qf118, .inl (cf118, 2100, .inl g118_42)), (qf119, .inl (cf119, 2100, .inl g119_42)), (qf108, .inl (cf108, 8, .inl f108))]) (w1 := [(h0, .inr (13, z_4)), (qf107, .inl (cf107, 96, .inl f107)), (qf100, .inl (cf100, 48000, .inl f100)), (qf109, .inl (cf109, 96, .inl f109))]) hP hD [0, 2, 3, 4] [1, 5, 6, 7, 8, 9] rfl rfl (by decide) (by decide) hk1 hFc hP1 hD1
          clear hP hD
          obtain ⟨hP, hD⟩ := hPD
          replace hK := (hK.sub (tys' := [(cf106, .int), (cf102, .int), (cf104, .int), (cf118, .int), (cf119, .int), (cf108, .int)]) [0, 4, 5, 6, 7, 8] rfl).app hK1
          clear hPc hDc hKc hFc hP1 hK1 hD1 hz1 hk1 ht hvm
          generalize H1 = H at hP hS ⊢
          replace hP : va_P (dC, dI) vwCl [(qf106, .inl (cf106, 8, .inl f106)), (qf102, .inl (cf102, 2048, .inl f102)), (qf104, .inl (cf104, 8, .inl f104)), (qf118, .inl (cf118, 2100, .inl g118_42)), (qf119, .inl (cf119, 2100, .inl g119_42)), (qf108, .inl (cf108, 8, .inl f108)), (h0, .inr (13, z_4)), (qf107, .inl (cf107, 96, .inl f107)), (qf100, .inl (cf100, 48000, .inl f100)), (qf109, .inl (cf109, 96, .inl f109))] H := hP
          replace hD : va_D A [(qf106, .inl (cf106, 8, .inl f106)), (qf102, .inl (cf102, 2048, .inl f102)), (qf104, .inl (cf104, 8, .inl f104)), (qf118, .inl (cf118, 2100, .inl g118_42)), (qf119, .inl (cf119, 2100, .inl g119_42)), (qf108, .inl (cf108, 8, .inl f108)), (h0, .inr (13, z_4)), (qf107, .inl (cf107, 96, .inl f107)), (qf100, .inl (cf100, 48000, .inl f100)), (qf109, .inl (cf109, 96, .inl f109))] := hD
          replace hK : va_K (dC, dI) vwCl [(cf106, .int), (cf102, .int), (cf104, .int), (cf118, .int), (cf119, .int), (cf108, .int), (cf107, .int), (cf100, .int), (cf109, .int)] s := hK
          obtain ⟨hwa_4, hln_4, hre_4⟩ := hw
          have hfk_4_98 : z_4[98]? = some (.int v98) := (hre_4 98 ).trans (hfh_42_98)
          have hfk_4_100 : z_4[100]? = some (.ref qf100) := (hre_4 100 ).trans (hfh_42_100)
          have hfk_4_102 : z_4[102]? = some (.ref qf102) := (hre_4 102 ).trans (hfh_42_102)
          have hfk_4_104 : z_4[104]? = some (.ref qf104) := (hre_4 104 ).trans (hfh_42_104)
          have hfk_4_106 : z_4[106]? = some (.ref qf106) := (hre_4 106 ).trans (hfh_42_106)
          have hfk_4_107 : z_4[107]? = some (.ref qf107) := (hre_4 107 ).trans (hfh_42_107)
          have hfk_4_108 : z_4[108]? = some (.ref qf108) := (hre_4 108 ).trans (hfh_42_108)
          have hfk_4_109 : z_4[109]? = some (.ref qf109) := (hre_4 109 ).trans (hfh_42_109)
          have hfk_4_117 : z_4[117]? = some (.int x117_42) := (hre_4 117 ).trans (hfh_42_117)
          have hfk_4_118 : z_4[118]? = some (.ref qf118) := (hre_4 118 ).trans (hfh_42_118)
          have hfk_4_119 : z_4[119]? = some (.ref qf119) := (hre_4 119 ).trans (hfh_42_119)
          have hfk_4_120 : z_4[120]? = some (.int x120_42) := (hre_4 120 ).trans (hfh_42_120)
          have hrq_4 : ∀ j : Nat, j ≠ 117 → j ≠ 120 → z_4[j]? = zs[j]? := fun j g117 g120 => (hre_4 j ).trans (hrh_42 j g117 g120)
          obtain rfl := hwa_4
          refine lv_iadd hx hb dX13_kindsAreThere_77 ?_
          obtain ⟨hi_11, hsp⟩ := ox_in hsp
          refine va_iald hx hb hK hP 1 1 rfl rfl (i := ((256 * l1_42) + u4_0)) hi_11 dX13_kindsAreThere_78 ?_
          refine lv_iadd hx hb dX13_kindsAreThere_79 ?_
          refine lv_iconst (v := 3) hx hb dX13_kindsAreThere_80 (by decide) ?_
          refine lv_iadd hx hb dX13_kindsAreThere_81 ?_
          refine lv_istore (lv' := [(4, .int (((6000 * l1_42) + (f102 (((256 * l1_42) + u4_0) : Int32).toNatClampNeg)) + 3)), (3, .int l3_42), (0, .ref h0), (1, .int l1_42), (2, .int l2_42)]) hx hb dX13_kindsAreThere_82 hl (by decide) rfl (fun ls hl => ?_)
          replace hl : lv_has ls 5 [(4, .int (((6000 * l1_42) + (f102 (((256 * l1_42) + u4_0) : Int32).toNatClampNeg)) + 3)), (3, .int l3_42), (0, .ref h0), (1, .int l1_42), (2, .int l2_42)] := lv_sub hl [0, 1, 2, 3, 4] rfl
          replace hP := hP.sub (ws' := [(h0, .inr (13, z_4)), (qf106, .inl (cf106, 8, .inl f106)), (qf107, .inl (cf107, 96, .inl f107)), (qf100, .inl (cf100, 48000, .inl f100)), (qf109, .inl (cf109, 96, .inl f109)), (qf102, .inl (cf102, 2048, .inl f102)), (qf104, .inl (cf104, 8, .inl f104)), (qf118, .inl (cf118, 2100, .inl g118_42)), (qf119, .inl (cf119, 2100, .inl g119_42)), (qf108, .inl (cf108, 8, .inl f108))]) [6, 0, 7, 8, 9, 1, 2, 3, 4, 5] rfl
          replace hD := hD.sub (ws' := [(h0, .inr (13, z_4)), (qf106, .inl (cf106, 8, .inl f106)), (qf107, .inl (cf107, 96, .inl f107)), (qf100, .inl (cf100, 48000, .inl f100)), (qf109, .inl (cf109, 96, .inl f109)), (qf102, .inl (cf102, 2048, .inl f102)), (qf104, .inl (cf104, 8, .inl f104)), (qf118, .inl (cf118, 2100, .inl g118_42)), (qf119, .inl (cf119, 2100, .inl g119_42)), (qf108, .inl (cf108, 8, .inl f108))]) [6, 0, 7, 8, 9, 1, 2, 3, 4, 5] (by decide) rfl
          replace hK := hK.sub (tys' := [(cf106, .int), (cf107, .int), (cf100, .int), (cf109, .int), (cf102, .int), (cf104, .int), (cf118, .int), (cf119, .int), (cf108, .int)]) [0, 6, 7, 8, 1, 2, 3, 4, 5] rfl
          obtain ⟨n_84, hn_84⟩ : ∃ z : Nat, z = nf := ⟨_, rfl⟩
          obtain ⟨l1_84, el1_84⟩ : ∃ z : Int32, z = l1_42 := ⟨_, rfl⟩
          obtain ⟨l2_84, el2_84⟩ : ∃ z : Int32, z = l2_42 := ⟨_, rfl⟩
          obtain ⟨l3_84, el3_84⟩ : ∃ z : Int32, z = l3_42 := ⟨_, rfl⟩
          obtain ⟨l4_84, el4_84⟩ : ∃ z : Int32, z = (((6000 * l1_42) + (f102 (((256 * l1_42) + u4_0) : Int32).toNatClampNeg)) + 3) := ⟨_, rfl⟩
          obtain ⟨g118_84, eg118_84⟩ : ∃ z : Nat → Int32, z = g118_42 := ⟨_, rfl⟩
          obtain ⟨g119_84, eg119_84⟩ : ∃ z : Nat → Int32, z = g119_42 := ⟨_, rfl⟩
          obtain ⟨x117_84, ex117_84⟩ : ∃ z : Int32, z = x117_42 := ⟨_, rfl⟩
          obtain ⟨x120_84, ex120_84⟩ : ∃ z : Int32, z = x120_42 := ⟨_, rfl⟩
          replace hsp : lp_vm_kindsAreThere_84 nf n_84 a1 v98 v117 v120 f106 f107 f100 f109 f102 f104 f118 f119 f108 nS477 fS477 (lp_vm_kindsAreThere_42 nf n_42 a1 v98 v117 v120 f106 f107 f100 f109 f102 f104 f118 f119 f108 nS477 fS477) l1_84 l2_84 l3_84 l4_84 g118_84 g119_84 x117_84 x120_84 = some (r0, o118, o119, w117, w120) := by rw [hn_84, el1_84, el2_84, el3_84, el4_84, eg118_84, eg119_84, ex117_84, ex120_84]; exact hsp
          replace hl : lv_has ls 5 [(4, .int l4_84), (3, .int l3_84), (0, .ref h0), (1, .int l1_84), (2, .int l2_84)] := by rw [el1_84, el2_84, el3_84, el4_84]; exact hl
          obtain ⟨z84, ez84⟩ : ∃ z : List Value, z = z_4 := ⟨_, rfl⟩
          have hfh_84_98 : z84[98]? = some (.int v98) := by rw [ez84]; exact hfk_4_98
          have hfh_84_100 : z84[100]? = some (.ref qf100) := by rw [ez84]; exact hfk_4_100
          have hfh_84_102 : z84[102]? = some (.ref qf102) := by rw [ez84]; exact hfk_4_102
          have hfh_84_104 : z84[104]? = some (.ref qf104) := by rw [ez84]; exact hfk_4_104
          have hfh_84_106 : z84[106]? = some (.ref qf106) := by rw [ez84]; exact hfk_4_106
          have hfh_84_107 : z84[107]? = some (.ref qf107) := by rw [ez84]; exact hfk_4_107
          have hfh_84_108 : z84[108]? = some (.ref qf108) := by rw [ez84]; exact hfk_4_108
          have hfh_84_109 : z84[109]? = some (.ref qf109) := by rw [ez84]; exact hfk_4_109
          have hfh_84_117 : z84[117]? = some (.int x117_84) := by rw [ez84, ex117_84]; exact hfk_4_117
          have hfh_84_118 : z84[118]? = some (.ref qf118) := by rw [ez84]; exact hfk_4_118
          have hfh_84_119 : z84[119]? = some (.ref qf119) := by rw [ez84]; exact hfk_4_119
          have hfh_84_120 : z84[120]? = some (.int x120_84) := by rw [ez84, ex120_84]; exact hfk_4_120
          have hlh_84 : z84.length = 155 := by rw [ez84]; exact hln_4
          have hrh_84 : ∀ j : Nat, j ≠ 117 → j ≠ 120 → z84[j]? = zs[j]? := by rw [ez84]; exact hrq_4
          replace hP : va_P (dC, dI) vwCl [(h0, .inr (13, z84)), (qf106, .inl (cf106, 8, .inl f106)), (qf107, .inl (cf107, 96, .inl f107)), (qf100, .inl (cf100, 48000, .inl f100)), (qf109, .inl (cf109, 96, .inl f109)), (qf102, .inl (cf102, 2048, .inl f102)), (qf104, .inl (cf104, 8, .inl f104)), (qf118, .inl (cf118, 2100, .inl g118_84)), (qf119, .inl (cf119, 2100, .inl g119_84)), (qf108, .inl (cf108, 8, .inl f108))] H := by rw [ez84, eg118_84, eg119_84]; exact hP
          replace hD : va_D A [(h0, .inr (13, z84)), (qf106, .inl (cf106, 8, .inl f106)), (qf107, .inl (cf107, 96, .inl f107)), (qf100, .inl (cf100, 48000, .inl f100)), (qf109, .inl (cf109, 96, .inl f109)), (qf102, .inl (cf102, 2048, .inl f102)), (qf104, .inl (cf104, 8, .inl f104)), (qf118, .inl (cf118, 2100, .inl g118_84)), (qf119, .inl (cf119, 2100, .inl g119_84)), (qf108, .inl (cf108, 8, .inl f108))] := by rw [ez84, eg118_84, eg119_84]; exact hD
          clear hn_84 ez84 el1_84 el2_84 el3_84 el4_84 eg118_84 eg119_84 ex117_84 ex120_84
          try clear hlo
          try clear hH
          revert hsp
          revert hP
          revert hD
          revert hS
          revert hl
          revert hrh_84
          revert hlh_84
          revert hfh_84_120
          revert hfh_84_119
          revert hfh_84_118
          revert hfh_84_117
          revert hfh_84_109
          revert hfh_84_108
          revert hfh_84_107
          revert hfh_84_106
          revert hfh_84_104
          revert hfh_84_102
          revert hfh_84_100
          revert hfh_84_98
          revert x120_84
          revert x117_84
          revert g119_84
          revert g118_84
          revert l4_84
          revert l3_84
          revert l2_84
          revert l1_84
          revert z84
          revert ls
          revert locs
          revert H
          induction n_84 with
          | zero => intro H locs ls z84 l1_84 l2_84 l3_84 l4_84 g118_84 g119_84 x117_84 x120_84 hfh_84_98 hfh_84_100 hfh_84_102 hfh_84_104 hfh_84_106 hfh_84_107 hfh_84_108 hfh_84_109 hfh_84_117 hfh_84_118 hfh_84_119 hfh_84_120 hlh_84 hrh_84 hl hS hD hP hsp; unfold lp_vm_kindsAreThere_84 at hsp; cases hsp
          | succ n_84 ih_84 =>
            intro H locs ls z84 l1_84 l2_84 l3_84 l4_84 g118_84 g119_84 x117_84 x120_84 hfh_84_98 hfh_84_100 hfh_84_102 hfh_84_104 hfh_84_106 hfh_84_107 hfh_84_108 hfh_84_109 hfh_84_117 hfh_84_118 hfh_84_119 hfh_84_120 hlh_84 hrh_84 hl hS hD hP hsp
            unfold lp_vm_kindsAreThere_84 at hsp
            try dsimp only at hsp
            refine lv_aload_n hx hb dX13_kindsAreThere_84 rfl (lv_at hl 2 rfl) ?_
            refine va_get (D := (dC, dI)) (ci := 13) (v := .ref qf100) (C := RX13) (T := TX13) (N := 155) hx hb hts uV_h9_X13 hown hK hP 0 rfl rfl 100 (by decide) (hts (.fieldLink RX13 209 "ClassMillModel" "bytes" "[I") mw_h9_266) (fun _ h9 => h9) hfh_84_100 dX13_kindsAreThere_85 ?_
            refine lv_iload hx hb dX13_kindsAreThere_88 (lv_at hl 0 rfl) ?_
            obtain ⟨hi_12, hsp⟩ := ox_in hsp
            refine va_iald hx hb hK hP 3 2 rfl rfl (i := l4_84) hi_12 dX13_kindsAreThere_90 ?_
            refine lv_bipush (v := 41) hx hb dX13_kindsAreThere_91 (by decide) ?_
            refine lv_icmp_eq (tgt := 119) hx hb dX13_kindsAreThere_93 (by decide) (fun c_13 => ?_) (fun c_13 => ?_)
            · rw [if_pos c_13] at hsp
              exact hj_119 (H, locs, ls, z84, l1_84, l2_84, l3_84, l4_84, g118_84, g119_84, x117_84, x120_84) ⟨lv_sub hl [2, 3, 4, 1, 0] rfl, hS, hD.sub (ws' := [(h0, .inr (13, z84)), (qf106, .inl (cf106, 8, .inl f106)), (qf107, .inl (cf107, 96, .inl f107)), (qf100, .inl (cf100, 48000, .inl f100)), (qf109, .inl (cf109, 96, .inl f109)), (qf102, .inl (cf102, 2048, .inl f102)), (qf104, .inl (cf104, 8, .inl f104)), (qf118, .inl (cf118, 2100, .inl g118_84)), (qf119, .inl (cf119, 2100, .inl g119_84)), (qf108, .inl (cf108, 8, .inl f108))]) [0, 1, 2, 3, 4, 5, 6, 7, 8, 9] (by decide) rfl, hP.sub (ws' := [(h0, .inr (13, z84)), (qf106, .inl (cf106, 8, .inl f106)), (qf107, .inl (cf107, 96, .inl f107)), (qf100, .inl (cf100, 48000, .inl f100)), (qf109, .inl (cf109, 96, .inl f109)), (qf102, .inl (cf102, 2048, .inl f102)), (qf104, .inl (cf104, 8, .inl f104)), (qf118, .inl (cf118, 2100, .inl g118_84)), (qf119, .inl (cf119, 2100, .inl g119_84)), (qf108, .inl (cf108, 8, .inl f108))]) [0, 1, 2, 3, 4, 5, 6, 7, 8, 9] rfl, hfh_84_98, hfh_84_100, hfh_84_102, hfh_84_104, hfh_84_106, hfh_84_107, hfh_84_108, hfh_84_109, hfh_84_117, hfh_84_118, hfh_84_119, hfh_84_120, hlh_84, hrh_84, hsp⟩
            · rw [if_neg c_13] at hsp
              refine lv_iload_n hx hb dX13_kindsAreThere_96 rfl (lv_at hl 4 rfl) ?_
              refine lv_if_eq (tgt := 119) hx hb dX13_kindsAreThere_97 (by decide) (fun c_14 => ?_) (fun c_14 => ?_)
              · rw [if_pos c_14] at hsp
                exact hj_119 (H, locs, ls, z84, l1_84, l2_84, l3_84, l4_84, g118_84, g119_84, x117_84, x120_84) ⟨lv_sub hl [2, 3, 4, 1, 0] rfl, hS, hD.sub (ws' := [(h0, .inr (13, z84)), (qf106, .inl (cf106, 8, .inl f106)), (qf107, .inl (cf107, 96, .inl f107)), (qf100, .inl (cf100, 48000, .inl f100)), (qf109, .inl (cf109, 96, .inl f109)), (qf102, .inl (cf102, 2048, .inl f102)), (qf104, .inl (cf104, 8, .inl f104)), (qf118, .inl (cf118, 2100, .inl g118_84)), (qf119, .inl (cf119, 2100, .inl g119_84)), (qf108, .inl (cf108, 8, .inl f108))]) [0, 1, 2, 3, 4, 5, 6, 7, 8, 9] (by decide) rfl, hP.sub (ws' := [(h0, .inr (13, z84)), (qf106, .inl (cf106, 8, .inl f106)), (qf107, .inl (cf107, 96, .inl f107)), (qf100, .inl (cf100, 48000, .inl f100)), (qf109, .inl (cf109, 96, .inl f109)), (qf102, .inl (cf102, 2048, .inl f102)), (qf104, .inl (cf104, 8, .inl f104)), (qf118, .inl (cf118, 2100, .inl g118_84)), (qf119, .inl (cf119, 2100, .inl g119_84)), (qf108, .inl (cf108, 8, .inl f108))]) [0, 1, 2, 3, 4, 5, 6, 7, 8, 9] rfl, hfh_84_98, hfh_84_100, hfh_84_102, hfh_84_104, hfh_84_106, hfh_84_107, hfh_84_108, hfh_84_109, hfh_84_117, hfh_84_118, hfh_84_119, hfh_84_120, hlh_84, hrh_84, hsp⟩
              · rw [if_neg c_14] at hsp
                refine lv_aload_n hx hb dX13_kindsAreThere_100 rfl (lv_at hl 2 rfl) ?_
                refine lv_iload hx hb dX13_kindsAreThere_101 (lv_at hl 0 rfl) ?_
                obtain ⟨⟨u5_0, g905_1, g905_2, u5_3, u5_4⟩, hu_5, hsp⟩ := ox_bind hsp
                try dsimp only at hsp
                have hPc := hP.sub (ws' := [(h0, .inr (13, z84)), (qf100, .inl (cf100, 48000, .inl f100)), (qf104, .inl (cf104, 8, .inl f104)), (qf102, .inl (cf102, 2048, .inl f102)), (qf118, .inl (cf118, 2100, .inl g118_84)), (qf119, .inl (cf119, 2100, .inl g119_84))]) [0, 3, 6, 5, 7, 8] rfl
                have hDc := hD.sub (ws' := [(h0, .inr (13, z84)), (qf100, .inl (cf100, 48000, .inl f100)), (qf104, .inl (cf104, 8, .inl f104)), (qf102, .inl (cf102, 2048, .inl f102)), (qf118, .inl (cf118, 2100, .inl g118_84)), (qf119, .inl (cf119, 2100, .inl g119_84))]) [0, 3, 6, 5, 7, 8] (by decide) rfl
                have hKc := hK.sub (tys' := [(cf100, .int), (cf104, .int), (cf102, .int), (cf118, .int), (cf119, .int)]) [2, 5, 4, 6, 7] rfl
                have hFc := va_free (wc := [(h0, .inr (13, z84)), (qf100, .inl (cf100, 48000, .inl f100)), (qf104, .inl (cf104, 8, .inl f104)), (qf102, .inl (cf102, 2048, .inl f102)), (qf118, .inl (cf118, 2100, .inl g118_84)), (qf119, .inl (cf119, 2100, .inl g119_84))]) hD hS hA [0, 3, 6, 5, 7, 8] rfl
                refine va_calli (va_runV (As := [.int l4_84]) (rest := []) ⟨hx, hb, hml, hown, hts⟩ (vm_typeAt l dC dI H.size h0 z84 l4_84 v98 qf100 qf102 qf104 x117_84 qf118 qf119 x120_84 cf100 f100 cf104 f104 cf102 f102 cf118 g118_84 cf119 g119_84 nS477 fS477 hS477 qS477 tS477 nf u5_0 g905_1 g905_2 u5_3 u5_4 hlh_84 hfh_84_98 hfh_84_100 hfh_84_102 hfh_84_104 hfh_84_117 hfh_84_118 hfh_84_119 hfh_84_120 hu_5) (cwV 1 hts gv_h9_100 rfl rfl rfl (by decide +kernel) ⟨Nat.le_of_ble_eq_true rfl, Nat.le_of_ble_eq_true rfl⟩) ⟨fun a U g mk q => by obtain ⟨q0, q1, qP, qK, qD, qhZWS477, qhZRS477⟩ := q; exact ⟨q0, q1, qP, va_K.moved (u := U) (U := U.calling g mk a) (Vm.Alike.refl U.vm) qK, qD, pz_W.moved (u := U) (U := U.calling g mk a) (Vm.Alike.refl U.vm) qhZWS477, vk_R.same rfl qhZRS477⟩, va_recv hKc hPc (ci := 13) (q0 := 0) rfl rfl, fun U hU hW => ⟨rfl, by rw [hU], by rw [hU]; exact hPc, va_K.moved hW.alike hKc, hDc.weaken (fun _ _ _ _ => trivial), by rw [hU]; exact ((pz_W.moved hW.alike hZWS477).kept hS.2.1).narrow hFc, vk_R.warm hW hZRS477⟩⟩ rfl rfl hl.1 rfl (lv_room (Nat.le_of_ble_eq_true rfl)) dX13_kindsAreThere_103 ⟨Nat.le_of_ble_eq_true rfl, Nat.le_of_ble_eq_true rfl⟩) hS (fun q _ h => hFc q h) hFc ?_
                clear hS
                intro r_15 u t H1 locs ht hvm hw hB hz1 hk1 hS
                obtain ⟨z_5, rfl⟩ : ∃ z, z = u := ⟨_, rfl⟩
                obtain ⟨hP1, hK1, hD1⟩ := hB
                rw [ht] at hP1
                have hK1 := va_K.moved hvm.symm hK1
                try dsimp only at hw
                have hPD := va_join (wr := [(qf106, .inl (cf106, 8, .inl f106)), (qf107, .inl (cf107, 96, .inl f107)), (qf109, .inl (cf109, 96, .inl f109)), (qf108, .inl (cf108, 8, .inl f108))]) (w1 := [(h0, .inr (13, z_5)), (qf100, .inl (cf100, 48000, .inl f100)), (qf104, .inl (cf104, 8, .inl f104)), (qf102, .inl (cf102, 2048, .inl f102)), (qf118, .inl (cf118, 2100, .inl g905_1)), (qf119, .inl (cf119, 2100, .inl g905_2))]) hP hD [0, 3, 6, 5, 7, 8] [1, 2, 4, 9] rfl rfl (by decide) (by decide) hk1 hFc hP1 hD1
                clear hP hD
                obtain ⟨hP, hD⟩ := hPD
                replace hK := (hK.sub (tys' := [(cf106, .int), (cf107, .int), (cf109, .int), (cf108, .int)]) [0, 1, 3, 8] rfl).app hK1
                clear hPc hDc hKc hFc hP1 hK1 hD1 hz1 hk1 ht hvm
                generalize H1 = H at hP hS ⊢
                replace hP : va_P (dC, dI) vwCl [(qf106, .inl (cf106, 8, .inl f106)), (qf107, .inl (cf107, 96, .inl f107)), (qf109, .inl (cf109, 96, .inl f109)), (qf108, .inl (cf108, 8, .inl f108)), (h0, .inr (13, z_5)), (qf100, .inl (cf100, 48000, .inl f100)), (qf104, .inl (cf104, 8, .inl f104)), (qf102, .inl (cf102, 2048, .inl f102)), (qf118, .inl (cf118, 2100, .inl g905_1)), (qf119, .inl (cf119, 2100, .inl g905_2))] H := hP
                replace hD : va_D A [(qf106, .inl (cf106, 8, .inl f106)), (qf107, .inl (cf107, 96, .inl f107)), (qf109, .inl (cf109, 96, .inl f109)), (qf108, .inl (cf108, 8, .inl f108)), (h0, .inr (13, z_5)), (qf100, .inl (cf100, 48000, .inl f100)), (qf104, .inl (cf104, 8, .inl f104)), (qf102, .inl (cf102, 2048, .inl f102)), (qf118, .inl (cf118, 2100, .inl g905_1)), (qf119, .inl (cf119, 2100, .inl g905_2))] := hD
                replace hK : va_K (dC, dI) vwCl [(cf106, .int), (cf107, .int), (cf109, .int), (cf108, .int), (cf100, .int), (cf104, .int), (cf102, .int), (cf118, .int), (cf119, .int)] s := hK
                obtain ⟨hwa_5, hln_5, hre_5, hch_5_117, hch_5_120⟩ := hw
                have hfk_5_98 : z_5[98]? = some (.int v98) := (hre_5 98 (by decide) (by decide)).trans (hfh_84_98)
                have hfk_5_100 : z_5[100]? = some (.ref qf100) := (hre_5 100 (by decide) (by decide)).trans (hfh_84_100)
                have hfk_5_102 : z_5[102]? = some (.ref qf102) := (hre_5 102 (by decide) (by decide)).trans (hfh_84_102)
                have hfk_5_104 : z_5[104]? = some (.ref qf104) := (hre_5 104 (by decide) (by decide)).trans (hfh_84_104)
                have hfk_5_106 : z_5[106]? = some (.ref qf106) := (hre_5 106 (by decide) (by decide)).trans (hfh_84_106)
                have hfk_5_107 : z_5[107]? = some (.ref qf107) := (hre_5 107 (by decide) (by decide)).trans (hfh_84_107)
                have hfk_5_108 : z_5[108]? = some (.ref qf108) := (hre_5 108 (by decide) (by decide)).trans (hfh_84_108)
                have hfk_5_109 : z_5[109]? = some (.ref qf109) := (hre_5 109 (by decide) (by decide)).trans (hfh_84_109)
                have hfk_5_118 : z_5[118]? = some (.ref qf118) := (hre_5 118 (by decide) (by decide)).trans (hfh_84_118)
                have hfk_5_119 : z_5[119]? = some (.ref qf119) := (hre_5 119 (by decide) (by decide)).trans (hfh_84_119)
                have hrq_5 : ∀ j : Nat, j ≠ 117 → j ≠ 120 → z_5[j]? = zs[j]? := fun j g117 g120 => (hre_5 j g117 g120).trans (hrh_84 j g117 g120)
                obtain rfl := hwa_5
                obtain ⟨u6_0, hu_6, hsp⟩ := ox_bind hsp
                try dsimp only at hsp
                have hPc := hP.sub (ws' := []) [] rfl
                have hDc := hD.sub (ws' := []) [] (by decide) rfl
                have hKc := hK.sub (tys' := []) [] rfl
                have hFc := va_free (wc := []) hD hS hA [] rfl
                refine va_calli (va_runS (As := [.int u5_0]) (rest := []) ⟨hx, hb, hml, hown, hts⟩ (tm_isThere l dC dI H.size u5_0 nf u6_0 hu_6) (va_cwS 1 hts gv_h9_104 rfl rfl rfl (by decide +kernel) ⟨Nat.le_of_ble_eq_true rfl, Nat.le_of_ble_eq_true rfl⟩) ⟨fun a U g mk q => by obtain ⟨q0, q1, qP, qK, qD⟩ := q; exact ⟨q0, q1, qP, va_K.moved (u := U) (U := U.calling g mk a) (Vm.Alike.refl U.vm) qK, qD⟩, fun U hU hW => ⟨rfl, by rw [hU], by rw [hU]; exact hPc, va_K.moved hW.alike hKc, hDc.weaken (fun _ _ _ _ => trivial)⟩⟩ rfl rfl hl.1 rfl (lv_room (Nat.le_of_ble_eq_true rfl)) dX13_kindsAreThere_106 ⟨Nat.le_of_ble_eq_true rfl, Nat.le_of_ble_eq_true rfl⟩) hS (fun q _ h => hFc q h) hFc ?_
                clear hS
                intro r_16 u t H1 locs ht hvm hw hB hz1 hk1 hS
                obtain ⟨⟩ := u
                obtain ⟨hP1, hK1, hD1⟩ := hB
                rw [ht] at hP1
                have hK1 := va_K.moved hvm.symm hK1
                try dsimp only at hw
                have hPD := va_join (wr := [(qf106, .inl (cf106, 8, .inl f106)), (qf107, .inl (cf107, 96, .inl f107)), (qf109, .inl (cf109, 96, .inl f109)), (qf108, .inl (cf108, 8, .inl f108)), (h0, .inr (13, z_5)), (qf100, .inl (cf100, 48000, .inl f100)), (qf104, .inl (cf104, 8, .inl f104)), (qf102, .inl (cf102, 2048, .inl f102)), (qf118, .inl (cf118, 2100, .inl g905_1)), (qf119, .inl (cf119, 2100, .inl g905_2))]) (w1 := []) hP hD [] [0, 1, 2, 3, 4, 5, 6, 7, 8, 9] rfl rfl (by decide) (by decide) hk1 hFc hP1 hD1
                clear hP hD
                obtain ⟨hP, hD⟩ := hPD
                replace hK := (hK.sub (tys' := [(cf106, .int), (cf107, .int), (cf109, .int), (cf108, .int), (cf100, .int), (cf104, .int), (cf102, .int), (cf118, .int), (cf119, .int)]) [0, 1, 2, 3, 4, 5, 6, 7, 8] rfl).app hK1
                clear hPc hDc hKc hFc hP1 hK1 hD1 hz1 hk1 ht hvm
                generalize H1 = H at hP hS ⊢
                replace hP : va_P (dC, dI) vwCl [(qf106, .inl (cf106, 8, .inl f106)), (qf107, .inl (cf107, 96, .inl f107)), (qf109, .inl (cf109, 96, .inl f109)), (qf108, .inl (cf108, 8, .inl f108)), (h0, .inr (13, z_5)), (qf100, .inl (cf100, 48000, .inl f100)), (qf104, .inl (cf104, 8, .inl f104)), (qf102, .inl (cf102, 2048, .inl f102)), (qf118, .inl (cf118, 2100, .inl g905_1)), (qf119, .inl (cf119, 2100, .inl g905_2))] H := hP
                replace hD : va_D A [(qf106, .inl (cf106, 8, .inl f106)), (qf107, .inl (cf107, 96, .inl f107)), (qf109, .inl (cf109, 96, .inl f109)), (qf108, .inl (cf108, 8, .inl f108)), (h0, .inr (13, z_5)), (qf100, .inl (cf100, 48000, .inl f100)), (qf104, .inl (cf104, 8, .inl f104)), (qf102, .inl (cf102, 2048, .inl f102)), (qf118, .inl (cf118, 2100, .inl g905_1)), (qf119, .inl (cf119, 2100, .inl g905_2))] := hD
                replace hK : va_K (dC, dI) vwCl [(cf106, .int), (cf107, .int), (cf109, .int), (cf108, .int), (cf100, .int), (cf104, .int), (cf102, .int), (cf118, .int), (cf119, .int)] s := hK
                obtain ⟨rfl, hz_6⟩ := hw
                rcases hz_6 with rfl | rfl
                · rw [if_pos rfl] at hsp
                  refine lv_istore_n (lv' := [(2, .int 0), (4, .int l4_84), (3, .int l3_84), (0, .ref h0), (1, .int l1_84)]) hx hb dX13_kindsAreThere_109 rfl hl (by decide) rfl (fun ls hl => ?_)
                  refine lv_aload_n hx hb dX13_kindsAreThere_110 rfl (lv_at hl 3 rfl) ?_
                  refine va_get (D := (dC, dI)) (ci := 13) (v := .int u5_4) (C := RX13) (T := TX13) (N := 155) hx hb hts uV_h9_X13 hown hK hP 4 rfl rfl 120 (by decide) (hts (.fieldLink RX13 879 "ClassMillModel" "kindEnd" "I") mw_h9_496) (fun _ h9 => h9) hch_5_120 dX13_kindsAreThere_111 ?_
                  refine lv_istore (lv' := [(4, .int u5_4), (2, .int 0), (3, .int l3_84), (0, .ref h0), (1, .int l1_84)]) hx hb dX13_kindsAreThere_114 hl (by decide) rfl (fun ls hl => ?_)
                  refine lv_goto (tgt := 84) hx hb dX13_kindsAreThere_116 (by decide) ?_
                  exact ih_84 H locs ls z_5 l1_84 0 l3_84 u5_4 g905_1 g905_2 u5_3 u5_4 (hfk_5_98) (hfk_5_100) (hfk_5_102) (hfk_5_104) (hfk_5_106) (hfk_5_107) (hfk_5_108) (hfk_5_109) (hch_5_117) (hfk_5_118) (hfk_5_119) (hch_5_120) hln_5 hrq_5 (lv_sub hl [0, 2, 3, 4, 1] rfl) hS (hD.sub (ws' := [(h0, .inr (13, z_5)), (qf106, .inl (cf106, 8, .inl f106)), (qf107, .inl (cf107, 96, .inl f107)), (qf100, .inl (cf100, 48000, .inl f100)), (qf109, .inl (cf109, 96, .inl f109)), (qf102, .inl (cf102, 2048, .inl f102)), (qf104, .inl (cf104, 8, .inl f104)), (qf118, .inl (cf118, 2100, .inl g905_1)), (qf119, .inl (cf119, 2100, .inl g905_2)), (qf108, .inl (cf108, 8, .inl f108))]) [4, 0, 1, 5, 2, 7, 6, 8, 9, 3] (by decide) rfl) (hP.sub (ws' := [(h0, .inr (13, z_5)), (qf106, .inl (cf106, 8, .inl f106)), (qf107, .inl (cf107, 96, .inl f107)), (qf100, .inl (cf100, 48000, .inl f100)), (qf109, .inl (cf109, 96, .inl f109)), (qf102, .inl (cf102, 2048, .inl f102)), (qf104, .inl (cf104, 8, .inl f104)), (qf118, .inl (cf118, 2100, .inl g905_1)), (qf119, .inl (cf119, 2100, .inl g905_2)), (qf108, .inl (cf108, 8, .inl f108))]) [4, 0, 1, 5, 2, 7, 6, 8, 9, 3] rfl) hsp
                · rw [if_neg (by decide)] at hsp
                  refine lv_istore_n (lv' := [(2, .int 1), (4, .int l4_84), (3, .int l3_84), (0, .ref h0), (1, .int l1_84)]) hx hb dX13_kindsAreThere_109 rfl hl (by decide) rfl (fun ls hl => ?_)
                  refine lv_aload_n hx hb dX13_kindsAreThere_110 rfl (lv_at hl 3 rfl) ?_
                  refine va_get (D := (dC, dI)) (ci := 13) (v := .int u5_4) (C := RX13) (T := TX13) (N := 155) hx hb hts uV_h9_X13 hown hK hP 4 rfl rfl 120 (by decide) (hts (.fieldLink RX13 879 "ClassMillModel" "kindEnd" "I") mw_h9_496) (fun _ h9 => h9) hch_5_120 dX13_kindsAreThere_111 ?_
                  refine lv_istore (lv' := [(4, .int u5_4), (2, .int 1), (3, .int l3_84), (0, .ref h0), (1, .int l1_84)]) hx hb dX13_kindsAreThere_114 hl (by decide) rfl (fun ls hl => ?_)
                  refine lv_goto (tgt := 84) hx hb dX13_kindsAreThere_116 (by decide) ?_
                  exact ih_84 H locs ls z_5 l1_84 1 l3_84 u5_4 g905_1 g905_2 u5_3 u5_4 (hfk_5_98) (hfk_5_100) (hfk_5_102) (hfk_5_104) (hfk_5_106) (hfk_5_107) (hfk_5_108) (hfk_5_109) (hch_5_117) (hfk_5_118) (hfk_5_119) (hch_5_120) hln_5 hrq_5 (lv_sub hl [0, 2, 3, 4, 1] rfl) hS (hD.sub (ws' := [(h0, .inr (13, z_5)), (qf106, .inl (cf106, 8, .inl f106)), (qf107, .inl (cf107, 96, .inl f107)), (qf100, .inl (cf100, 48000, .inl f100)), (qf109, .inl (cf109, 96, .inl f109)), (qf102, .inl (cf102, 2048, .inl f102)), (qf104, .inl (cf104, 8, .inl f104)), (qf118, .inl (cf118, 2100, .inl g905_1)), (qf119, .inl (cf119, 2100, .inl g905_2)), (qf108, .inl (cf108, 8, .inl f108))]) [4, 0, 1, 5, 2, 7, 6, 8, 9, 3] (by decide) rfl) (hP.sub (ws' := [(h0, .inr (13, z_5)), (qf106, .inl (cf106, 8, .inl f106)), (qf107, .inl (cf107, 96, .inl f107)), (qf100, .inl (cf100, 48000, .inl f100)), (qf109, .inl (cf109, 96, .inl f109)), (qf102, .inl (cf102, 2048, .inl f102)), (qf104, .inl (cf104, 8, .inl f104)), (qf118, .inl (cf118, 2100, .inl g905_1)), (qf119, .inl (cf119, 2100, .inl g905_2)), (qf108, .inl (cf108, 8, .inl f108))]) [4, 0, 1, 5, 2, 7, 6, 8, 9, 3] rfl) hsp
  intro hj_40
  refine lv_iconst (v := 1) hx hb dX13_kindsAreThere_0 (by decide) ?_
  refine lv_istore_n (lv' := [(2, .int 1), (0, .ref h0), (1, .int a1)]) hx hb dX13_kindsAreThere_1 rfl hl (by decide) rfl (fun ls hl => ?_)
  refine lv_iconst (v := 0) hx hb dX13_kindsAreThere_2 (by decide) ?_
  refine lv_istore_n (lv' := [(3, .int 0), (2, .int 1), (0, .ref h0), (1, .int a1)]) hx hb dX13_kindsAreThere_3 rfl hl (by decide) rfl (fun ls hl => ?_)
  replace hl : lv_has ls 5 [(3, .int 0), (2, .int 1), (0, .ref h0), (1, .int a1)] := lv_sub hl [0, 1, 2, 3] rfl
  replace hP := hP.sub (ws' := [(h0, .inr (13, zs)), (qf106, .inl (cf106, 8, .inl f106)), (qf107, .inl (cf107, 96, .inl f107)), (qf100, .inl (cf100, 48000, .inl f100)), (qf109, .inl (cf109, 96, .inl f109)), (qf102, .inl (cf102, 2048, .inl f102)), (qf104, .inl (cf104, 8, .inl f104)), (qf118, .inl (cf118, 2100, .inl f118)), (qf119, .inl (cf119, 2100, .inl f119)), (qf108, .inl (cf108, 8, .inl f108))]) [0, 1, 2, 3, 4, 5, 6, 7, 8, 9] rfl
  replace hD := hD.sub (ws' := [(h0, .inr (13, zs)), (qf106, .inl (cf106, 8, .inl f106)), (qf107, .inl (cf107, 96, .inl f107)), (qf100, .inl (cf100, 48000, .inl f100)), (qf109, .inl (cf109, 96, .inl f109)), (qf102, .inl (cf102, 2048, .inl f102)), (qf104, .inl (cf104, 8, .inl f104)), (qf118, .inl (cf118, 2100, .inl f118)), (qf119, .inl (cf119, 2100, .inl f119)), (qf108, .inl (cf108, 8, .inl f108))]) [0, 1, 2, 3, 4, 5, 6, 7, 8, 9] (by decide) rfl
  replace hK := hK.sub (tys' := [(cf106, .int), (cf107, .int), (cf100, .int), (cf109, .int), (cf102, .int), (cf104, .int), (cf118, .int), (cf119, .int), (cf108, .int)]) [0, 1, 2, 3, 4, 5, 6, 7, 8] rfl
  obtain ⟨n_4, hn_4⟩ : ∃ z : Nat, z = nf := ⟨_, rfl⟩
  obtain ⟨l1_4, el1_4⟩ : ∃ z : Int32, z = a1 := ⟨_, rfl⟩
  obtain ⟨l2_4, el2_4⟩ : ∃ z : Int32, z = 1 := ⟨_, rfl⟩
  obtain ⟨l3_4, el3_4⟩ : ∃ z : Int32, z = 0 := ⟨_, rfl⟩
  obtain ⟨g118_4, eg118_4⟩ : ∃ z : Nat → Int32, z = f118 := ⟨_, rfl⟩
  obtain ⟨g119_4, eg119_4⟩ : ∃ z : Nat → Int32, z = f119 := ⟨_, rfl⟩
  obtain ⟨x117_4, ex117_4⟩ : ∃ z : Int32, z = v117 := ⟨_, rfl⟩
  obtain ⟨x120_4, ex120_4⟩ : ∃ z : Int32, z = v120 := ⟨_, rfl⟩
  replace hsp : lp_vm_kindsAreThere_4 nf n_4 a1 v98 v117 v120 f106 f107 f100 f109 f102 f104 f118 f119 f108 nS477 fS477 l1_4 l2_4 l3_4 g118_4 g119_4 x117_4 x120_4 = some (r0, o118, o119, w117, w120) := by rw [hn_4, el1_4, el2_4, el3_4, eg118_4, eg119_4, ex117_4, ex120_4]; exact hsp
  replace hl : lv_has ls 5 [(3, .int l3_4), (2, .int l2_4), (0, .ref h0), (1, .int l1_4)] := by rw [el1_4, el2_4, el3_4]; exact hl
  obtain ⟨z4, ez4⟩ : ∃ z : List Value, z = zs := ⟨_, rfl⟩
  have hfh_4_98 : z4[98]? = some (.int v98) := by rw [ez4]; exact hf98
  have hfh_4_100 : z4[100]? = some (.ref qf100) := by rw [ez4]; exact hf100
  have hfh_4_102 : z4[102]? = some (.ref qf102) := by rw [ez4]; exact hf102
  have hfh_4_104 : z4[104]? = some (.ref qf104) := by rw [ez4]; exact hf104
  have hfh_4_106 : z4[106]? = some (.ref qf106) := by rw [ez4]; exact hf106
  have hfh_4_107 : z4[107]? = some (.ref qf107) := by rw [ez4]; exact hf107
  have hfh_4_108 : z4[108]? = some (.ref qf108) := by rw [ez4]; exact hf108
  have hfh_4_109 : z4[109]? = some (.ref qf109) := by rw [ez4]; exact hf109
  have hfh_4_117 : z4[117]? = some (.int x117_4) := by rw [ez4, ex117_4]; exact hf117
  have hfh_4_118 : z4[118]? = some (.ref qf118) := by rw [ez4]; exact hf118
  have hfh_4_119 : z4[119]? = some (.ref qf119) := by rw [ez4]; exact hf119
  have hfh_4_120 : z4[120]? = some (.int x120_4) := by rw [ez4, ex120_4]; exact hf120
  have hlh_4 : z4.length = 155 := by rw [ez4]; exact hlen
  have hrh_4 : ∀ j : Nat, j ≠ 117 → j ≠ 120 → z4[j]? = zs[j]? := by rw [ez4]; exact hrs0
  replace hP : va_P (dC, dI) vwCl [(h0, .inr (13, z4)), (qf106, .inl (cf106, 8, .inl f106)), (qf107, .inl (cf107, 96, .inl f107)), (qf100, .inl (cf100, 48000, .inl f100)), (qf109, .inl (cf109, 96, .inl f109)), (qf102, .inl (cf102, 2048, .inl f102)), (qf104, .inl (cf104, 8, .inl f104)), (qf118, .inl (cf118, 2100, .inl g118_4)), (qf119, .inl (cf119, 2100, .inl g119_4)), (qf108, .inl (cf108, 8, .inl f108))] H := by rw [ez4, eg118_4, eg119_4]; exact hP
  replace hD : va_D A [(h0, .inr (13, z4)), (qf106, .inl (cf106, 8, .inl f106)), (qf107, .inl (cf107, 96, .inl f107)), (qf100, .inl (cf100, 48000, .inl f100)), (qf109, .inl (cf109, 96, .inl f109)), (qf102, .inl (cf102, 2048, .inl f102)), (qf104, .inl (cf104, 8, .inl f104)), (qf118, .inl (cf118, 2100, .inl g118_4)), (qf119, .inl (cf119, 2100, .inl g119_4)), (qf108, .inl (cf108, 8, .inl f108))] := by rw [ez4, eg118_4, eg119_4]; exact hD
  clear hn_4 ez4 el1_4 el2_4 el3_4 eg118_4 eg119_4 ex117_4 ex120_4
  try clear hlo
  try clear hH
  revert hsp
  revert hP
  revert hD
  revert hS
  revert hl
  revert hrh_4
  revert hlh_4
  revert hfh_4_120
  revert hfh_4_119
  revert hfh_4_118
  revert hfh_4_117
  revert hfh_4_109
  revert hfh_4_108
  revert hfh_4_107
  revert hfh_4_106
  revert hfh_4_104
  revert hfh_4_102
  revert hfh_4_100
  revert hfh_4_98
  revert x120_4
  revert x117_4
  revert g119_4
  revert g118_4
  revert l3_4
  revert l2_4
  revert l1_4
  revert z4
  revert ls
  revert locs
  revert H
  induction n_4 with
  | zero => intro H locs ls z4 l1_4 l2_4 l3_4 g118_4 g119_4 x117_4 x120_4 hfh_4_98 hfh_4_100 hfh_4_102 hfh_4_104 hfh_4_106 hfh_4_107 hfh_4_108 hfh_4_109 hfh_4_117 hfh_4_118 hfh_4_119 hfh_4_120 hlh_4 hrh_4 hl hS hD hP hsp; unfold lp_vm_kindsAreThere_4 at hsp; cases hsp
  | succ n_4 ih_4 =>
    intro H locs ls z4 l1_4 l2_4 l3_4 g118_4 g119_4 x117_4 x120_4 hfh_4_98 hfh_4_100 hfh_4_102 hfh_4_104 hfh_4_106 hfh_4_107 hfh_4_108 hfh_4_109 hfh_4_117 hfh_4_118 hfh_4_119 hfh_4_120 hlh_4 hrh_4 hl hS hD hP hsp
    unfold lp_vm_kindsAreThere_4 at hsp
    try dsimp only at hsp
    refine lv_iload_n hx hb dX13_kindsAreThere_4 rfl (lv_at hl 0 rfl) ?_
    refine lv_aload_n hx hb dX13_kindsAreThere_5 rfl (lv_at hl 2 rfl) ?_
    refine va_get (D := (dC, dI)) (ci := 13) (v := .ref qf106) (C := RX13) (T := TX13) (N := 155) hx hb hts uV_h9_X13 hown hK hP 0 rfl rfl 106 (by decide) (hts (.fieldLink RX13 227 "ClassMillModel" "fieldMany" "[I") mw_h9_256) (fun _ h9 => h9) hfh_4_106 dX13_kindsAreThere_6 ?_
    refine lv_iload_n hx hb dX13_kindsAreThere_9 rfl (lv_at hl 3 rfl) ?_
    obtain ⟨hi_1, hsp⟩ := ox_in hsp
    refine va_iald hx hb hK hP 1 0 rfl rfl (i := l1_4) hi_1 dX13_kindsAreThere_10 ?_
    refine lv_icmp_ge (tgt := 40) hx hb dX13_kindsAreThere_11 (by decide) (fun c_2 => ?_) (fun c_2 => ?_)
    · rw [if_pos c_2] at hsp
      exact hj_40 (H, locs, ls, z4, l1_4, l2_4, g118_4, g119_4, x117_4, x120_4) ⟨lv_sub hl [2, 3, 1] rfl, hS, hD.sub (ws' := [(h0, .inr (13, z4)), (qf106, .inl (cf106, 8, .inl f106)), (qf107, .inl (cf107, 96, .inl f107)), (qf100, .inl (cf100, 48000, .inl f100)), (qf109, .inl (cf109, 96, .inl f109)), (qf102, .inl (cf102, 2048, .inl f102)), (qf104, .inl (cf104, 8, .inl f104)), (qf118, .inl (cf118, 2100, .inl g118_4)), (qf119, .inl (cf119, 2100, .inl g119_4)), (qf108, .inl (cf108, 8, .inl f108))]) [0, 1, 2, 3, 4, 5, 6, 7, 8, 9] (by decide) rfl, hP.sub (ws' := [(h0, .inr (13, z4)), (qf106, .inl (cf106, 8, .inl f106)), (qf107, .inl (cf107, 96, .inl f107)), (qf100, .inl (cf100, 48000, .inl f100)), (qf109, .inl (cf109, 96, .inl f109)), (qf102, .inl (cf102, 2048, .inl f102)), (qf104, .inl (cf104, 8, .inl f104)), (qf118, .inl (cf118, 2100, .inl g118_4)), (qf119, .inl (cf119, 2100, .inl g119_4)), (qf108, .inl (cf108, 8, .inl f108))]) [0, 1, 2, 3, 4, 5, 6, 7, 8, 9] rfl, hfh_4_98, hfh_4_100, hfh_4_102, hfh_4_104, hfh_4_106, hfh_4_107, hfh_4_108, hfh_4_109, hfh_4_117, hfh_4_118, hfh_4_119, hfh_4_120, hlh_4, hrh_4, hsp⟩
    · rw [if_neg c_2] at hsp
      refine lv_iload_n hx hb dX13_kindsAreThere_14 rfl (lv_at hl 1 rfl) ?_
      refine lv_if_eq (tgt := 40) hx hb dX13_kindsAreThere_15 (by decide) (fun c_3 => ?_) (fun c_3 => ?_)
      · rw [if_pos c_3] at hsp
        exact hj_40 (H, locs, ls, z4, l1_4, l2_4, g118_4, g119_4, x117_4, x120_4) ⟨lv_sub hl [2, 3, 1] rfl, hS, hD.sub (ws' := [(h0, .inr (13, z4)), (qf106, .inl (cf106, 8, .inl f106)), (qf107, .inl (cf107, 96, .inl f107)), (qf100, .inl (cf100, 48000, .inl f100)), (qf109, .inl (cf109, 96, .inl f109)), (qf102, .inl (cf102, 2048, .inl f102)), (qf104, .inl (cf104, 8, .inl f104)), (qf118, .inl (cf118, 2100, .inl g118_4)), (qf119, .inl (cf119, 2100, .inl g119_4)), (qf108, .inl (cf108, 8, .inl f108))]) [0, 1, 2, 3, 4, 5, 6, 7, 8, 9] (by decide) rfl, hP.sub (ws' := [(h0, .inr (13, z4)), (qf106, .inl (cf106, 8, .inl f106)), (qf107, .inl (cf107, 96, .inl f107)), (qf100, .inl (cf100, 48000, .inl f100)), (qf109, .inl (cf109, 96, .inl f109)), (qf102, .inl (cf102, 2048, .inl f102)), (qf104, .inl (cf104, 8, .inl f104)), (qf118, .inl (cf118, 2100, .inl g118_4)), (qf119, .inl (cf119, 2100, .inl g119_4)), (qf108, .inl (cf108, 8, .inl f108))]) [0, 1, 2, 3, 4, 5, 6, 7, 8, 9] rfl, hfh_4_98, hfh_4_100, hfh_4_102, hfh_4_104, hfh_4_106, hfh_4_107, hfh_4_108, hfh_4_109, hfh_4_117, hfh_4_118, hfh_4_119, hfh_4_120, hlh_4, hrh_4, hsp⟩
      · rw [if_neg c_3] at hsp
        refine lv_aload_n hx hb dX13_kindsAreThere_18 rfl (lv_at hl 2 rfl) ?_
        refine lv_iload_n hx hb dX13_kindsAreThere_19 rfl (lv_at hl 3 rfl) ?_
        refine lv_aload_n hx hb dX13_kindsAreThere_20 rfl (lv_at hl 2 rfl) ?_
        refine lv_iload_n hx hb dX13_kindsAreThere_21 rfl (lv_at hl 3 rfl) ?_
        refine lv_iload_n hx hb dX13_kindsAreThere_22 rfl (lv_at hl 0 rfl) ?_
        refine lv_iconst (v := 0) hx hb dX13_kindsAreThere_23 (by decide) ?_
        obtain ⟨u1_0, hu_1, hsp⟩ := ox_bind hsp
        try dsimp only at hsp
        have hPc := hP.sub (ws' := [(h0, .inr (13, z4)), (qf107, .inl (cf107, 96, .inl f107)), (qf100, .inl (cf100, 48000, .inl f100)), (qf109, .inl (cf109, 96, .inl f109))]) [0, 2, 3, 4] rfl
        have hDc := hD.sub (ws' := [(h0, .inr (13, z4)), (qf107, .inl (cf107, 96, .inl f107)), (qf100, .inl (cf100, 48000, .inl f100)), (qf109, .inl (cf109, 96, .inl f109))]) [0, 2, 3, 4] (by decide) rfl
        have hKc := hK.sub (tys' := [(cf107, .int), (cf100, .int), (cf109, .int)]) [1, 2, 3] rfl
        have hFc := va_free (wc := [(h0, .inr (13, z4)), (qf107, .inl (cf107, 96, .inl f107)), (qf100, .inl (cf100, 48000, .inl f100)), (qf109, .inl (cf109, 96, .inl f109))]) hD hS hA [0, 2, 3, 4] rfl
        refine va_calli (va_runV (As := [.int l1_4, .int l3_4, .int 0]) (rest := [.int l1_4, .ref h0]) ⟨hx, hb, hml, hown, hts⟩ (tm_kindText l dC dI H.size h0 z4 l1_4 l3_4 0 qf100 qf107 qf109 cf107 f107 cf100 f100 cf109 f109 nf u1_0 hlh_4 hfh_4_100 hfh_4_107 hfh_4_109 hu_1) (cwV 3 hts gv_h9_57 rfl rfl rfl (by decide +kernel) ⟨Nat.le_of_ble_eq_true rfl, Nat.le_of_ble_eq_true rfl⟩) ⟨fun a U g mk q => by obtain ⟨q0, q1, qP, qK, qD⟩ := q; exact ⟨q0, q1, qP, va_K.moved (u := U) (U := U.calling g mk a) (Vm.Alike.refl U.vm) qK, qD⟩, va_recv hKc hPc (ci := 13) (q0 := 0) rfl rfl, fun U hU hW => ⟨rfl, by rw [hU], by rw [hU]; exact hPc, va_K.moved hW.alike hKc, hDc.weaken (fun _ _ _ _ => trivial)⟩⟩ rfl rfl hl.1 rfl (lv_room (Nat.le_of_ble_eq_true rfl)) dX13_kindsAreThere_24 ⟨Nat.le_of_ble_eq_true rfl, Nat.le_of_ble_eq_true rfl⟩) hS (fun q _ h => hFc q h) hFc ?_
        clear hS
        intro r_4 u t H1 locs ht hvm hw hB hz1 hk1 hS
        obtain ⟨z_1, rfl⟩ : ∃ z, z = u := ⟨_, rfl⟩
        obtain ⟨hP1, hK1, hD1⟩ := hB
        rw [ht] at hP1
        have hK1 := va_K.moved hvm.symm hK1
        try dsimp only at hw
        have hPD := va_join (wr := [(qf106, .inl (cf106, 8, .inl f106)), (qf102, .inl (cf102, 2048, .inl f102)), (qf104, .inl (cf104, 8, .inl f104)), (qf118, .inl (cf118, 2100, .inl g118_4)), (qf119, .inl (cf119, 2100, .inl g119_4)), (qf108, .inl (cf108, 8, .inl f108))]) (w1 := [(h0, .inr (13, z_1)), (qf107, .inl (cf107, 96, .inl f107)), (qf100, .inl (cf100, 48000, .inl f100)), (qf109, .inl (cf109, 96, .inl f109))]) hP hD [0, 2, 3, 4] [1, 5, 6, 7, 8, 9] rfl rfl (by decide) (by decide) hk1 hFc hP1 hD1
        clear hP hD
        obtain ⟨hP, hD⟩ := hPD
        replace hK := (hK.sub (tys' := [(cf106, .int), (cf102, .int), (cf104, .int), (cf118, .int), (cf119, .int), (cf108, .int)]) [0, 4, 5, 6, 7, 8] rfl).app hK1
        clear hPc hDc hKc hFc hP1 hK1 hD1 hz1 hk1 ht hvm
        generalize H1 = H at hP hS ⊢
        replace hP : va_P (dC, dI) vwCl [(qf106, .inl (cf106, 8, .inl f106)), (qf102, .inl (cf102, 2048, .inl f102)), (qf104, .inl (cf104, 8, .inl f104)), (qf118, .inl (cf118, 2100, .inl g118_4)), (qf119, .inl (cf119, 2100, .inl g119_4)), (qf108, .inl (cf108, 8, .inl f108)), (h0, .inr (13, z_1)), (qf107, .inl (cf107, 96, .inl f107)), (qf100, .inl (cf100, 48000, .inl f100)), (qf109, .inl (cf109, 96, .inl f109))] H := hP
        replace hD : va_D A [(qf106, .inl (cf106, 8, .inl f106)), (qf102, .inl (cf102, 2048, .inl f102)), (qf104, .inl (cf104, 8, .inl f104)), (qf118, .inl (cf118, 2100, .inl g118_4)), (qf119, .inl (cf119, 2100, .inl g119_4)), (qf108, .inl (cf108, 8, .inl f108)), (h0, .inr (13, z_1)), (qf107, .inl (cf107, 96, .inl f107)), (qf100, .inl (cf100, 48000, .inl f100)), (qf109, .inl (cf109, 96, .inl f109))] := hD
        replace hK : va_K (dC, dI) vwCl [(cf106, .int), (cf102, .int), (cf104, .int), (cf118, .int), (cf119, .int), (cf108, .int), (cf107, .int), (cf100, .int), (cf109, .int)] s := hK
        obtain ⟨hwa_1, hln_1, hre_1⟩ := hw
        have hfk_1_98 : z_1[98]? = some (.int v98) := (hre_1 98 ).trans (hfh_4_98)
        have hfk_1_100 : z_1[100]? = some (.ref qf100) := (hre_1 100 ).trans (hfh_4_100)
        have hfk_1_102 : z_1[102]? = some (.ref qf102) := (hre_1 102 ).trans (hfh_4_102)
        have hfk_1_104 : z_1[104]? = some (.ref qf104) := (hre_1 104 ).trans (hfh_4_104)
        have hfk_1_106 : z_1[106]? = some (.ref qf106) := (hre_1 106 ).trans (hfh_4_106)
        have hfk_1_107 : z_1[107]? = some (.ref qf107) := (hre_1 107 ).trans (hfh_4_107)
        have hfk_1_108 : z_1[108]? = some (.ref qf108) := (hre_1 108 ).trans (hfh_4_108)
        have hfk_1_109 : z_1[109]? = some (.ref qf109) := (hre_1 109 ).trans (hfh_4_109)
        have hfk_1_117 : z_1[117]? = some (.int x117_4) := (hre_1 117 ).trans (hfh_4_117)
        have hfk_1_118 : z_1[118]? = some (.ref qf118) := (hre_1 118 ).trans (hfh_4_118)
        have hfk_1_119 : z_1[119]? = some (.ref qf119) := (hre_1 119 ).trans (hfh_4_119)
        have hfk_1_120 : z_1[120]? = some (.int x120_4) := (hre_1 120 ).trans (hfh_4_120)
        have hrq_1 : ∀ j : Nat, j ≠ 117 → j ≠ 120 → z_1[j]? = zs[j]? := fun j g117 g120 => (hre_1 j ).trans (hrh_4 j g117 g120)
        obtain rfl := hwa_1
        obtain ⟨⟨u2_0, g902_1, g902_2, u2_3, u2_4⟩, hu_2, hsp⟩ := ox_bind hsp
        try dsimp only at hsp
        have hPc := hP.sub (ws' := [(h0, .inr (13, z_1)), (qf102, .inl (cf102, 2048, .inl f102)), (qf100, .inl (cf100, 48000, .inl f100)), (qf104, .inl (cf104, 8, .inl f104)), (qf118, .inl (cf118, 2100, .inl g118_4)), (qf119, .inl (cf119, 2100, .inl g119_4))]) [6, 1, 8, 2, 3, 4] rfl
        have hDc := hD.sub (ws' := [(h0, .inr (13, z_1)), (qf102, .inl (cf102, 2048, .inl f102)), (qf100, .inl (cf100, 48000, .inl f100)), (qf104, .inl (cf104, 8, .inl f104)), (qf118, .inl (cf118, 2100, .inl g118_4)), (qf119, .inl (cf119, 2100, .inl g119_4))]) [6, 1, 8, 2, 3, 4] (by decide) rfl
        have hKc := hK.sub (tys' := [(cf102, .int), (cf100, .int), (cf104, .int), (cf118, .int), (cf119, .int)]) [1, 7, 2, 3, 4] rfl
        have hFc := va_free (wc := [(h0, .inr (13, z_1)), (qf102, .inl (cf102, 2048, .inl f102)), (qf100, .inl (cf100, 48000, .inl f100)), (qf104, .inl (cf104, 8, .inl f104)), (qf118, .inl (cf118, 2100, .inl g118_4)), (qf119, .inl (cf119, 2100, .inl g119_4))]) hD hS hA [6, 1, 8, 2, 3, 4] rfl
        refine va_calli (va_runV (As := [.int l1_4, .int u1_0]) (rest := []) ⟨hx, hb, hml, hown, hts⟩ (vm_kindType l dC dI H.size h0 z_1 l1_4 u1_0 v98 qf100 qf102 qf104 x117_4 qf118 qf119 x120_4 cf102 f102 cf100 f100 cf104 f104 cf118 g118_4 cf119 g119_4 nS477 fS477 hS477 qS477 tS477 nf u2_0 g902_1 g902_2 u2_3 u2_4 hln_1 hfk_1_98 hfk_1_100 hfk_1_102 hfk_1_104 hfk_1_117 hfk_1_118 hfk_1_119 hfk_1_120 hu_2) (cwV 2 hts gv_h9_103 rfl rfl rfl (by decide +kernel) ⟨Nat.le_of_ble_eq_true rfl, Nat.le_of_ble_eq_true rfl⟩) ⟨fun a U g mk q => by obtain ⟨q0, q1, qP, qK, qD, qhZWS477, qhZRS477⟩ := q; exact ⟨q0, q1, qP, va_K.moved (u := U) (U := U.calling g mk a) (Vm.Alike.refl U.vm) qK, qD, pz_W.moved (u := U) (U := U.calling g mk a) (Vm.Alike.refl U.vm) qhZWS477, vk_R.same rfl qhZRS477⟩, va_recv hKc hPc (ci := 13) (q0 := 0) rfl rfl, fun U hU hW => ⟨rfl, by rw [hU], by rw [hU]; exact hPc, va_K.moved hW.alike hKc, hDc.weaken (fun _ _ _ _ => trivial), by rw [hU]; exact ((pz_W.moved hW.alike hZWS477).kept hS.2.1).narrow hFc, vk_R.warm hW hZRS477⟩⟩ rfl rfl hl.1 rfl (lv_room (Nat.le_of_ble_eq_true rfl)) dX13_kindsAreThere_27 ⟨Nat.le_of_ble_eq_true rfl, Nat.le_of_ble_eq_true rfl⟩) hS (fun q _ h => hFc q h) hFc ?_
        clear hS
        intro r_5 u t H1 locs ht hvm hw hB hz1 hk1 hS
        obtain ⟨z_2, rfl⟩ : ∃ z, z = u := ⟨_, rfl⟩
        obtain ⟨hP1, hK1, hD1⟩ := hB
        rw [ht] at hP1
        have hK1 := va_K.moved hvm.symm hK1
        try dsimp only at hw
        have hPD := va_join (wr := [(qf106, .inl (cf106, 8, .inl f106)), (qf108, .inl (cf108, 8, .inl f108)), (qf107, .inl (cf107, 96, .inl f107)), (qf109, .inl (cf109, 96, .inl f109))]) (w1 := [(h0, .inr (13, z_2)), (qf102, .inl (cf102, 2048, .inl f102)), (qf100, .inl (cf100, 48000, .inl f100)), (qf104, .inl (cf104, 8, .inl f104)), (qf118, .inl (cf118, 2100, .inl g902_1)), (qf119, .inl (cf119, 2100, .inl g902_2))]) hP hD [6, 1, 8, 2, 3, 4] [0, 5, 7, 9] rfl rfl (by decide) (by decide) hk1 hFc hP1 hD1
        clear hP hD
        obtain ⟨hP, hD⟩ := hPD
        replace hK := (hK.sub (tys' := [(cf106, .int), (cf108, .int), (cf107, .int), (cf109, .int)]) [0, 5, 6, 8] rfl).app hK1
        clear hPc hDc hKc hFc hP1 hK1 hD1 hz1 hk1 ht hvm
        generalize H1 = H at hP hS ⊢
        replace hP : va_P (dC, dI) vwCl [(qf106, .inl (cf106, 8, .inl f106)), (qf108, .inl (cf108, 8, .inl f108)), (qf107, .inl (cf107, 96, .inl f107)), (qf109, .inl (cf109, 96, .inl f109)), (h0, .inr (13, z_2)), (qf102, .inl (cf102, 2048, .inl f102)), (qf100, .inl (cf100, 48000, .inl f100)), (qf104, .inl (cf104, 8, .inl f104)), (qf118, .inl (cf118, 2100, .inl g902_1)), (qf119, .inl (cf119, 2100, .inl g902_2))] H := hP
        replace hD : va_D A [(qf106, .inl (cf106, 8, .inl f106)), (qf108, .inl (cf108, 8, .inl f108)), (qf107, .inl (cf107, 96, .inl f107)), (qf109, .inl (cf109, 96, .inl f109)), (h0, .inr (13, z_2)), (qf102, .inl (cf102, 2048, .inl f102)), (qf100, .inl (cf100, 48000, .inl f100)), (qf104, .inl (cf104, 8, .inl f104)), (qf118, .inl (cf118, 2100, .inl g902_1)), (qf119, .inl (cf119, 2100, .inl g902_2))] := hD
        replace hK : va_K (dC, dI) vwCl [(cf106, .int), (cf108, .int), (cf107, .int), (cf109, .int), (cf102, .int), (cf100, .int), (cf104, .int), (cf118, .int), (cf119, .int)] s := hK
        obtain ⟨hwa_2, hln_2, hre_2, hch_2_117, hch_2_120⟩ := hw
        have hfk_2_98 : z_2[98]? = some (.int v98) := (hre_2 98 (by decide) (by decide)).trans (hfk_1_98)
        have hfk_2_100 : z_2[100]? = some (.ref qf100) := (hre_2 100 (by decide) (by decide)).trans (hfk_1_100)
        have hfk_2_102 : z_2[102]? = some (.ref qf102) := (hre_2 102 (by decide) (by decide)).trans (hfk_1_102)
        have hfk_2_104 : z_2[104]? = some (.ref qf104) := (hre_2 104 (by decide) (by decide)).trans (hfk_1_104)
        have hfk_2_106 : z_2[106]? = some (.ref qf106) := (hre_2 106 (by decide) (by decide)).trans (hfk_1_106)
        have hfk_2_107 : z_2[107]? = some (.ref qf107) := (hre_2 107 (by decide) (by decide)).trans (hfk_1_107)
        have hfk_2_108 : z_2[108]? = some (.ref qf108) := (hre_2 108 (by decide) (by decide)).trans (hfk_1_108)
        have hfk_2_109 : z_2[109]? = some (.ref qf109) := (hre_2 109 (by decide) (by decide)).trans (hfk_1_109)
        have hfk_2_118 : z_2[118]? = some (.ref qf118) := (hre_2 118 (by decide) (by decide)).trans (hfk_1_118)
        have hfk_2_119 : z_2[119]? = some (.ref qf119) := (hre_2 119 (by decide) (by decide)).trans (hfk_1_119)
        have hrq_2 : ∀ j : Nat, j ≠ 117 → j ≠ 120 → z_2[j]? = zs[j]? := fun j g117 g120 => (hre_2 j g117 g120).trans (hrq_1 j g117 g120)
        obtain rfl := hwa_2
        obtain ⟨u3_0, hu_3, hsp⟩ := ox_bind hsp
        try dsimp only at hsp
        have hPc := hP.sub (ws' := []) [] rfl
        have hDc := hD.sub (ws' := []) [] (by decide) rfl
        have hKc := hK.sub (tys' := []) [] rfl
        have hFc := va_free (wc := []) hD hS hA [] rfl
        refine va_calli (va_runS (As := [.int u2_0]) (rest := []) ⟨hx, hb, hml, hown, hts⟩ (tm_isThere l dC dI H.size u2_0 nf u3_0 hu_3) (va_cwS 1 hts gv_h9_104 rfl rfl rfl (by decide +kernel) ⟨Nat.le_of_ble_eq_true rfl, Nat.le_of_ble_eq_true rfl⟩) ⟨fun a U g mk q => by obtain ⟨q0, q1, qP, qK, qD⟩ := q; exact ⟨q0, q1, qP, va_K.moved (u := U) (U := U.calling g mk a) (Vm.Alike.refl U.vm) qK, qD⟩, fun U hU hW => ⟨rfl, by rw [hU], by rw [hU]; exact hPc, va_K.moved hW.alike hKc, hDc.weaken (fun _ _ _ _ => trivial)⟩⟩ rfl rfl hl.1 rfl (lv_room (Nat.le_of_ble_eq_true rfl)) dX13_kindsAreThere_30 ⟨Nat.le_of_ble_eq_true rfl, Nat.le_of_ble_eq_true rfl⟩) hS (fun q _ h => hFc q h) hFc ?_
        clear hS
        intro r_6 u t H1 locs ht hvm hw hB hz1 hk1 hS
        obtain ⟨⟩ := u
        obtain ⟨hP1, hK1, hD1⟩ := hB
        rw [ht] at hP1
        have hK1 := va_K.moved hvm.symm hK1
        try dsimp only at hw
        have hPD := va_join (wr := [(qf106, .inl (cf106, 8, .inl f106)), (qf108, .inl (cf108, 8, .inl f108)), (qf107, .inl (cf107, 96, .inl f107)), (qf109, .inl (cf109, 96, .inl f109)), (h0, .inr (13, z_2)), (qf102, .inl (cf102, 2048, .inl f102)), (qf100, .inl (cf100, 48000, .inl f100)), (qf104, .inl (cf104, 8, .inl f104)), (qf118, .inl (cf118, 2100, .inl g902_1)), (qf119, .inl (cf119, 2100, .inl g902_2))]) (w1 := []) hP hD [] [0, 1, 2, 3, 4, 5, 6, 7, 8, 9] rfl rfl (by decide) (by decide) hk1 hFc hP1 hD1
        clear hP hD
        obtain ⟨hP, hD⟩ := hPD
        replace hK := (hK.sub (tys' := [(cf106, .int), (cf108, .int), (cf107, .int), (cf109, .int), (cf102, .int), (cf100, .int), (cf104, .int), (cf118, .int), (cf119, .int)]) [0, 1, 2, 3, 4, 5, 6, 7, 8] rfl).app hK1
        clear hPc hDc hKc hFc hP1 hK1 hD1 hz1 hk1 ht hvm
        generalize H1 = H at hP hS ⊢
        replace hP : va_P (dC, dI) vwCl [(qf106, .inl (cf106, 8, .inl f106)), (qf108, .inl (cf108, 8, .inl f108)), (qf107, .inl (cf107, 96, .inl f107)), (qf109, .inl (cf109, 96, .inl f109)), (h0, .inr (13, z_2)), (qf102, .inl (cf102, 2048, .inl f102)), (qf100, .inl (cf100, 48000, .inl f100)), (qf104, .inl (cf104, 8, .inl f104)), (qf118, .inl (cf118, 2100, .inl g902_1)), (qf119, .inl (cf119, 2100, .inl g902_2))] H := hP
        replace hD : va_D A [(qf106, .inl (cf106, 8, .inl f106)), (qf108, .inl (cf108, 8, .inl f108)), (qf107, .inl (cf107, 96, .inl f107)), (qf109, .inl (cf109, 96, .inl f109)), (h0, .inr (13, z_2)), (qf102, .inl (cf102, 2048, .inl f102)), (qf100, .inl (cf100, 48000, .inl f100)), (qf104, .inl (cf104, 8, .inl f104)), (qf118, .inl (cf118, 2100, .inl g902_1)), (qf119, .inl (cf119, 2100, .inl g902_2))] := hD
        replace hK : va_K (dC, dI) vwCl [(cf106, .int), (cf108, .int), (cf107, .int), (cf109, .int), (cf102, .int), (cf100, .int), (cf104, .int), (cf118, .int), (cf119, .int)] s := hK
        obtain ⟨rfl, hz_3⟩ := hw
        rcases hz_3 with rfl | rfl
        · rw [if_pos rfl] at hsp
          refine lv_istore_n (lv' := [(2, .int 0), (3, .int l3_4), (0, .ref h0), (1, .int l1_4)]) hx hb dX13_kindsAreThere_33 rfl hl (by decide) rfl (fun ls hl => ?_)
          refine lv_iinc (v := (l3_4 + 1)) (lv' := [(3, .int (l3_4 + 1)), (2, .int 0), (0, .ref h0), (1, .int l1_4)]) hx hb dX13_kindsAreThere_34 hl (k := 1) rfl rfl (by decide) rfl (fun ls hl => ?_)
          refine lv_goto (tgt := 4) hx hb dX13_kindsAreThere_37 (by decide) ?_
          exact ih_4 H locs ls z_2 l1_4 0 (l3_4 + 1) g902_1 g902_2 u2_3 u2_4 (hfk_2_98) (hfk_2_100) (hfk_2_102) (hfk_2_104) (hfk_2_106) (hfk_2_107) (hfk_2_108) (hfk_2_109) (hch_2_117) (hfk_2_118) (hfk_2_119) (hch_2_120) hln_2 hrq_2 (lv_sub hl [0, 1, 2, 3] rfl) hS (hD.sub (ws' := [(h0, .inr (13, z_2)), (qf106, .inl (cf106, 8, .inl f106)), (qf107, .inl (cf107, 96, .inl f107)), (qf100, .inl (cf100, 48000, .inl f100)), (qf109, .inl (cf109, 96, .inl f109)), (qf102, .inl (cf102, 2048, .inl f102)), (qf104, .inl (cf104, 8, .inl f104)), (qf118, .inl (cf118, 2100, .inl g902_1)), (qf119, .inl (cf119, 2100, .inl g902_2)), (qf108, .inl (cf108, 8, .inl f108))]) [4, 0, 2, 6, 3, 5, 7, 8, 9, 1] (by decide) rfl) (hP.sub (ws' := [(h0, .inr (13, z_2)), (qf106, .inl (cf106, 8, .inl f106)), (qf107, .inl (cf107, 96, .inl f107)), (qf100, .inl (cf100, 48000, .inl f100)), (qf109, .inl (cf109, 96, .inl f109)), (qf102, .inl (cf102, 2048, .inl f102)), (qf104, .inl (cf104, 8, .inl f104)), (qf118, .inl (cf118, 2100, .inl g902_1)), (qf119, .inl (cf119, 2100, .inl g902_2)), (qf108, .inl (cf108, 8, .inl f108))]) [4, 0, 2, 6, 3, 5, 7, 8, 9, 1] rfl) hsp
        · rw [if_neg (by decide)] at hsp
          refine lv_istore_n (lv' := [(2, .int 1), (3, .int l3_4), (0, .ref h0), (1, .int l1_4)]) hx hb dX13_kindsAreThere_33 rfl hl (by decide) rfl (fun ls hl => ?_)
          refine lv_iinc (v := (l3_4 + 1)) (lv' := [(3, .int (l3_4 + 1)), (2, .int 1), (0, .ref h0), (1, .int l1_4)]) hx hb dX13_kindsAreThere_34 hl (k := 1) rfl rfl (by decide) rfl (fun ls hl => ?_)
          refine lv_goto (tgt := 4) hx hb dX13_kindsAreThere_37 (by decide) ?_
          exact ih_4 H locs ls z_2 l1_4 1 (l3_4 + 1) g902_1 g902_2 u2_3 u2_4 (hfk_2_98) (hfk_2_100) (hfk_2_102) (hfk_2_104) (hfk_2_106) (hfk_2_107) (hfk_2_108) (hfk_2_109) (hch_2_117) (hfk_2_118) (hfk_2_119) (hch_2_120) hln_2 hrq_2 (lv_sub hl [0, 1, 2, 3] rfl) hS (hD.sub (ws' := [(h0, .inr (13, z_2)), (qf106, .inl (cf106, 8, .inl f106)), (qf107, .inl (cf107, 96, .inl f107)), (qf100, .inl (cf100, 48000, .inl f100)), (qf109, .inl (cf109, 96, .inl f109)), (qf102, .inl (cf102, 2048, .inl f102)), (qf104, .inl (cf104, 8, .inl f104)), (qf118, .inl (cf118, 2100, .inl g902_1)), (qf119, .inl (cf119, 2100, .inl g902_2)), (qf108, .inl (cf108, 8, .inl f108))]) [4, 0, 2, 6, 3, 5, 7, 8, 9, 1] (by decide) rfl) (hP.sub (ws' := [(h0, .inr (13, z_2)), (qf106, .inl (cf106, 8, .inl f106)), (qf107, .inl (cf107, 96, .inl f107)), (qf100, .inl (cf100, 48000, .inl f100)), (qf109, .inl (cf109, 96, .inl f109)), (qf102, .inl (cf102, 2048, .inl f102)), (qf104, .inl (cf104, 8, .inl f104)), (qf118, .inl (cf118, 2100, .inl g902_1)), (qf119, .inl (cf119, 2100, .inl g902_2)), (qf108, .inl (cf108, 8, .inl f108))]) [4, 0, 2, 6, 3, 5, 7, 8, 9, 1] rfl) hsp
def jn_vm_classFits_165 (nf : Nat) (a1 : Int32) (v98 : Int32) (v117 : Int32) (v120 : Int32) (v121 : Int32) (v122 : Int32) (v123 : Int32) (v124 : Int32) (v125 : Int32) (f105 : Nat → Int32) (f102 : Nat → Int32) (f100 : Nat → Int32) (f104 : Nat → Int32) (f106 : Nat → Int32) (f107 : Nat → Int32) (f109 : Nat → Int32) (f118 : Nat → Int32) (f119 : Nat → Int32) (f108 : Nat → Int32) (nS477 : Nat) (fS477 : Nat → Int32) (kk_77 : Int32 → Int32 → Int32 → (Nat → Int32) → (Nat → Int32) → Int32 → Int32 → Int32 → Int32 → Int32 → Int32 → Int32 → Option (Int32 × (Nat → Int32) × (Nat → Int32) × Int32 × Int32 × Int32 × Int32 × Int32 × Int32 × Int32)) (kk_109 : Int32 → Int32 → Int32 → Int32 → Int32 → (Nat → Int32) → (Nat → Int32) → Int32 → Int32 → Int32 → Int32 → Int32 → Int32 → Int32 → Option (Int32 × (Nat → Int32) × (Nat → Int32) × Int32 × Int32 × Int32 × Int32 × Int32 × Int32 × Int32)) (kk_122 : Int32 → Int32 → Int32 → Int32 → Int32 → Int32 → (Nat → Int32) → (Nat → Int32) → Int32 → Int32 → Int32 → Int32 → Int32 → Int32 → Int32 → Option (Int32 × (Nat → Int32) × (Nat → Int32) × Int32 × Int32 × Int32 × Int32 × Int32 × Int32 × Int32)) (l1_165 : Int32) (l2_165 : Int32) (l4_165 : Int32) (l5_165 : Int32) (l6_165 : Int32) (l7_165 : Int32) (s0_165 : Int32) (s1_165 : Int32) (s2_165 : Int32) (s4_165 : Int32) (s5_165 : Int32) (s6_165 : Int32) (g118_165 : Nat → Int32) (g119_165 : Nat → Int32) (x117_165 : Int32) (x120_165 : Int32) (x121_165 : Int32) (x122_165 : Int32) (x123_165 : Int32) (x124_165 : Int32) (x125_165 : Int32) : Option (Int32 × (Nat → Int32) × (Nat → Int32) × Int32 × Int32 × Int32 × Int32 × Int32 × Int32 × Int32) := ((sp_tm_nameText nf s2_165 s1_165 s0_165 f107 f100 f109).bind (fun p1 => ((sp_vm_sameText nf s6_165 s5_165 s4_165 p1 f102 f100).bind (fun p2 => (if p2 = 0 then (kk_122 l1_165 l2_165 l4_165 l5_165 l6_165 (l7_165 + 1) g118_165 g119_165 x117_165 x120_165 x121_165 x122_165 x123_165 x124_165 x125_165) else ((sp_tm_bad nf 4 l1_165 (-1) (-1)).bind (fun p3 => (if p3.1 = 0 then (some (0, g118_165, g119_165, x117_165, x120_165, x121_165, p3.2.1, p3.2.2.1, p3.2.2.2.1, p3.2.2.2.2)) else (some (1, g118_165, g119_165, x117_165, x120_165, x121_165, p3.2.1, p3.2.2.1, p3.2.2.2.1, p3.2.2.2.2))))))))))
def jn_vm_classFits_146 (nf : Nat) (a1 : Int32) (v98 : Int32) (v117 : Int32) (v120 : Int32) (v121 : Int32) (v122 : Int32) (v123 : Int32) (v124 : Int32) (v125 : Int32) (f105 : Nat → Int32) (f102 : Nat → Int32) (f100 : Nat → Int32) (f104 : Nat → Int32) (f106 : Nat → Int32) (f107 : Nat → Int32) (f109 : Nat → Int32) (f118 : Nat → Int32) (f119 : Nat → Int32) (f108 : Nat → Int32) (nS477 : Nat) (fS477 : Nat → Int32) (kk_77 : Int32 → Int32 → Int32 → (Nat → Int32) → (Nat → Int32) → Int32 → Int32 → Int32 → Int32 → Int32 → Int32 → Int32 → Option (Int32 × (Nat → Int32) × (Nat → Int32) × Int32 × Int32 × Int32 × Int32 × Int32 × Int32 × Int32)) (kk_109 : Int32 → Int32 → Int32 → Int32 → Int32 → (Nat → Int32) → (Nat → Int32) → Int32 → Int32 → Int32 → Int32 → Int32 → Int32 → Int32 → Option (Int32 × (Nat → Int32) × (Nat → Int32) × Int32 × Int32 × Int32 × Int32 × Int32 × Int32 × Int32)) (kk_122 : Int32 → Int32 → Int32 → Int32 → Int32 → Int32 → (Nat → Int32) → (Nat → Int32) → Int32 → Int32 → Int32 → Int32 → Int32 → Int32 → Int32 → Option (Int32 × (Nat → Int32) × (Nat → Int32) × Int32 × Int32 × Int32 × Int32 × Int32 × Int32 × Int32)) (l1_146 : Int32) (l2_146 : Int32) (l4_146 : Int32) (l5_146 : Int32) (l6_146 : Int32) (l7_146 : Int32) (s0_146 : Int32) (s1_146 : Int32) (s2_146 : Int32) (s4_146 : Int32) (g118_146 : Nat → Int32) (g119_146 : Nat → Int32) (x117_146 : Int32) (x120_146 : Int32) (x121_146 : Int32) (x122_146 : Int32) (x123_146 : Int32) (x124_146 : Int32) (x125_146 : Int32) : Option (Int32 × (Nat → Int32) × (Nat → Int32) × Int32 × Int32 × Int32 × Int32 × Int32 × Int32 × Int32) := ((sp_tm_nameText nf s2_146 s1_146 s0_146 f107 f100 f109).bind (fun p1 => (if l4_146 = 1 then (jn_vm_classFits_165 nf a1 v98 v117 v120 v121 v122 v123 v124 v125 f105 f102 f100 f104 f106 f107 f109 f118 f119 f108 nS477 fS477 kk_77 kk_109 kk_122 l1_146 l2_146 l4_146 l5_146 l6_146 l7_146 1 l7_146 l2_146 l2_146 p1 s4_146 g118_146 g119_146 x117_146 x120_146 x121_146 x122_146 x123_146 x124_146 x125_146) else (jn_vm_classFits_165 nf a1 v98 v117 v120 v121 v122 v123 v124 v125 f105 f102 f100 f104 f106 f107 f109 f118 f119 f108 nS477 fS477 kk_77 kk_109 kk_122 l1_146 l2_146 l4_146 l5_146 l6_146 l7_146 0 l7_146 l2_146 l2_146 p1 s4_146 g118_146 g119_146 x117_146 x120_146 x121_146 x122_146 x123_146 x124_146 x125_146))))
def lp_vm_classFits_122 (nf n : Nat) (a1 : Int32) (v98 : Int32) (v117 : Int32) (v120 : Int32) (v121 : Int32) (v122 : Int32) (v123 : Int32) (v124 : Int32) (v125 : Int32) (f105 : Nat → Int32) (f102 : Nat → Int32) (f100 : Nat → Int32) (f104 : Nat → Int32) (f106 : Nat → Int32) (f107 : Nat → Int32) (f109 : Nat → Int32) (f118 : Nat → Int32) (f119 : Nat → Int32) (f108 : Nat → Int32) (nS477 : Nat) (fS477 : Nat → Int32) (kk_77 : Int32 → Int32 → Int32 → (Nat → Int32) → (Nat → Int32) → Int32 → Int32 → Int32 → Int32 → Int32 → Int32 → Int32 → Option (Int32 × (Nat → Int32) × (Nat → Int32) × Int32 × Int32 × Int32 × Int32 × Int32 × Int32 × Int32)) (kk_109 : Int32 → Int32 → Int32 → Int32 → Int32 → (Nat → Int32) → (Nat → Int32) → Int32 → Int32 → Int32 → Int32 → Int32 → Int32 → Int32 → Option (Int32 × (Nat → Int32) × (Nat → Int32) × Int32 × Int32 × Int32 × Int32 × Int32 × Int32 × Int32)) (l1_122 : Int32) (l2_122 : Int32) (l4_122 : Int32) (l5_122 : Int32) (l6_122 : Int32) (l7_122 : Int32) (g118_122 : Nat → Int32) (g119_122 : Nat → Int32) (x117_122 : Int32) (x120_122 : Int32) (x121_122 : Int32) (x122_122 : Int32) (x123_122 : Int32) (x124_122 : Int32) (x125_122 : Int32) : Option (Int32 × (Nat → Int32) × (Nat → Int32) × Int32 × Int32 × Int32 × Int32 × Int32 × Int32 × Int32) := match n with
  | 0 => none
  | n + 1 => (if l5_122 ≤ l7_122 then (kk_109 l1_122 l2_122 l4_122 l5_122 (l6_122 + 1) g118_122 g119_122 x117_122 x120_122 x121_122 x122_122 x123_122 x124_122 x125_122) else (if l4_122 = 1 then (jn_vm_classFits_146 nf a1 v98 v117 v120 v121 v122 v123 v124 v125 f105 f102 f100 f104 f106 f107 f109 f118 f119 f108 nS477 fS477 kk_77 kk_109 (lp_vm_classFits_122 nf n a1 v98 v117 v120 v121 v122 v123 v124 v125 f105 f102 f100 f104 f106 f107 f109 f118 f119 f108 nS477 fS477 kk_77 kk_109) l1_122 l2_122 l4_122 l5_122 l6_122 l7_122 1 l6_122 l2_122 l2_122 g118_122 g119_122 x117_122 x120_122 x121_122 x122_122 x123_122 x124_122 x125_122) else (jn_vm_classFits_146 nf a1 v98 v117 v120 v121 v122 v123 v124 v125 f105 f102 f100 f104 f106 f107 f109 f118 f119 f108 nS477 fS477 kk_77 kk_109 (lp_vm_classFits_122 nf n a1 v98 v117 v120 v121 v122 v123 v124 v125 f105 f102 f100 f104 f106 f107 f109 f118 f119 f108 nS477 fS477 kk_77 kk_109) l1_122 l2_122 l4_122 l5_122 l6_122 l7_122 0 l6_122 l2_122 l2_122 g118_122 g119_122 x117_122 x120_122 x121_122 x122_122 x123_122 x124_122 x125_122)))
def lp_vm_classFits_109 (nf n : Nat) (a1 : Int32) (v98 : Int32) (v117 : Int32) (v120 : Int32) (v121 : Int32) (v122 : Int32) (v123 : Int32) (v124 : Int32) (v125 : Int32) (f105 : Nat → Int32) (f102 : Nat → Int32) (f100 : Nat → Int32) (f104 : Nat → Int32) (f106 : Nat → Int32) (f107 : Nat → Int32) (f109 : Nat → Int32) (f118 : Nat → Int32) (f119 : Nat → Int32) (f108 : Nat → Int32) (nS477 : Nat) (fS477 : Nat → Int32) (kk_77 : Int32 → Int32 → Int32 → (Nat → Int32) → (Nat → Int32) → Int32 → Int32 → Int32 → Int32 → Int32 → Int32 → Int32 → Option (Int32 × (Nat → Int32) × (Nat → Int32) × Int32 × Int32 × Int32 × Int32 × Int32 × Int32 × Int32)) (l1_109 : Int32) (l2_109 : Int32) (l4_109 : Int32) (l5_109 : Int32) (l6_109 : Int32) (g118_109 : Nat → Int32) (g119_109 : Nat → Int32) (x117_109 : Int32) (x120_109 : Int32) (x121_109 : Int32) (x122_109 : Int32) (x123_109 : Int32) (x124_109 : Int32) (x125_109 : Int32) : Option (Int32 × (Nat → Int32) × (Nat → Int32) × Int32 × Int32 × Int32 × Int32 × Int32 × Int32 × Int32) := match n with
  | 0 => none
  | n + 1 => (if l5_109 ≤ l6_109 then (kk_77 l1_109 l2_109 (l4_109 + 1) g118_109 g119_109 x117_109 x120_109 x121_109 x122_109 x123_109 x124_109 x125_109) else (lp_vm_classFits_122 nf nf a1 v98 v117 v120 v121 v122 v123 v124 v125 f105 f102 f100 f104 f106 f107 f109 f118 f119 f108 nS477 fS477 kk_77 (lp_vm_classFits_109 nf n a1 v98 v117 v120 v121 v122 v123 v124 v125 f105 f102 f100 f104 f106 f107 f109 f118 f119 f108 nS477 fS477 kk_77) l1_109 l2_109 l4_109 l5_109 l6_109 (l6_109 + 1) g118_109 g119_109 x117_109 x120_109 x121_109 x122_109 x123_109 x124_109 x125_109))
def jn_vm_classFits_104 (nf : Nat) (a1 : Int32) (v98 : Int32) (v117 : Int32) (v120 : Int32) (v121 : Int32) (v122 : Int32) (v123 : Int32) (v124 : Int32) (v125 : Int32) (f105 : Nat → Int32) (f102 : Nat → Int32) (f100 : Nat → Int32) (f104 : Nat → Int32) (f106 : Nat → Int32) (f107 : Nat → Int32) (f109 : Nat → Int32) (f118 : Nat → Int32) (f119 : Nat → Int32) (f108 : Nat → Int32) (nS477 : Nat) (fS477 : Nat → Int32) (kk_77 : Int32 → Int32 → Int32 → (Nat → Int32) → (Nat → Int32) → Int32 → Int32 → Int32 → Int32 → Int32 → Int32 → Int32 → Option (Int32 × (Nat → Int32) × (Nat → Int32) × Int32 × Int32 × Int32 × Int32 × Int32 × Int32 × Int32)) (l1_104 : Int32) (l2_104 : Int32) (l4_104 : Int32) (s0_104 : Int32) (g118_104 : Nat → Int32) (g119_104 : Nat → Int32) (x117_104 : Int32) (x120_104 : Int32) (x121_104 : Int32) (x122_104 : Int32) (x123_104 : Int32) (x124_104 : Int32) (x125_104 : Int32) : Option (Int32 × (Nat → Int32) × (Nat → Int32) × Int32 × Int32 × Int32 × Int32 × Int32 × Int32 × Int32) := (lp_vm_classFits_109 nf nf a1 v98 v117 v120 v121 v122 v123 v124 v125 f105 f102 f100 f104 f106 f107 f109 f118 f119 f108 nS477 fS477 kk_77 l1_104 l2_104 l4_104 s0_104 0 g118_104 g119_104 x117_104 x120_104 x121_104 x122_104 x123_104 x124_104 x125_104)
def lp_vm_classFits_204 (nf n : Nat) (a1 : Int32) (v98 : Int32) (v117 : Int32) (v120 : Int32) (v121 : Int32) (v122 : Int32) (v123 : Int32) (v124 : Int32) (v125 : Int32) (f105 : Nat → Int32) (f102 : Nat → Int32) (f100 : Nat → Int32) (f104 : Nat → Int32) (f106 : Nat → Int32) (f107 : Nat → Int32) (f109 : Nat → Int32) (f118 : Nat → Int32) (f119 : Nat → Int32) (f108 : Nat → Int32) (nS477 : Nat) (fS477 : Nat → Int32)  (l1_204 : Int32) (l2_204 : Int32) (l4_204 : Int32) (g118_204 : Nat → Int32) (g119_204 : Nat → Int32) (x117_204 : Int32) (x120_204 : Int32) (x121_204 : Int32) (x122_204 : Int32) (x123_204 : Int32) (x124_204 : Int32) (x125_204 : Int32) : Option (Int32 × (Nat → Int32) × (Nat → Int32) × Int32 × Int32 × Int32 × Int32 × Int32 × Int32 × Int32) := match n with
  | 0 => none
  | n + 1 => (if l2_204 < 0 then none else if 8 ≤ (l2_204 : Int32).toNatClampNeg then none else (if (f108 (l2_204 : Int32).toNatClampNeg) ≤ l4_204 then (some (1, g118_204, g119_204, x117_204, x120_204, x121_204, x122_204, x123_204, x124_204, x125_204)) else ((sp_vm_superOf nf l1_204 v98 f105 f102 f100 f104 nS477 fS477).bind (fun p1 => ((sp_tm_nameText nf l2_204 l4_204 1 f107 f100 f109).bind (fun p2 => ((sp_vm_holder nf p1 l2_204 p2 1 v98 x121_204 f105 f102 f100 f104 f106 f108 f107 f109 nS477 fS477).bind (fun p3 => (if p3.1 = (-1) then (lp_vm_classFits_204 nf n a1 v98 v117 v120 v121 v122 v123 v124 v125 f105 f102 f100 f104 f106 f107 f109 f118 f119 f108 nS477 fS477 l1_204 l2_204 (l4_204 + 1) g118_204 g119_204 x117_204 x120_204 p3.2 x122_204 x123_204 x124_204 x125_204) else ((sp_tm_kindText nf (p3.1 - 8) p3.2 1 f107 f100 f109).bind (fun p4 => ((sp_tm_kindText nf l2_204 l4_204 1 f107 f100 f109).bind (fun p5 => ((sp_vm_sameText nf (p3.1 - 8) p4 l2_204 p5 f102 f100).bind (fun p6 => (if p6 = 0 then ((sp_tm_bad nf 5 l1_204 (-1) (-1)).bind (fun p7 => (if p7.1 = 0 then (some (0, g118_204, g119_204, x117_204, x120_204, p3.2, p7.2.1, p7.2.2.1, p7.2.2.2.1, p7.2.2.2.2)) else (some (1, g118_204, g119_204, x117_204, x120_204, p3.2, p7.2.1, p7.2.2.1, p7.2.2.2.1, p7.2.2.2.2))))) else (if ((12 * (p3.1 - 8)) + p3.2) < 0 then none else if 96 ≤ (((12 * (p3.1 - 8)) + p3.2) : Int32).toNatClampNeg then none else ((sp_tm_byteAt nf (p3.1 - 8) (f109 (((12 * (p3.1 - 8)) + p3.2) : Int32).toNatClampNeg) f100).bind (fun p8 => (if p8 = 1 then ((sp_tm_bad nf 5 l1_204 (-1) (-1)).bind (fun p9 => (if p9.1 = 0 then (some (0, g118_204, g119_204, x117_204, x120_204, p3.2, p9.2.1, p9.2.2.1, p9.2.2.2.1, p9.2.2.2.2)) else (some (1, g118_204, g119_204, x117_204, x120_204, p3.2, p9.2.1, p9.2.2.1, p9.2.2.2.1, p9.2.2.2.2))))) else (if ((12 * l2_204) + l4_204) < 0 then none else if 96 ≤ (((12 * l2_204) + l4_204) : Int32).toNatClampNeg then none else ((sp_tm_byteAt nf l2_204 (f109 (((12 * l2_204) + l4_204) : Int32).toNatClampNeg) f100).bind (fun p10 => (if p10 = 1 then ((sp_tm_bad nf 5 l1_204 (-1) (-1)).bind (fun p11 => (if p11.1 = 0 then (some (0, g118_204, g119_204, x117_204, x120_204, p3.2, p11.2.1, p11.2.2.1, p11.2.2.2.1, p11.2.2.2.2)) else (some (1, g118_204, g119_204, x117_204, x120_204, p3.2, p11.2.1, p11.2.2.1, p11.2.2.2.1, p11.2.2.2.2))))) else (lp_vm_classFits_204 nf n a1 v98 v117 v120 v121 v122 v123 v124 v125 f105 f102 f100 f104 f106 f107 f109 f118 f119 f108 nS477 fS477 l1_204 l2_204 (l4_204 + 1) g118_204 g119_204 x117_204 x120_204 p3.2 x122_204 x123_204 x124_204 x125_204)))))))))))))))))))))))))
def lp_vm_classFits_77 (nf n : Nat) (a1 : Int32) (v98 : Int32) (v117 : Int32) (v120 : Int32) (v121 : Int32) (v122 : Int32) (v123 : Int32) (v124 : Int32) (v125 : Int32) (f105 : Nat → Int32) (f102 : Nat → Int32) (f100 : Nat → Int32) (f104 : Nat → Int32) (f106 : Nat → Int32) (f107 : Nat → Int32) (f109 : Nat → Int32) (f118 : Nat → Int32) (f119 : Nat → Int32) (f108 : Nat → Int32) (nS477 : Nat) (fS477 : Nat → Int32)  (l1_77 : Int32) (l2_77 : Int32) (l4_77 : Int32) (g118_77 : Nat → Int32) (g119_77 : Nat → Int32) (x117_77 : Int32) (x120_77 : Int32) (x121_77 : Int32) (x122_77 : Int32) (x123_77 : Int32) (x124_77 : Int32) (x125_77 : Int32) : Option (Int32 × (Nat → Int32) × (Nat → Int32) × Int32 × Int32 × Int32 × Int32 × Int32 × Int32 × Int32) := match n with
  | 0 => none
  | n + 1 => (if 2 ≤ l4_77 then (lp_vm_classFits_204 nf nf a1 v98 v117 v120 v121 v122 v123 v124 v125 f105 f102 f100 f104 f106 f107 f109 f118 f119 f108 nS477 fS477  l1_77 l2_77 0 g118_77 g119_77 x117_77 x120_77 x121_77 x122_77 x123_77 x124_77 x125_77) else (if l4_77 = 1 then (if l2_77 < 0 then none else if 8 ≤ (l2_77 : Int32).toNatClampNeg then none else (jn_vm_classFits_104 nf a1 v98 v117 v120 v121 v122 v123 v124 v125 f105 f102 f100 f104 f106 f107 f109 f118 f119 f108 nS477 fS477 (lp_vm_classFits_77 nf n a1 v98 v117 v120 v121 v122 v123 v124 v125 f105 f102 f100 f104 f106 f107 f109 f118 f119 f108 nS477 fS477) l1_77 l2_77 l4_77 (f108 (l2_77 : Int32).toNatClampNeg) g118_77 g119_77 x117_77 x120_77 x121_77 x122_77 x123_77 x124_77 x125_77)) else (if l2_77 < 0 then none else if 8 ≤ (l2_77 : Int32).toNatClampNeg then none else (jn_vm_classFits_104 nf a1 v98 v117 v120 v121 v122 v123 v124 v125 f105 f102 f100 f104 f106 f107 f109 f118 f119 f108 nS477 fS477 (lp_vm_classFits_77 nf n a1 v98 v117 v120 v121 v122 v123 v124 v125 f105 f102 f100 f104 f106 f107 f109 f118 f119 f108 nS477 fS477) l1_77 l2_77 l4_77 (f106 (l2_77 : Int32).toNatClampNeg) g118_77 g119_77 x117_77 x120_77 x121_77 x122_77 x123_77 x124_77 x125_77))))
def jn_vm_classFits_60 (nf : Nat) (a1 : Int32) (v98 : Int32) (v117 : Int32) (v120 : Int32) (v121 : Int32) (v122 : Int32) (v123 : Int32) (v124 : Int32) (v125 : Int32) (f105 : Nat → Int32) (f102 : Nat → Int32) (f100 : Nat → Int32) (f104 : Nat → Int32) (f106 : Nat → Int32) (f107 : Nat → Int32) (f109 : Nat → Int32) (f118 : Nat → Int32) (f119 : Nat → Int32) (f108 : Nat → Int32) (nS477 : Nat) (fS477 : Nat → Int32)  (l1_60 : Int32) (l2_60 : Int32) (l3_60 : Int32) (g118_60 : Nat → Int32) (g119_60 : Nat → Int32) (x117_60 : Int32) (x120_60 : Int32) (x121_60 : Int32) (x122_60 : Int32) (x123_60 : Int32) (x124_60 : Int32) (x125_60 : Int32) : Option (Int32 × (Nat → Int32) × (Nat → Int32) × Int32 × Int32 × Int32 × Int32 × Int32 × Int32 × Int32) := (if l3_60 = (-1) then (lp_vm_classFits_77 nf nf a1 v98 v117 v120 v121 v122 v123 v124 v125 f105 f102 f100 f104 f106 f107 f109 f118 f119 f108 nS477 fS477  l1_60 l2_60 0 g118_60 g119_60 x117_60 x120_60 x121_60 x122_60 x123_60 x124_60 x125_60) else ((sp_tm_bad nf 3 l1_60 (-1) (-1)).bind (fun p1 => (if p1.1 = 0 then (some (0, g118_60, g119_60, x117_60, x120_60, x121_60, p1.2.1, p1.2.2.1, p1.2.2.2.1, p1.2.2.2.2)) else (some (1, g118_60, g119_60, x117_60, x120_60, x121_60, p1.2.1, p1.2.2.1, p1.2.2.2.1, p1.2.2.2.2))))))
def lp_vm_classFits_36 (nf n : Nat) (a1 : Int32) (v98 : Int32) (v117 : Int32) (v120 : Int32) (v121 : Int32) (v122 : Int32) (v123 : Int32) (v124 : Int32) (v125 : Int32) (f105 : Nat → Int32) (f102 : Nat → Int32) (f100 : Nat → Int32) (f104 : Nat → Int32) (f106 : Nat → Int32) (f107 : Nat → Int32) (f109 : Nat → Int32) (f118 : Nat → Int32) (f119 : Nat → Int32) (f108 : Nat → Int32) (nS477 : Nat) (fS477 : Nat → Int32)  (l1_36 : Int32) (l2_36 : Int32) (l3_36 : Int32) (l4_36 : Int32) (g118_36 : Nat → Int32) (g119_36 : Nat → Int32) (x117_36 : Int32) (x120_36 : Int32) (x121_36 : Int32) (x122_36 : Int32) (x123_36 : Int32) (x124_36 : Int32) (x125_36 : Int32) : Option (Int32 × (Nat → Int32) × (Nat → Int32) × Int32 × Int32 × Int32 × Int32 × Int32 × Int32 × Int32) := match n with
  | 0 => none
  | n + 1 => (if 16 < l4_36 then (jn_vm_classFits_60 nf a1 v98 v117 v120 v121 v122 v123 v124 v125 f105 f102 f100 f104 f106 f107 f109 f118 f119 f108 nS477 fS477  l1_36 l2_36 l3_36 g118_36 g119_36 x117_36 x120_36 x121_36 x122_36 x123_36 x124_36 x125_36) else (if l3_36 = (-1) then (jn_vm_classFits_60 nf a1 v98 v117 v120 v121 v122 v123 v124 v125 f105 f102 f100 f104 f106 f107 f109 f118 f119 f108 nS477 fS477  l1_36 l2_36 l3_36 g118_36 g119_36 x117_36 x120_36 x121_36 x122_36 x123_36 x124_36 x125_36) else ((sp_vm_superOf nf l3_36 v98 f105 f102 f100 f104 nS477 fS477).bind (fun p1 => (lp_vm_classFits_36 nf n a1 v98 v117 v120 v121 v122 v123 v124 v125 f105 f102 f100 f104 f106 f107 f109 f118 f119 f108 nS477 fS477 l1_36 l2_36 p1 (l4_36 + 1) g118_36 g119_36 x117_36 x120_36 x121_36 x122_36 x123_36 x124_36 x125_36)))))
def sp_vm_classFits (nf : Nat) (a1 : Int32) (v98 : Int32) (v117 : Int32) (v120 : Int32) (v121 : Int32) (v122 : Int32) (v123 : Int32) (v124 : Int32) (v125 : Int32) (f105 : Nat → Int32) (f102 : Nat → Int32) (f100 : Nat → Int32) (f104 : Nat → Int32) (f106 : Nat → Int32) (f107 : Nat → Int32) (f109 : Nat → Int32) (f118 : Nat → Int32) (f119 : Nat → Int32) (f108 : Nat → Int32) (nS477 : Nat) (fS477 : Nat → Int32) : Option (Int32 × (Nat → Int32) × (Nat → Int32) × Int32 × Int32 × Int32 × Int32 × Int32 × Int32 × Int32) := ((sp_vm_superOf nf a1 v98 f105 f102 f100 f104 nS477 fS477).bind (fun p1 => (if p1 = (-1) then ((sp_tm_bad nf 3 a1 (-1) (-1)).bind (fun p2 => (if p2.1 = 0 then (some (0, f118, f119, v117, v120, v121, p2.2.1, p2.2.2.1, p2.2.2.2.1, p2.2.2.2.2)) else (some (1, f118, f119, v117, v120, v121, p2.2.1, p2.2.2.1, p2.2.2.2.1, p2.2.2.2.2))))) else ((sp_vm_kindsAreThere nf (a1 - 8) v98 v117 v120 f106 f107 f100 f109 f102 f104 f118 f119 f108 nS477 fS477).bind (fun p3 => (if p3.1 = 0 then ((sp_tm_bad nf 3 a1 (-1) (-1)).bind (fun p4 => (if p4.1 = 0 then (some (0, p3.2.1, p3.2.2.1, p3.2.2.2.1, p3.2.2.2.2, v121, p4.2.1, p4.2.2.1, p4.2.2.2.1, p4.2.2.2.2)) else (some (1, p3.2.1, p3.2.2.1, p3.2.2.2.1, p3.2.2.2.2, v121, p4.2.1, p4.2.2.1, p4.2.2.2.1, p4.2.2.2.2))))) else (lp_vm_classFits_36 nf nf a1 v98 v117 v120 v121 v122 v123 v124 v125 f105 f102 f100 f104 f106 f107 f109 f118 f119 f108 nS477 fS477  a1 (a1 - 8) a1 0 p3.2.1 p3.2.2.1 p3.2.2.2.1 p3.2.2.2.2 v121 v122 v123 v124 v125)))))))

set_option maxHeartbeats 4000000 in
set_option maxRecDepth 100000 in
/-- ClassMillModel.frameIsThere -/
theorem vm_frameIsThere (l : Launch) (dC : Nat → ClassId) (dI : Nat → Nat → Nat) (sz : Nat) (h0 : Nat) (zs : (List Value)) (a1 : Int32) (v98 : Int32) (qf100 : Nat) (qf102 : Nat) (qf104 : Nat) (v117 : Int32) (qf118 : Nat) (qf119 : Nat) (v120 : Int32) (v129 : Int32) (v130 : Int32) (v132 : Int32) (cf100 : ClassId) (f100 : (Nat → Int32)) (cf102 : ClassId) (f102 : (Nat → Int32)) (cf104 : ClassId) (f104 : (Nat → Int32)) (cf118 : ClassId) (f118 : (Nat → Int32)) (cf119 : ClassId) (f119 : (Nat → Int32)) (nS477 : Nat) (fS477 : (Nat → Int32)) (hS477 : Nat) (qS477 : Nat) (tS477 : String) (nf : Nat) (r0 : Int32) (o118 : (Nat → Int32)) (o119 : (Nat → Int32)) (w117 : Int32) (w120 : Int32) (hlen : zs.length = 155) (hf98 : zs[98]? = some (.int v98)) (hf100 : zs[100]? = some (.ref qf100)) (hf102 : zs[102]? = some (.ref qf102)) (hf104 : zs[104]? = some (.ref qf104)) (hf117 : zs[117]? = some (.int v117)) (hf118 : zs[118]? = some (.ref qf118)) (hf119 : zs[119]? = some (.ref qf119)) (hf120 : zs[120]? = some (.int v120)) (hf129 : zs[129]? = some (.int v129)) (hf130 : zs[130]? = some (.int v130)) (hf132 : zs[132]? = some (.int v132)) (hsp : sp_vm_frameIsThere nf a1 v98 v117 v120 v129 v130 v132 f100 f102 f104 f118 f119 nS477 fS477 = some (r0, o118, o119, w117, w120)) : Met l yX13_frameIsThere (.code yX13_frameIsThere cX13_frameIsThere 6 (some .boolean) :: VS_h9) ({ frames := 10, cells := 0, slots := 0, locals := 232 }) (va_Pc [.ref h0, .int a1] (fun U => U.heap.size = sz ∧ va_P (dC, dI) vwCl [(h0, .inr (13, zs)), (qf100, .inl (cf100, 48000, .inl f100)), (qf102, .inl (cf102, 2048, .inl f102)), (qf104, .inl (cf104, 8, .inl f104)), (qf118, .inl (cf118, 2100, .inl f118)), (qf119, .inl (cf119, 2100, .inl f119))] U.heap ∧ va_K (dC, dI) vwCl [(cf100, .int), (cf102, .int), (cf104, .int), (cf118, .int), (cf119, .int)] U ∧ va_D (fun _ => True) [(h0, .inr (13, zs)), (qf100, .inl (cf100, 48000, .inl f100)), (qf102, .inl (cf102, 2048, .inl f102)), (qf104, .inl (cf104, 8, .inl f104)), (qf118, .inl (cf118, 2100, .inl f118)), (qf119, .inl (cf119, 2100, .inl f119))] ∧ pz_W nS477 fS477 hS477 qS477 (va_A [(h0, .inr (13, zs)), (qf100, .inl (cf100, 48000, .inl f100)), (qf102, .inl (cf102, 2048, .inl f102)), (qf104, .inl (cf104, 8, .inl f104)), (qf118, .inl (cf118, 2100, .inl f118)), (qf119, .inl (cf119, 2100, .inl f119))] sz) U U.heap ∧ vk_R RX13 477 tS477 hS477 U)) (va_Qi (fun (r : Int32) (u : (List Value)) => match u with | (zo1) => (r0 = r ∧ (r0 = 0 ∨ r0 = 1)) ∧ zo1.length = 155 ∧ (∀ j : Nat, j ≠ 117 → j ≠ 120 → zo1[j]? = zs[j]?) ∧ zo1[117]? = some (.int w117) ∧ zo1[120]? = some (.int w120)) (fun (u : (List Value)) (t : State) => match u with | (zo1) => va_P (dC, dI) vwCl [(h0, .inr (13, zo1)), (qf100, .inl (cf100, 48000, .inl f100)), (qf102, .inl (cf102, 2048, .inl f102)), (qf104, .inl (cf104, 8, .inl f104)), (qf118, .inl (cf118, 2100, .inl o118)), (qf119, .inl (cf119, 2100, .inl o119))] t.heap ∧ va_K (dC, dI) vwCl [(cf100, .int), (cf102, .int), (cf104, .int), (cf118, .int), (cf119, .int)] t ∧ va_D (va_A [(h0, .inr (13, zs)), (qf100, .inl (cf100, 48000, .inl f100)), (qf102, .inl (cf102, 2048, .inl f102)), (qf104, .inl (cf104, 8, .inl f104)), (qf118, .inl (cf118, 2100, .inl f118)), (qf119, .inl (cf119, 2100, .inl f119))] sz) [(h0, .inr (13, zo1)), (qf100, .inl (cf100, 48000, .inl f100)), (qf102, .inl (cf102, 2048, .inl f102)), (qf104, .inl (cf104, 8, .inl f104)), (qf118, .inl (cf118, 2100, .inl o118)), (qf119, .inl (cf119, 2100, .inl o119))]) (va_A [(h0, .inr (13, zs)), (qf100, .inl (cf100, 48000, .inl f100)), (qf102, .inl (cf102, 2048, .inl f102)), (qf104, .inl (cf104, 8, .inl f104)), (qf118, .inl (cf118, 2100, .inl f118)), (qf119, .inl (cf119, 2100, .inl f119))] sz)) 0 0 (va_A [(h0, .inr (13, zs)), (qf100, .inl (cf100, 48000, .inl f100)), (qf102, .inl (cf102, 2048, .inl f102)), (qf104, .inl (cf104, 8, .inl f104)), (qf118, .inl (cf118, 2100, .inl f118)), (qf119, .inl (cf119, 2100, .inl f119))] sz) := by
  refine Met.ofW (cc := cX13_frameIsThere) (maxL := 6) (ret := (some .boolean)) (by decide) rfl ?_
  intro p e s m args below meth c s₁ B hml hv
  obtain ⟨rfl, hsz, hP, hK, hD0, hZWS477, hZRS477⟩ := hv
  have hx := B.exec
  have hb := B.bytes
  have hr := B.returns
  have hts := atoms_spec (ws := (.code yX13_frameIsThere cX13_frameIsThere 6 (some .boolean) :: VS_h9)) B.pre
  replace hts := fun w (h : w ∈ VS_h9) => hts w (List.mem_cons_of_mem _ h)
  have hown : s.vm.findClass RX13 = some m.cls := findClass_of_methodNamed B.named
  have hlocks := B.notSynchronized
  subst hsz
  have hD := hD0.self (sz := s.heap.size)
  generalize hAe : va_A [(h0, .inr (13, zs)), (qf100, .inl (cf100, 48000, .inl f100)), (qf102, .inl (cf102, 2048, .inl f102)), (qf104, .inl (cf104, 8, .inl f104)), (qf118, .inl (cf118, 2100, .inl f118)), (qf119, .inl (cf119, 2100, .inl f119))] s.heap.size = A at hD hZWS477 ⊢
  have hA : ∀ q : Nat, s.heap.size ≤ q → A q := fun q h => by rw [← hAe]; exact Or.inr h
  have hP : va_P (dC, dI) vwCl [(h0, .inr (13, zs)), (qf100, .inl (cf100, 48000, .inl f100)), (qf102, .inl (cf102, 2048, .inl f102)), (qf104, .inl (cf104, 8, .inl f104)), (qf118, .inl (cf118, 2100, .inl f118)), (qf119, .inl (cf119, 2100, .inl f119))] s.heap := hP
  have hl := lv_entry ([.ref h0, .int a1]) (n := 6) (Nat.le_of_ble_eq_true rfl)
  rw [lg_entry_eq]
  generalize (lg_sl ([.ref h0, .int a1]) ++ List.replicate (6 - (lg_sl ([.ref h0, .int a1])).length) Slot.unset).toArray = ls at hl ⊢
  have hl : lv_has ls 6 [(0, .ref h0), (1, .int a1)] := hl
  obtain ⟨H, hH⟩ : ∃ H : Heap, s.heap = H := ⟨_, rfl⟩
  rw [hH] at hP ⊢
  have hS : va_S A s.heap H [] := by rw [← hH]; exact va_S.rf
  obtain ⟨locs, hlo⟩ : ∃ locs : List Loc, locs = [] := ⟨_, rfl⟩
  rw [← hlo] at hS ⊢
  have hrs0 : ∀ j : Nat, j ≠ 117 → j ≠ 120 → zs[j]? = zs[j]? := fun _ _ _  => rfl
  unfold sp_vm_frameIsThere at hsp
  refine lv_iload_n hx hb dX13_frameIsThere_0 rfl (lv_at hl 1 rfl) ?_
  refine lv_iconst (v := 2) hx hb dX13_frameIsThere_1 (by decide) ?_
  refine lv_iadd hx hb dX13_frameIsThere_2 ?_
  refine lv_istore_n (lv' := [(2, .int (a1 + 2)), (0, .ref h0), (1, .int a1)]) hx hb dX13_frameIsThere_3 rfl hl (by decide) rfl (fun ls hl => ?_)
  refine lv_iconst (v := 0) hx hb dX13_frameIsThere_4 (by decide) ?_
  refine lv_istore_n (lv' := [(3, .int 0), (2, .int (a1 + 2)), (0, .ref h0), (1, .int a1)]) hx hb dX13_frameIsThere_5 rfl hl (by decide) rfl (fun ls hl => ?_)
  replace hl : lv_has ls 6 [(3, .int 0), (2, .int (a1 + 2)), (0, .ref h0)] := lv_sub hl [0, 1, 2] rfl
  replace hP := hP.sub (ws' := [(h0, .inr (13, zs)), (qf100, .inl (cf100, 48000, .inl f100)), (qf102, .inl (cf102, 2048, .inl f102)), (qf104, .inl (cf104, 8, .inl f104)), (qf118, .inl (cf118, 2100, .inl f118)), (qf119, .inl (cf119, 2100, .inl f119))]) [0, 1, 2, 3, 4, 5] rfl
  replace hD := hD.sub (ws' := [(h0, .inr (13, zs)), (qf100, .inl (cf100, 48000, .inl f100)), (qf102, .inl (cf102, 2048, .inl f102)), (qf104, .inl (cf104, 8, .inl f104)), (qf118, .inl (cf118, 2100, .inl f118)), (qf119, .inl (cf119, 2100, .inl f119))]) [0, 1, 2, 3, 4, 5] (by decide) rfl
  replace hK := hK.sub (tys' := [(cf100, .int), (cf102, .int), (cf104, .int), (cf118, .int), (cf119, .int)]) [0, 1, 2, 3, 4] rfl
  obtain ⟨n_6, hn_6⟩ : ∃ z : Nat, z = nf := ⟨_, rfl⟩
  obtain ⟨l2_6, el2_6⟩ : ∃ z : Int32, z = (a1 + 2) := ⟨_, rfl⟩
  obtain ⟨l3_6, el3_6⟩ : ∃ z : Int32, z = 0 := ⟨_, rfl⟩
  obtain ⟨g118_6, eg118_6⟩ : ∃ z : Nat → Int32, z = f118 := ⟨_, rfl⟩
  obtain ⟨g119_6, eg119_6⟩ : ∃ z : Nat → Int32, z = f119 := ⟨_, rfl⟩
  obtain ⟨x117_6, ex117_6⟩ : ∃ z : Int32, z = v117 := ⟨_, rfl⟩
  obtain ⟨x120_6, ex120_6⟩ : ∃ z : Int32, z = v120 := ⟨_, rfl⟩
  replace hsp : lp_vm_frameIsThere_6 nf n_6 a1 v98 v117 v120 v129 v130 v132 f100 f102 f104 f118 f119 nS477 fS477 l2_6 l3_6 g118_6 g119_6 x117_6 x120_6 = some (r0, o118, o119, w117, w120) := by rw [hn_6, el2_6, el3_6, eg118_6, eg119_6, ex117_6, ex120_6]; exact hsp
  replace hl : lv_has ls 6 [(3, .int l3_6), (2, .int l2_6), (0, .ref h0)] := by rw [el2_6, el3_6]; exact hl
  obtain ⟨z6, ez6⟩ : ∃ z : List Value, z = zs := ⟨_, rfl⟩
  have hfh_6_98 : z6[98]? = some (.int v98) := by rw [ez6]; exact hf98
  have hfh_6_100 : z6[100]? = some (.ref qf100) := by rw [ez6]; exact hf100
  have hfh_6_102 : z6[102]? = some (.ref qf102) := by rw [ez6]; exact hf102
  have hfh_6_104 : z6[104]? = some (.ref qf104) := by rw [ez6]; exact hf104
  have hfh_6_117 : z6[117]? = some (.int x117_6) := by rw [ez6, ex117_6]; exact hf117
  have hfh_6_118 : z6[118]? = some (.ref qf118) := by rw [ez6]; exact hf118
  have hfh_6_119 : z6[119]? = some (.ref qf119) := by rw [ez6]; exact hf119
  have hfh_6_120 : z6[120]? = some (.int x120_6) := by rw [ez6, ex120_6]; exact hf120
  have hfh_6_129 : z6[129]? = some (.int v129) := by rw [ez6]; exact hf129
  have hfh_6_130 : z6[130]? = some (.int v130) := by rw [ez6]; exact hf130
  have hfh_6_132 : z6[132]? = some (.int v132) := by rw [ez6]; exact hf132
  have hlh_6 : z6.length = 155 := by rw [ez6]; exact hlen
  have hrh_6 : ∀ j : Nat, j ≠ 117 → j ≠ 120 → z6[j]? = zs[j]? := by rw [ez6]; exact hrs0
  replace hP : va_P (dC, dI) vwCl [(h0, .inr (13, z6)), (qf100, .inl (cf100, 48000, .inl f100)), (qf102, .inl (cf102, 2048, .inl f102)), (qf104, .inl (cf104, 8, .inl f104)), (qf118, .inl (cf118, 2100, .inl g118_6)), (qf119, .inl (cf119, 2100, .inl g119_6))] H := by rw [ez6, eg118_6, eg119_6]; exact hP
  replace hD : va_D A [(h0, .inr (13, z6)), (qf100, .inl (cf100, 48000, .inl f100)), (qf102, .inl (cf102, 2048, .inl f102)), (qf104, .inl (cf104, 8, .inl f104)), (qf118, .inl (cf118, 2100, .inl g118_6)), (qf119, .inl (cf119, 2100, .inl g119_6))] := by rw [ez6, eg118_6, eg119_6]; exact hD
  clear hn_6 ez6 el2_6 el3_6 eg118_6 eg119_6 ex117_6 ex120_6
  try clear hlo
  try clear hH
  revert hsp
  revert hP
  revert hD
  revert hS
  revert hl
  revert hrh_6
  revert hlh_6
  revert hfh_6_132
  revert hfh_6_130
  revert hfh_6_129
  revert hfh_6_120
  revert hfh_6_119
  revert hfh_6_118
  revert hfh_6_117
  revert hfh_6_104
  revert hfh_6_102
  revert hfh_6_100
  revert hfh_6_98
  revert x120_6
  revert x117_6
  revert g119_6
  revert g118_6
  revert l3_6
  revert l2_6
  revert z6
  revert ls
  revert locs
  revert H
  induction n_6 with
  | zero => intro H locs ls z6 l2_6 l3_6 g118_6 g119_6 x117_6 x120_6 hfh_6_98 hfh_6_100 hfh_6_102 hfh_6_104 hfh_6_117 hfh_6_118 hfh_6_119 hfh_6_120 hfh_6_129 hfh_6_130 hfh_6_132 hlh_6 hrh_6 hl hS hD hP hsp; unfold lp_vm_frameIsThere_6 at hsp; cases hsp
  | succ n_6 ih_6 =>
    intro H locs ls z6 l2_6 l3_6 g118_6 g119_6 x117_6 x120_6 hfh_6_98 hfh_6_100 hfh_6_102 hfh_6_104 hfh_6_117 hfh_6_118 hfh_6_119 hfh_6_120 hfh_6_129 hfh_6_130 hfh_6_132 hlh_6 hrh_6 hl hS hD hP hsp
    unfold lp_vm_frameIsThere_6 at hsp
    try dsimp only at hsp
    refine jn_use (α := Heap × List Loc × Array Slot × List Value × Int32 × Int32 × Int32 × Int32 × Int32 × (Nat → Int32) × (Nat → Int32) × Int32 × Int32) (fun x9 => x9.1) (fun x9 => x9.2.1) (fun x9 => F0 m 39 x9.2.2.1 [.int (x9.2.2.2.2.2.2.2.1), .int (x9.2.2.2.2.2.2.2.2.1)]) (fun x9 => match x9 with | (H, locs, ls, z39, l2_39, l3_39, l4_39, s0_39, s1_39, g118_39, g119_39, x117_39, x120_39) => lv_has ls 6 [(0, .ref h0), (2, .int l2_39), (3, .int l3_39), (4, .int l4_39)] ∧ va_S A s.heap H locs ∧ va_D A [(h0, .inr (13, z39)), (qf100, .inl (cf100, 48000, .inl f100)), (qf102, .inl (cf102, 2048, .inl f102)), (qf104, .inl (cf104, 8, .inl f104)), (qf118, .inl (cf118, 2100, .inl g118_39)), (qf119, .inl (cf119, 2100, .inl g119_39))] ∧ va_P (dC, dI) vwCl [(h0, .inr (13, z39)), (qf100, .inl (cf100, 48000, .inl f100)), (qf102, .inl (cf102, 2048, .inl f102)), (qf104, .inl (cf104, 8, .inl f104)), (qf118, .inl (cf118, 2100, .inl g118_39)), (qf119, .inl (cf119, 2100, .inl g119_39))] H ∧ z39[98]? = some (.int v98) ∧ z39[100]? = some (.ref qf100) ∧ z39[102]? = some (.ref qf102) ∧ z39[104]? = some (.ref qf104) ∧ z39[117]? = some (.int x117_39) ∧ z39[118]? = some (.ref qf118) ∧ z39[119]? = some (.ref qf119) ∧ z39[120]? = some (.int x120_39) ∧ z39[129]? = some (.int v129) ∧ z39[130]? = some (.int v130) ∧ z39[132]? = some (.int v132) ∧ z39.length = 155 ∧ (∀ j : Nat, j ≠ 117 → j ≠ 120 → z39[j]? = zs[j]?) ∧ jn_vm_frameIsThere_39 nf a1 v98 v117 v120 v129 v130 v132 f100 f102 f104 f118 f119 nS477 fS477 (lp_vm_frameIsThere_6 nf n_6 a1 v98 v117 v120 v129 v130 v132 f100 f102 f104 f118 f119 nS477 fS477) l2_39 l3_39 l4_39 s0_39 s1_39 g118_39 g119_39 x117_39 x120_39 = some (r0, o118, o119, w117, w120)) ?_ ?_
    · intro x9 hJ9
      obtain ⟨H, locs, ls, z39, l2_39, l3_39, l4_39, s0_39, s1_39, g118_39, g119_39, x117_39, x120_39⟩ := x9
      obtain ⟨hl, hS, hD, hP, hfh_39_98, hfh_39_100, hfh_39_102, hfh_39_104, hfh_39_117, hfh_39_118, hfh_39_119, hfh_39_120, hfh_39_129, hfh_39_130, hfh_39_132, hlh_39, hrh_39, hsp⟩ := hJ9
      replace hl : lv_has ls 6 [(0, .ref h0), (2, .int l2_39), (3, .int l3_39), (4, .int l4_39)] := hl
      replace hS : va_S A s.heap H locs := hS
      replace hD : va_D A [(h0, .inr (13, z39)), (qf100, .inl (cf100, 48000, .inl f100)), (qf102, .inl (cf102, 2048, .inl f102)), (qf104, .inl (cf104, 8, .inl f104)), (qf118, .inl (cf118, 2100, .inl g118_39)), (qf119, .inl (cf119, 2100, .inl g119_39))] := hD
      replace hP : va_P (dC, dI) vwCl [(h0, .inr (13, z39)), (qf100, .inl (cf100, 48000, .inl f100)), (qf102, .inl (cf102, 2048, .inl f102)), (qf104, .inl (cf104, 8, .inl f104)), (qf118, .inl (cf118, 2100, .inl g118_39)), (qf119, .inl (cf119, 2100, .inl g119_39))] H := hP
      replace hsp : jn_vm_frameIsThere_39 nf a1 v98 v117 v120 v129 v130 v132 f100 f102 f104 f118 f119 nS477 fS477 (lp_vm_frameIsThere_6 nf n_6 a1 v98 v117 v120 v129 v130 v132 f100 f102 f104 f118 f119 nS477 fS477) l2_39 l3_39 l4_39 s0_39 s1_39 g118_39 g119_39 x117_39 x120_39 = some (r0, o118, o119, w117, w120) := hsp
      show W _ _ _ _ _ _ _ _ _ _ H locs _ _ _ (F0 m 39 ls [.int s0_39, .int s1_39])
      unfold jn_vm_frameIsThere_39 at hsp
      try dsimp only at hsp
      refine lv_icmp_le (tgt := 44) hx hb dX13_frameIsThere_39 (by decide) (fun c_4 => ?_) (fun c_4 => ?_)
      · rw [if_pos c_4] at hsp
        refine lv_iinc (v := (l2_39 + 1)) (lv' := [(2, .int (l2_39 + 1)), (0, .ref h0), (3, .int l3_39), (4, .int l4_39)]) hx hb dX13_frameIsThere_44 hl (k := 1) rfl rfl (by decide) rfl (fun ls hl => ?_)
        refine lv_iconst (v := 0) hx hb dX13_frameIsThere_47 (by decide) ?_
        refine lv_istore (lv' := [(5, .int 0), (2, .int (l2_39 + 1)), (0, .ref h0), (3, .int l3_39), (4, .int l4_39)]) hx hb dX13_frameIsThere_48 hl (by decide) rfl (fun ls hl => ?_)
        replace hl : lv_has ls 6 [(5, .int 0), (2, .int (l2_39 + 1)), (0, .ref h0), (3, .int l3_39), (4, .int l4_39)] := lv_sub hl [0, 1, 2, 3, 4] rfl
        replace hP := hP.sub (ws' := [(h0, .inr (13, z39)), (qf100, .inl (cf100, 48000, .inl f100)), (qf102, .inl (cf102, 2048, .inl f102)), (qf104, .inl (cf104, 8, .inl f104)), (qf118, .inl (cf118, 2100, .inl g118_39)), (qf119, .inl (cf119, 2100, .inl g119_39))]) [0, 1, 2, 3, 4, 5] rfl
        replace hD := hD.sub (ws' := [(h0, .inr (13, z39)), (qf100, .inl (cf100, 48000, .inl f100)), (qf102, .inl (cf102, 2048, .inl f102)), (qf104, .inl (cf104, 8, .inl f104)), (qf118, .inl (cf118, 2100, .inl g118_39)), (qf119, .inl (cf119, 2100, .inl g119_39))]) [0, 1, 2, 3, 4, 5] (by decide) rfl
        replace hK := hK.sub (tys' := [(cf100, .int), (cf102, .int), (cf104, .int), (cf118, .int), (cf119, .int)]) [0, 1, 2, 3, 4] rfl
        obtain ⟨n_50, hn_50⟩ : ∃ z : Nat, z = nf := ⟨_, rfl⟩
        obtain ⟨l2_50, el2_50⟩ : ∃ z : Int32, z = (l2_39 + 1) := ⟨_, rfl⟩
        obtain ⟨l3_50, el3_50⟩ : ∃ z : Int32, z = l3_39 := ⟨_, rfl⟩
        obtain ⟨l4_50, el4_50⟩ : ∃ z : Int32, z = l4_39 := ⟨_, rfl⟩
        obtain ⟨l5_50, el5_50⟩ : ∃ z : Int32, z = 0 := ⟨_, rfl⟩
        obtain ⟨g118_50, eg118_50⟩ : ∃ z : Nat → Int32, z = g118_39 := ⟨_, rfl⟩
        obtain ⟨g119_50, eg119_50⟩ : ∃ z : Nat → Int32, z = g119_39 := ⟨_, rfl⟩
        obtain ⟨x117_50, ex117_50⟩ : ∃ z : Int32, z = x117_39 := ⟨_, rfl⟩
        obtain ⟨x120_50, ex120_50⟩ : ∃ z : Int32, z = x120_39 := ⟨_, rfl⟩
        replace hsp : lp_vm_frameIsThere_50 nf n_50 a1 v98 v117 v120 v129 v130 v132 f100 f102 f104 f118 f119 nS477 fS477 (lp_vm_frameIsThere_6 nf n_6 a1 v98 v117 v120 v129 v130 v132 f100 f102 f104 f118 f119 nS477 fS477) l2_50 l3_50 l4_50 l5_50 g118_50 g119_50 x117_50 x120_50 = some (r0, o118, o119, w117, w120) := by rw [hn_50, el2_50, el3_50, el4_50, el5_50, eg118_50, eg119_50, ex117_50, ex120_50]; exact hsp
        replace hl : lv_has ls 6 [(5, .int l5_50), (2, .int l2_50), (0, .ref h0), (3, .int l3_50), (4, .int l4_50)] := by rw [el2_50, el3_50, el4_50, el5_50]; exact hl
        obtain ⟨z50, ez50⟩ : ∃ z : List Value, z = z39 := ⟨_, rfl⟩
        have hfh_50_98 : z50[98]? = some (.int v98) := by rw [ez50]; exact hfh_39_98
        have hfh_50_100 : z50[100]? = some (.ref qf100) := by rw [ez50]; exact hfh_39_100
        have hfh_50_102 : z50[102]? = some (.ref qf102) := by rw [ez50]; exact hfh_39_102
        have hfh_50_104 : z50[104]? = some (.ref qf104) := by rw [ez50]; exact hfh_39_104
        have hfh_50_117 : z50[117]? = some (.int x117_50) := by rw [ez50, ex117_50]; exact hfh_39_117
        have hfh_50_118 : z50[118]? = some (.ref qf118) := by rw [ez50]; exact hfh_39_118
        have hfh_50_119 : z50[119]? = some (.ref qf119) := by rw [ez50]; exact hfh_39_119
        have hfh_50_120 : z50[120]? = some (.int x120_50) := by rw [ez50, ex120_50]; exact hfh_39_120
        have hfh_50_129 : z50[129]? = some (.int v129) := by rw [ez50]; exact hfh_39_129
        have hfh_50_130 : z50[130]? = some (.int v130) := by rw [ez50]; exact hfh_39_130
        have hfh_50_132 : z50[132]? = some (.int v132) := by rw [ez50]; exact hfh_39_132
        have hlh_50 : z50.length = 155 := by rw [ez50]; exact hlh_39
        have hrh_50 : ∀ j : Nat, j ≠ 117 → j ≠ 120 → z50[j]? = zs[j]? := by rw [ez50]; exact hrh_39
        replace hP : va_P (dC, dI) vwCl [(h0, .inr (13, z50)), (qf100, .inl (cf100, 48000, .inl f100)), (qf102, .inl (cf102, 2048, .inl f102)), (qf104, .inl (cf104, 8, .inl f104)), (qf118, .inl (cf118, 2100, .inl g118_50)), (qf119, .inl (cf119, 2100, .inl g119_50))] H := by rw [ez50, eg118_50, eg119_50]; exact hP
        replace hD : va_D A [(h0, .inr (13, z50)), (qf100, .inl (cf100, 48000, .inl f100)), (qf102, .inl (cf102, 2048, .inl f102)), (qf104, .inl (cf104, 8, .inl f104)), (qf118, .inl (cf118, 2100, .inl g118_50)), (qf119, .inl (cf119, 2100, .inl g119_50))] := by rw [ez50, eg118_50, eg119_50]; exact hD
        clear hn_50 ez50 el2_50 el3_50 el4_50 el5_50 eg118_50 eg119_50 ex117_50 ex120_50
        try clear hlo
        try clear hH
        revert hsp
        revert hP
        revert hD
        revert hS
        revert hl
        revert hrh_50
        revert hlh_50
        revert hfh_50_132
        revert hfh_50_130
        revert hfh_50_129
        revert hfh_50_120
        revert hfh_50_119
        revert hfh_50_118
        revert hfh_50_117
        revert hfh_50_104
        revert hfh_50_102
        revert hfh_50_100
        revert hfh_50_98
        revert x120_50
        revert x117_50
        revert g119_50
        revert g118_50
        revert l5_50
        revert l4_50
        revert l3_50
        revert l2_50
        revert z50
        revert ls
        revert locs
        revert H
        induction n_50 with
        | zero => intro H locs ls z50 l2_50 l3_50 l4_50 l5_50 g118_50 g119_50 x117_50 x120_50 hfh_50_98 hfh_50_100 hfh_50_102 hfh_50_104 hfh_50_117 hfh_50_118 hfh_50_119 hfh_50_120 hfh_50_129 hfh_50_130 hfh_50_132 hlh_50 hrh_50 hl hS hD hP hsp; unfold lp_vm_frameIsThere_50 at hsp; cases hsp
        | succ n_50 ih_50 =>
          intro H locs ls z50 l2_50 l3_50 l4_50 l5_50 g118_50 g119_50 x117_50 x120_50 hfh_50_98 hfh_50_100 hfh_50_102 hfh_50_104 hfh_50_117 hfh_50_118 hfh_50_119 hfh_50_120 hfh_50_129 hfh_50_130 hfh_50_132 hlh_50 hrh_50 hl hS hD hP hsp
          unfold lp_vm_frameIsThere_50 at hsp
          try dsimp only at hsp
          refine lv_iload hx hb dX13_frameIsThere_50 (lv_at hl 0 rfl) ?_
          refine lv_iload hx hb dX13_frameIsThere_52 (lv_at hl 4 rfl) ?_
          refine lv_icmp_ge (tgt := 97) hx hb dX13_frameIsThere_54 (by decide) (fun c_5 => ?_) (fun c_5 => ?_)
          · rw [if_pos c_5] at hsp
            refine lv_iinc (v := (l3_50 + 1)) (lv' := [(3, .int (l3_50 + 1)), (5, .int l5_50), (2, .int l2_50), (0, .ref h0), (4, .int l4_50)]) hx hb dX13_frameIsThere_97 hl (k := 3) rfl rfl (by decide) rfl (fun ls hl => ?_)
            refine lv_goto (tgt := 6) hx hb dX13_frameIsThere_100 (by decide) ?_
            exact ih_6 H locs ls z50 l2_50 (l3_50 + 1) g118_50 g119_50 x117_50 x120_50 (hfh_50_98) (hfh_50_100) (hfh_50_102) (hfh_50_104) (hfh_50_117) (hfh_50_118) (hfh_50_119) (hfh_50_120) (hfh_50_129) (hfh_50_130) (hfh_50_132) hlh_50 hrh_50 (lv_sub hl [0, 2, 3] rfl) hS (hD.sub (ws' := [(h0, .inr (13, z50)), (qf100, .inl (cf100, 48000, .inl f100)), (qf102, .inl (cf102, 2048, .inl f102)), (qf104, .inl (cf104, 8, .inl f104)), (qf118, .inl (cf118, 2100, .inl g118_50)), (qf119, .inl (cf119, 2100, .inl g119_50))]) [0, 1, 2, 3, 4, 5] (by decide) rfl) (hP.sub (ws' := [(h0, .inr (13, z50)), (qf100, .inl (cf100, 48000, .inl f100)), (qf102, .inl (cf102, 2048, .inl f102)), (qf104, .inl (cf104, 8, .inl f104)), (qf118, .inl (cf118, 2100, .inl g118_50)), (qf119, .inl (cf119, 2100, .inl g119_50))]) [0, 1, 2, 3, 4, 5] rfl) hsp
          · rw [if_neg c_5] at hsp
            refine lv_aload_n hx hb dX13_frameIsThere_57 rfl (lv_at hl 2 rfl) ?_
            refine lv_iload_n hx hb dX13_frameIsThere_58 rfl (lv_at hl 1 rfl) ?_
            obtain ⟨⟨u2_0, g902_1, g902_2, u2_3, u2_4⟩, hu_2, hsp⟩ := ox_bind hsp
            try dsimp only at hsp
            have hPc := hP.sub (ws' := [(h0, .inr (13, z50)), (qf100, .inl (cf100, 48000, .inl f100)), (qf102, .inl (cf102, 2048, .inl f102)), (qf104, .inl (cf104, 8, .inl f104)), (qf118, .inl (cf118, 2100, .inl g118_50)), (qf119, .inl (cf119, 2100, .inl g119_50))]) [0, 1, 2, 3, 4, 5] rfl
            have hDc := hD.sub (ws' := [(h0, .inr (13, z50)), (qf100, .inl (cf100, 48000, .inl f100)), (qf102, .inl (cf102, 2048, .inl f102)), (qf104, .inl (cf104, 8, .inl f104)), (qf118, .inl (cf118, 2100, .inl g118_50)), (qf119, .inl (cf119, 2100, .inl g119_50))]) [0, 1, 2, 3, 4, 5] (by decide) rfl
            have hKc := hK.sub (tys' := [(cf100, .int), (cf102, .int), (cf104, .int), (cf118, .int), (cf119, .int)]) [0, 1, 2, 3, 4] rfl
            have hFc := va_free (wc := [(h0, .inr (13, z50)), (qf100, .inl (cf100, 48000, .inl f100)), (qf102, .inl (cf102, 2048, .inl f102)), (qf104, .inl (cf104, 8, .inl f104)), (qf118, .inl (cf118, 2100, .inl g118_50)), (qf119, .inl (cf119, 2100, .inl g119_50))]) hD hS hA [0, 1, 2, 3, 4, 5] rfl
            refine va_calli (va_runV (As := [.int l2_50]) (rest := []) ⟨hx, hb, hml, hown, hts⟩ (vm_framed l dC dI H.size h0 z50 l2_50 v98 qf100 qf102 qf104 x117_50 qf118 qf119 x120_50 v132 cf100 f100 cf102 f102 cf104 f104 cf118 g118_50 cf119 g119_50 nS477 fS477 hS477 qS477 tS477 nf u2_0 g902_1 g902_2 u2_3 u2_4 hlh_50 hfh_50_98 hfh_50_100 hfh_50_102 hfh_50_104 hfh_50_117 hfh_50_118 hfh_50_119 hfh_50_120 hfh_50_132 hu_2) (cwV 1 hts gv_h9_109 rfl rfl rfl (by decide +kernel) ⟨Nat.le_of_ble_eq_true rfl, Nat.le_of_ble_eq_true rfl⟩) ⟨fun a U g mk q => by obtain ⟨q0, q1, qP, qK, qD, qhZWS477, qhZRS477⟩ := q; exact ⟨q0, q1, qP, va_K.moved (u := U) (U := U.calling g mk a) (Vm.Alike.refl U.vm) qK, qD, pz_W.moved (u := U) (U := U.calling g mk a) (Vm.Alike.refl U.vm) qhZWS477, vk_R.same rfl qhZRS477⟩, va_recv hKc hPc (ci := 13) (q0 := 0) rfl rfl, fun U hU hW => ⟨rfl, by rw [hU], by rw [hU]; exact hPc, va_K.moved hW.alike hKc, hDc.weaken (fun _ _ _ _ => trivial), by rw [hU]; exact ((pz_W.moved hW.alike hZWS477).kept hS.2.1).narrow hFc, vk_R.warm hW hZRS477⟩⟩ rfl rfl hl.1 rfl (lv_room (Nat.le_of_ble_eq_true rfl)) dX13_frameIsThere_59 ⟨Nat.le_of_ble_eq_true rfl, Nat.le_of_ble_eq_true rfl⟩) hS (fun q _ h => hFc q h) hFc ?_
            clear hS
            intro r_6 u t H1 locs ht hvm hw hB hz1 hk1 hS
            obtain ⟨z_2, rfl⟩ : ∃ z, z = u := ⟨_, rfl⟩
            obtain ⟨hP1, hK1, hD1⟩ := hB
            rw [ht] at hP1
            have hK1 := va_K.moved hvm.symm hK1
            try dsimp only at hw
            have hPD := va_join (wr := []) (w1 := [(h0, .inr (13, z_2)), (qf100, .inl (cf100, 48000, .inl f100)), (qf102, .inl (cf102, 2048, .inl f102)), (qf104, .inl (cf104, 8, .inl f104)), (qf118, .inl (cf118, 2100, .inl g902_1)), (qf119, .inl (cf119, 2100, .inl g902_2))]) hP hD [0, 1, 2, 3, 4, 5] [] rfl rfl (by decide) (by decide) hk1 hFc hP1 hD1
            clear hP hD
            obtain ⟨hP, hD⟩ := hPD
            replace hK := (hK.sub (tys' := []) [] rfl).app hK1
            clear hPc hDc hKc hFc hP1 hK1 hD1 hz1 hk1 ht hvm
            generalize H1 = H at hP hS ⊢
            replace hP : va_P (dC, dI) vwCl [(h0, .inr (13, z_2)), (qf100, .inl (cf100, 48000, .inl f100)), (qf102, .inl (cf102, 2048, .inl f102)), (qf104, .inl (cf104, 8, .inl f104)), (qf118, .inl (cf118, 2100, .inl g902_1)), (qf119, .inl (cf119, 2100, .inl g902_2))] H := hP
            replace hD : va_D A [(h0, .inr (13, z_2)), (qf100, .inl (cf100, 48000, .inl f100)), (qf102, .inl (cf102, 2048, .inl f102)), (qf104, .inl (cf104, 8, .inl f104)), (qf118, .inl (cf118, 2100, .inl g902_1)), (qf119, .inl (cf119, 2100, .inl g902_2))] := hD
            replace hK : va_K (dC, dI) vwCl [(cf100, .int), (cf102, .int), (cf104, .int), (cf118, .int), (cf119, .int)] s := hK
            obtain ⟨hwa_2, hln_2, hre_2, hch_2_117, hch_2_120⟩ := hw
            have hfk_2_98 : z_2[98]? = some (.int v98) := (hre_2 98 (by decide) (by decide)).trans (hfh_50_98)
            have hfk_2_100 : z_2[100]? = some (.ref qf100) := (hre_2 100 (by decide) (by decide)).trans (hfh_50_100)
            have hfk_2_102 : z_2[102]? = some (.ref qf102) := (hre_2 102 (by decide) (by decide)).trans (hfh_50_102)
            have hfk_2_104 : z_2[104]? = some (.ref qf104) := (hre_2 104 (by decide) (by decide)).trans (hfh_50_104)
            have hfk_2_118 : z_2[118]? = some (.ref qf118) := (hre_2 118 (by decide) (by decide)).trans (hfh_50_118)
            have hfk_2_119 : z_2[119]? = some (.ref qf119) := (hre_2 119 (by decide) (by decide)).trans (hfh_50_119)
            have hfk_2_129 : z_2[129]? = some (.int v129) := (hre_2 129 (by decide) (by decide)).trans (hfh_50_129)
            have hfk_2_130 : z_2[130]? = some (.int v130) := (hre_2 130 (by decide) (by decide)).trans (hfh_50_130)
            have hfk_2_132 : z_2[132]? = some (.int v132) := (hre_2 132 (by decide) (by decide)).trans (hfh_50_132)
            have hrq_2 : ∀ j : Nat, j ≠ 117 → j ≠ 120 → z_2[j]? = zs[j]? := fun j g117 g120 => (hre_2 j g117 g120).trans (hrh_50 j g117 g120)
            obtain rfl := hwa_2
            obtain ⟨u3_0, hu_3, hsp⟩ := ox_bind hsp
            try dsimp only at hsp
            have hPc := hP.sub (ws' := []) [] rfl
            have hDc := hD.sub (ws' := []) [] (by decide) rfl
            have hKc := hK.sub (tys' := []) [] rfl
            have hFc := va_free (wc := []) hD hS hA [] rfl
            refine va_calli (va_runS (As := [.int u2_0]) (rest := []) ⟨hx, hb, hml, hown, hts⟩ (tm_isThere l dC dI H.size u2_0 nf u3_0 hu_3) (va_cwS 1 hts gv_h9_104 rfl rfl rfl (by decide +kernel) ⟨Nat.le_of_ble_eq_true rfl, Nat.le_of_ble_eq_true rfl⟩) ⟨fun a U g mk q => by obtain ⟨q0, q1, qP, qK, qD⟩ := q; exact ⟨q0, q1, qP, va_K.moved (u := U) (U := U.calling g mk a) (Vm.Alike.refl U.vm) qK, qD⟩, fun U hU hW => ⟨rfl, by rw [hU], by rw [hU]; exact hPc, va_K.moved hW.alike hKc, hDc.weaken (fun _ _ _ _ => trivial)⟩⟩ rfl rfl hl.1 rfl (lv_room (Nat.le_of_ble_eq_true rfl)) dX13_frameIsThere_62 ⟨Nat.le_of_ble_eq_true rfl, Nat.le_of_ble_eq_true rfl⟩) hS (fun q _ h => hFc q h) hFc ?_
            clear hS
            intro r_7 u t H1 locs ht hvm hw hB hz1 hk1 hS
            obtain ⟨⟩ := u
            obtain ⟨hP1, hK1, hD1⟩ := hB
            rw [ht] at hP1
            have hK1 := va_K.moved hvm.symm hK1
            try dsimp only at hw
            have hPD := va_join (wr := [(h0, .inr (13, z_2)), (qf100, .inl (cf100, 48000, .inl f100)), (qf102, .inl (cf102, 2048, .inl f102)), (qf104, .inl (cf104, 8, .inl f104)), (qf118, .inl (cf118, 2100, .inl g902_1)), (qf119, .inl (cf119, 2100, .inl g902_2))]) (w1 := []) hP hD [] [0, 1, 2, 3, 4, 5] rfl rfl (by decide) (by decide) hk1 hFc hP1 hD1
            clear hP hD
            obtain ⟨hP, hD⟩ := hPD
            replace hK := (hK.sub (tys' := [(cf100, .int), (cf102, .int), (cf104, .int), (cf118, .int), (cf119, .int)]) [0, 1, 2, 3, 4] rfl).app hK1
            clear hPc hDc hKc hFc hP1 hK1 hD1 hz1 hk1 ht hvm
            generalize H1 = H at hP hS ⊢
            replace hP : va_P (dC, dI) vwCl [(h0, .inr (13, z_2)), (qf100, .inl (cf100, 48000, .inl f100)), (qf102, .inl (cf102, 2048, .inl f102)), (qf104, .inl (cf104, 8, .inl f104)), (qf118, .inl (cf118, 2100, .inl g902_1)), (qf119, .inl (cf119, 2100, .inl g902_2))] H := hP
            replace hD : va_D A [(h0, .inr (13, z_2)), (qf100, .inl (cf100, 48000, .inl f100)), (qf102, .inl (cf102, 2048, .inl f102)), (qf104, .inl (cf104, 8, .inl f104)), (qf118, .inl (cf118, 2100, .inl g902_1)), (qf119, .inl (cf119, 2100, .inl g902_2))] := hD
            replace hK : va_K (dC, dI) vwCl [(cf100, .int), (cf102, .int), (cf104, .int), (cf118, .int), (cf119, .int)] s := hK
            obtain ⟨rfl, hz_3⟩ := hw
            rcases hz_3 with rfl | rfl
            · rw [if_pos rfl] at hsp
              refine lv_if_ne (tgt := 70) hx hb dX13_frameIsThere_65 (by decide) (fun c_8 => (show False by revert c_8; decide).elim) (fun c_8 => ?_)
              refine lv_iconst (v := 0) hx hb dX13_frameIsThere_68 (by decide) ?_
              have hr0 := Option.some.inj hsp
              clear hsp
              obtain ⟨hq0, hr1⟩ := Prod.mk.inj hr0
              clear hr0
              obtain ⟨hq1, hr2⟩ := Prod.mk.inj hr1
              clear hr1
              obtain ⟨hq2, hr3⟩ := Prod.mk.inj hr2
              clear hr2
              obtain ⟨hq3, hr4⟩ := Prod.mk.inj hr3
              clear hr3
              subst hq0
              subst hq1
              subst hq2
              subst hq3
              subst hr4
              have hP9 := hP.sub (ws' := [(h0, .inr (13, z_2)), (qf100, .inl (cf100, 48000, .inl f100)), (qf102, .inl (cf102, 2048, .inl f102)), (qf104, .inl (cf104, 8, .inl f104)), (qf118, .inl (cf118, 2100, .inl g902_1)), (qf119, .inl (cf119, 2100, .inl g902_2))]) [0, 1, 2, 3, 4, 5] rfl
              have hD9 := hD.sub (ws' := [(h0, .inr (13, z_2)), (qf100, .inl (cf100, 48000, .inl f100)), (qf102, .inl (cf102, 2048, .inl f102)), (qf104, .inl (cf104, 8, .inl f104)), (qf118, .inl (cf118, 2100, .inl g902_1)), (qf119, .inl (cf119, 2100, .inl g902_2))]) [0, 1, 2, 3, 4, 5] (by decide) rfl
              have hK9 := hK.sub (tys' := [(cf100, .int), (cf102, .int), (cf104, .int), (cf118, .int), (cf119, .int)]) [0, 1, 2, 3, 4] rfl
              exact W.zret hx hb hr (by decide) (fun t ht hW => ⟨⟨(0), (z_2), rfl, ⟨⟨rfl, Or.inl rfl⟩, hln_2, hrq_2, hch_2_117, hch_2_120⟩, by rw [ht]; exact hP9, va_K.moved hW.alike hK9, hD9⟩, hS.F ht⟩) hS.2.2 dX13_frameIsThere_69
            · rw [if_neg (by decide)] at hsp
              refine lv_if_ne (tgt := 70) hx hb dX13_frameIsThere_65 (by decide) (fun c_9 => ?_) (fun c_9 => (show False by revert c_9; decide).elim)
              refine lv_iload_n hx hb dX13_frameIsThere_70 rfl (lv_at hl 1 rfl) ?_
              refine lv_aload_n hx hb dX13_frameIsThere_71 rfl (lv_at hl 2 rfl) ?_
              refine lv_aload_n hx hb dX13_frameIsThere_72 rfl (lv_at hl 2 rfl) ?_
              refine va_get (D := (dC, dI)) (ci := 13) (v := .int v132) (C := RX13) (T := TX13) (N := 155) hx hb hts uV_h9_X13 hown hK hP 0 rfl rfl 132 (by decide) (hts (.fieldLink RX13 932 "ClassMillModel" "inClass" "I") mw_h9_533) (fun _ h9 => h9) hfk_2_132 dX13_frameIsThere_73 ?_
              refine lv_iload_n hx hb dX13_frameIsThere_76 rfl (lv_at hl 1 rfl) ?_
              obtain ⟨u4_0, hu_4, hsp⟩ := ox_bind hsp
              try dsimp only at hsp
              have hPc := hP.sub (ws' := [(h0, .inr (13, z_2)), (qf100, .inl (cf100, 48000, .inl f100))]) [0, 1] rfl
              have hDc := hD.sub (ws' := [(h0, .inr (13, z_2)), (qf100, .inl (cf100, 48000, .inl f100))]) [0, 1] (by decide) rfl
              have hKc := hK.sub (tys' := [(cf100, .int)]) [0] rfl
              have hFc := va_free (wc := [(h0, .inr (13, z_2)), (qf100, .inl (cf100, 48000, .inl f100))]) hD hS hA [0, 1] rfl
              refine va_calli (va_runV (As := [.int v132, .int l2_50]) (rest := [.int l2_50]) ⟨hx, hb, hml, hown, hts⟩ (tm_byteAt l dC dI H.size h0 z_2 v132 l2_50 qf100 cf100 f100 nf u4_0 hln_2 hfk_2_100 hu_4) (cwV 2 hts gv_h9_58 rfl rfl rfl (by decide +kernel) ⟨Nat.le_of_ble_eq_true rfl, Nat.le_of_ble_eq_true rfl⟩) ⟨fun a U g mk q => by obtain ⟨q0, q1, qP, qK, qD⟩ := q; exact ⟨q0, q1, qP, va_K.moved (u := U) (U := U.calling g mk a) (Vm.Alike.refl U.vm) qK, qD⟩, va_recv hKc hPc (ci := 13) (q0 := 0) rfl rfl, fun U hU hW => ⟨rfl, by rw [hU], by rw [hU]; exact hPc, va_K.moved hW.alike hKc, hDc.weaken (fun _ _ _ _ => trivial)⟩⟩ rfl rfl hl.1 rfl (lv_room (Nat.le_of_ble_eq_true rfl)) dX13_frameIsThere_77 ⟨Nat.le_of_ble_eq_true rfl, Nat.le_of_ble_eq_true rfl⟩) hS (fun q _ h => hFc q h) hFc ?_
              clear hS
              intro r_10 u t H1 locs ht hvm hw hB hz1 hk1 hS
              obtain ⟨z_4, rfl⟩ : ∃ z, z = u := ⟨_, rfl⟩
              obtain ⟨hP1, hK1, hD1⟩ := hB
              rw [ht] at hP1
              have hK1 := va_K.moved hvm.symm hK1
              try dsimp only at hw
              have hPD := va_join (wr := [(qf102, .inl (cf102, 2048, .inl f102)), (qf104, .inl (cf104, 8, .inl f104)), (qf118, .inl (cf118, 2100, .inl g902_1)), (qf119, .inl (cf119, 2100, .inl g902_2))]) (w1 := [(h0, .inr (13, z_4)), (qf100, .inl (cf100, 48000, .inl f100))]) hP hD [0, 1] [2, 3, 4, 5] rfl rfl (by decide) (by decide) hk1 hFc hP1 hD1
              clear hP hD
              obtain ⟨hP, hD⟩ := hPD
              replace hK := (hK.sub (tys' := [(cf102, .int), (cf104, .int), (cf118, .int), (cf119, .int)]) [1, 2, 3, 4] rfl).app hK1
              clear hPc hDc hKc hFc hP1 hK1 hD1 hz1 hk1 ht hvm
              generalize H1 = H at hP hS ⊢
              replace hP : va_P (dC, dI) vwCl [(qf102, .inl (cf102, 2048, .inl f102)), (qf104, .inl (cf104, 8, .inl f104)), (qf118, .inl (cf118, 2100, .inl g902_1)), (qf119, .inl (cf119, 2100, .inl g902_2)), (h0, .inr (13, z_4)), (qf100, .inl (cf100, 48000, .inl f100))] H := hP
              replace hD : va_D A [(qf102, .inl (cf102, 2048, .inl f102)), (qf104, .inl (cf104, 8, .inl f104)), (qf118, .inl (cf118, 2100, .inl g902_1)), (qf119, .inl (cf119, 2100, .inl g902_2)), (h0, .inr (13, z_4)), (qf100, .inl (cf100, 48000, .inl f100))] := hD
              replace hK : va_K (dC, dI) vwCl [(cf102, .int), (cf104, .int), (cf118, .int), (cf119, .int), (cf100, .int)] s := hK
              obtain ⟨hwa_4, hln_4, hre_4⟩ := hw
              have hfk_4_98 : z_4[98]? = some (.int v98) := (hre_4 98 ).trans (hfk_2_98)
              have hfk_4_100 : z_4[100]? = some (.ref qf100) := (hre_4 100 ).trans (hfk_2_100)
              have hfk_4_102 : z_4[102]? = some (.ref qf102) := (hre_4 102 ).trans (hfk_2_102)
              have hfk_4_104 : z_4[104]? = some (.ref qf104) := (hre_4 104 ).trans (hfk_2_104)
              have hfk_4_117 : z_4[117]? = some (.int u2_3) := (hre_4 117 ).trans (hch_2_117)
              have hfk_4_118 : z_4[118]? = some (.ref qf118) := (hre_4 118 ).trans (hfk_2_118)
              have hfk_4_119 : z_4[119]? = some (.ref qf119) := (hre_4 119 ).trans (hfk_2_119)
              have hfk_4_120 : z_4[120]? = some (.int u2_4) := (hre_4 120 ).trans (hch_2_120)
              have hfk_4_129 : z_4[129]? = some (.int v129) := (hre_4 129 ).trans (hfk_2_129)
              have hfk_4_130 : z_4[130]? = some (.int v130) := (hre_4 130 ).trans (hfk_2_130)
              have hfk_4_132 : z_4[132]? = some (.int v132) := (hre_4 132 ).trans (hfk_2_132)
              have hrq_4 : ∀ j : Nat, j ≠ 117 → j ≠ 120 → z_4[j]? = zs[j]? := fun j g117 g120 => (hre_4 j ).trans (hrq_2 j g117 g120)
              obtain rfl := hwa_4
              refine lv_iconst (v := 3) hx hb dX13_frameIsThere_80 (by decide) ?_
              refine lv_icmp_ne (tgt := 88) hx hb dX13_frameIsThere_81 (by decide) (fun c_11 => ?_) (fun c_11 => ?_)
              · rw [if_neg c_11] at hsp
                refine lv_iconst (v := 1) hx hb dX13_frameIsThere_88 (by decide) ?_
                refine lv_iadd hx hb dX13_frameIsThere_89 ?_
                refine lv_istore_n (lv' := [(2, .int (l2_50 + 1)), (5, .int l5_50), (0, .ref h0), (3, .int l3_50), (4, .int l4_50)]) hx hb dX13_frameIsThere_90 rfl hl (by decide) rfl (fun ls hl => ?_)
                refine lv_iinc (v := (l5_50 + 1)) (lv' := [(5, .int (l5_50 + 1)), (2, .int (l2_50 + 1)), (0, .ref h0), (3, .int l3_50), (4, .int l4_50)]) hx hb dX13_frameIsThere_91 hl (k := 1) rfl rfl (by decide) rfl (fun ls hl => ?_)
                refine lv_goto (tgt := 50) hx hb dX13_frameIsThere_94 (by decide) ?_
                exact ih_50 H locs ls z_4 (l2_50 + 1) l3_50 l4_50 (l5_50 + 1) g902_1 g902_2 u2_3 u2_4 (hfk_4_98) (hfk_4_100) (hfk_4_102) (hfk_4_104) (hfk_4_117) (hfk_4_118) (hfk_4_119) (hfk_4_120) (hfk_4_129) (hfk_4_130) (hfk_4_132) hln_4 hrq_4 (lv_sub hl [0, 1, 2, 3, 4] rfl) hS (hD.sub (ws' := [(h0, .inr (13, z_4)), (qf100, .inl (cf100, 48000, .inl f100)), (qf102, .inl (cf102, 2048, .inl f102)), (qf104, .inl (cf104, 8, .inl f104)), (qf118, .inl (cf118, 2100, .inl g902_1)), (qf119, .inl (cf119, 2100, .inl g902_2))]) [4, 5, 0, 1, 2, 3] (by decide) rfl) (hP.sub (ws' := [(h0, .inr (13, z_4)), (qf100, .inl (cf100, 48000, .inl f100)), (qf102, .inl (cf102, 2048, .inl f102)), (qf104, .inl (cf104, 8, .inl f104)), (qf118, .inl (cf118, 2100, .inl g902_1)), (qf119, .inl (cf119, 2100, .inl g902_2))]) [4, 5, 0, 1, 2, 3] rfl) hsp
              · rw [if_pos c_11] at hsp
                refine lv_iconst (v := 2) hx hb dX13_frameIsThere_84 (by decide) ?_
                refine lv_goto (tgt := 89) hx hb dX13_frameIsThere_85 (by decide) ?_
                refine lv_iadd hx hb dX13_frameIsThere_89 ?_
                refine lv_istore_n (lv' := [(2, .int (l2_50 + 2)), (5, .int l5_50), (0, .ref h0), (3, .int l3_50), (4, .int l4_50)]) hx hb dX13_frameIsThere_90 rfl hl (by decide) rfl (fun ls hl => ?_)
                refine lv_iinc (v := (l5_50 + 1)) (lv' := [(5, .int (l5_50 + 1)), (2, .int (l2_50 + 2)), (0, .ref h0), (3, .int l3_50), (4, .int l4_50)]) hx hb dX13_frameIsThere_91 hl (k := 1) rfl rfl (by decide) rfl (fun ls hl => ?_)
                refine lv_goto (tgt := 50) hx hb dX13_frameIsThere_94 (by decide) ?_
                exact ih_50 H locs ls z_4 (l2_50 + 2) l3_50 l4_50 (l5_50 + 1) g902_1 g902_2 u2_3 u2_4 (hfk_4_98) (hfk_4_100) (hfk_4_102) (hfk_4_104) (hfk_4_117) (hfk_4_118) (hfk_4_119) (hfk_4_120) (hfk_4_129) (hfk_4_130) (hfk_4_132) hln_4 hrq_4 (lv_sub hl [0, 1, 2, 3, 4] rfl) hS (hD.sub (ws' := [(h0, .inr (13, z_4)), (qf100, .inl (cf100, 48000, .inl f100)), (qf102, .inl (cf102, 2048, .inl f102)), (qf104, .inl (cf104, 8, .inl f104)), (qf118, .inl (cf118, 2100, .inl g902_1)), (qf119, .inl (cf119, 2100, .inl g902_2))]) [4, 5, 0, 1, 2, 3] (by decide) rfl) (hP.sub (ws' := [(h0, .inr (13, z_4)), (qf100, .inl (cf100, 48000, .inl f100)), (qf102, .inl (cf102, 2048, .inl f102)), (qf104, .inl (cf104, 8, .inl f104)), (qf118, .inl (cf118, 2100, .inl g902_1)), (qf119, .inl (cf119, 2100, .inl g902_2))]) [4, 5, 0, 1, 2, 3] rfl) hsp
      · rw [if_neg c_4] at hsp
        refine lv_iconst (v := 0) hx hb dX13_frameIsThere_42 (by decide) ?_
        have hr0 := Option.some.inj hsp
        clear hsp
        obtain ⟨hq0, hr1⟩ := Prod.mk.inj hr0
        clear hr0
        obtain ⟨hq1, hr2⟩ := Prod.mk.inj hr1
        clear hr1
        obtain ⟨hq2, hr3⟩ := Prod.mk.inj hr2
        clear hr2
        obtain ⟨hq3, hr4⟩ := Prod.mk.inj hr3
        clear hr3
        subst hq0
        subst hq1
        subst hq2
        subst hq3
        subst hr4
        have hP9 := hP.sub (ws' := [(h0, .inr (13, z39)), (qf100, .inl (cf100, 48000, .inl f100)), (qf102, .inl (cf102, 2048, .inl f102)), (qf104, .inl (cf104, 8, .inl f104)), (qf118, .inl (cf118, 2100, .inl g118_39)), (qf119, .inl (cf119, 2100, .inl g119_39))]) [0, 1, 2, 3, 4, 5] rfl
        have hD9 := hD.sub (ws' := [(h0, .inr (13, z39)), (qf100, .inl (cf100, 48000, .inl f100)), (qf102, .inl (cf102, 2048, .inl f102)), (qf104, .inl (cf104, 8, .inl f104)), (qf118, .inl (cf118, 2100, .inl g118_39)), (qf119, .inl (cf119, 2100, .inl g119_39))]) [0, 1, 2, 3, 4, 5] (by decide) rfl
        have hK9 := hK.sub (tys' := [(cf100, .int), (cf102, .int), (cf104, .int), (cf118, .int), (cf119, .int)]) [0, 1, 2, 3, 4] rfl
        exact W.zret hx hb hr (by decide) (fun t ht hW => ⟨⟨(0), (z39), rfl, ⟨⟨rfl, Or.inl rfl⟩, hlh_39, hrh_39, hfh_39_117, hfh_39_120⟩, by rw [ht]; exact hP9, va_K.moved hW.alike hK9, hD9⟩, hS.F ht⟩) hS.2.2 dX13_frameIsThere_43
    intro hj_39
    refine lv_iload_n hx hb dX13_frameIsThere_6 rfl (lv_at hl 0 rfl) ?_
    refine lv_iconst (v := 2) hx hb dX13_frameIsThere_7 (by decide) ?_
    refine lv_icmp_ge (tgt := 103) hx hb dX13_frameIsThere_8 (by decide) (fun c_1 => ?_) (fun c_1 => ?_)
    · rw [if_pos c_1] at hsp
      refine lv_iconst (v := 1) hx hb dX13_frameIsThere_103 (by decide) ?_
      have hr0 := Option.some.inj hsp
      clear hsp
      obtain ⟨hq0, hr1⟩ := Prod.mk.inj hr0
      clear hr0
      obtain ⟨hq1, hr2⟩ := Prod.mk.inj hr1
      clear hr1
      obtain ⟨hq2, hr3⟩ := Prod.mk.inj hr2
      clear hr2
      obtain ⟨hq3, hr4⟩ := Prod.mk.inj hr3
      clear hr3
      subst hq0
      subst hq1
      subst hq2
      subst hq3
      subst hr4
      have hP9 := hP.sub (ws' := [(h0, .inr (13, z6)), (qf100, .inl (cf100, 48000, .inl f100)), (qf102, .inl (cf102, 2048, .inl f102)), (qf104, .inl (cf104, 8, .inl f104)), (qf118, .inl (cf118, 2100, .inl g118_6)), (qf119, .inl (cf119, 2100, .inl g119_6))]) [0, 1, 2, 3, 4, 5] rfl
      have hD9 := hD.sub (ws' := [(h0, .inr (13, z6)), (qf100, .inl (cf100, 48000, .inl f100)), (qf102, .inl (cf102, 2048, .inl f102)), (qf104, .inl (cf104, 8, .inl f104)), (qf118, .inl (cf118, 2100, .inl g118_6)), (qf119, .inl (cf119, 2100, .inl g119_6))]) [0, 1, 2, 3, 4, 5] (by decide) rfl
      have hK9 := hK.sub (tys' := [(cf100, .int), (cf102, .int), (cf104, .int), (cf118, .int), (cf119, .int)]) [0, 1, 2, 3, 4] rfl
      exact W.zret hx hb hr (by decide) (fun t ht hW => ⟨⟨(1), (z6), rfl, ⟨⟨rfl, Or.inr rfl⟩, hlh_6, hrh_6, hfh_6_117, hfh_6_120⟩, by rw [ht]; exact hP9, va_K.moved hW.alike hK9, hD9⟩, hS.F ht⟩) hS.2.2 dX13_frameIsThere_104
    · rw [if_neg c_1] at hsp
      refine lv_aload_n hx hb dX13_frameIsThere_11 rfl (lv_at hl 2 rfl) ?_
      refine lv_aload_n hx hb dX13_frameIsThere_12 rfl (lv_at hl 2 rfl) ?_
      refine va_get (D := (dC, dI)) (ci := 13) (v := .int v132) (C := RX13) (T := TX13) (N := 155) hx hb hts uV_h9_X13 hown hK hP 0 rfl rfl 132 (by decide) (hts (.fieldLink RX13 932 "ClassMillModel" "inClass" "I") mw_h9_533) (fun _ h9 => h9) hfh_6_132 dX13_frameIsThere_13 ?_
      refine lv_iload_n hx hb dX13_frameIsThere_16 rfl (lv_at hl 1 rfl) ?_
      obtain ⟨u1_0, hu_1, hsp⟩ := ox_bind hsp
      try dsimp only at hsp
      have hPc := hP.sub (ws' := [(h0, .inr (13, z6)), (qf100, .inl (cf100, 48000, .inl f100))]) [0, 1] rfl
      have hDc := hD.sub (ws' := [(h0, .inr (13, z6)), (qf100, .inl (cf100, 48000, .inl f100))]) [0, 1] (by decide) rfl
      have hKc := hK.sub (tys' := [(cf100, .int)]) [0] rfl
      have hFc := va_free (wc := [(h0, .inr (13, z6)), (qf100, .inl (cf100, 48000, .inl f100))]) hD hS hA [0, 1] rfl
      refine va_calli (va_runV (As := [.int v132, .int l2_6]) (rest := []) ⟨hx, hb, hml, hown, hts⟩ (tm_byteAt l dC dI H.size h0 z6 v132 l2_6 qf100 cf100 f100 nf u1_0 hlh_6 hfh_6_100 hu_1) (cwV 2 hts gv_h9_58 rfl rfl rfl (by decide +kernel) ⟨Nat.le_of_ble_eq_true rfl, Nat.le_of_ble_eq_true rfl⟩) ⟨fun a U g mk q => by obtain ⟨q0, q1, qP, qK, qD⟩ := q; exact ⟨q0, q1, qP, va_K.moved (u := U) (U := U.calling g mk a) (Vm.Alike.refl U.vm) qK, qD⟩, va_recv hKc hPc (ci := 13) (q0 := 0) rfl rfl, fun U hU hW => ⟨rfl, by rw [hU], by rw [hU]; exact hPc, va_K.moved hW.alike hKc, hDc.weaken (fun _ _ _ _ => trivial)⟩⟩ rfl rfl hl.1 rfl (lv_room (Nat.le_of_ble_eq_true rfl)) dX13_frameIsThere_17 ⟨Nat.le_of_ble_eq_true rfl, Nat.le_of_ble_eq_true rfl⟩) hS (fun q _ h => hFc q h) hFc ?_
      clear hS
      intro r_2 u t H1 locs ht hvm hw hB hz1 hk1 hS
      obtain ⟨z_1, rfl⟩ : ∃ z, z = u := ⟨_, rfl⟩
      obtain ⟨hP1, hK1, hD1⟩ := hB
      rw [ht] at hP1
      have hK1 := va_K.moved hvm.symm hK1
      try dsimp only at hw
      have hPD := va_join (wr := [(qf102, .inl (cf102, 2048, .inl f102)), (qf104, .inl (cf104, 8, .inl f104)), (qf118, .inl (cf118, 2100, .inl g118_6)), (qf119, .inl (cf119, 2100, .inl g119_6))]) (w1 := [(h0, .inr (13, z_1)), (qf100, .inl (cf100, 48000, .inl f100))]) hP hD [0, 1] [2, 3, 4, 5] rfl rfl (by decide) (by decide) hk1 hFc hP1 hD1
      clear hP hD
      obtain ⟨hP, hD⟩ := hPD
      replace hK := (hK.sub (tys' := [(cf102, .int), (cf104, .int), (cf118, .int), (cf119, .int)]) [1, 2, 3, 4] rfl).app hK1
      clear hPc hDc hKc hFc hP1 hK1 hD1 hz1 hk1 ht hvm
      generalize H1 = H at hP hS ⊢
      replace hP : va_P (dC, dI) vwCl [(qf102, .inl (cf102, 2048, .inl f102)), (qf104, .inl (cf104, 8, .inl f104)), (qf118, .inl (cf118, 2100, .inl g118_6)), (qf119, .inl (cf119, 2100, .inl g119_6)), (h0, .inr (13, z_1)), (qf100, .inl (cf100, 48000, .inl f100))] H := hP
      replace hD : va_D A [(qf102, .inl (cf102, 2048, .inl f102)), (qf104, .inl (cf104, 8, .inl f104)), (qf118, .inl (cf118, 2100, .inl g118_6)), (qf119, .inl (cf119, 2100, .inl g119_6)), (h0, .inr (13, z_1)), (qf100, .inl (cf100, 48000, .inl f100))] := hD
      replace hK : va_K (dC, dI) vwCl [(cf102, .int), (cf104, .int), (cf118, .int), (cf119, .int), (cf100, .int)] s := hK
      obtain ⟨hwa_1, hln_1, hre_1⟩ := hw
      have hfk_1_98 : z_1[98]? = some (.int v98) := (hre_1 98 ).trans (hfh_6_98)
      have hfk_1_100 : z_1[100]? = some (.ref qf100) := (hre_1 100 ).trans (hfh_6_100)
      have hfk_1_102 : z_1[102]? = some (.ref qf102) := (hre_1 102 ).trans (hfh_6_102)
      have hfk_1_104 : z_1[104]? = some (.ref qf104) := (hre_1 104 ).trans (hfh_6_104)
      have hfk_1_117 : z_1[117]? = some (.int x117_6) := (hre_1 117 ).trans (hfh_6_117)
      have hfk_1_118 : z_1[118]? = some (.ref qf118) := (hre_1 118 ).trans (hfh_6_118)
      have hfk_1_119 : z_1[119]? = some (.ref qf119) := (hre_1 119 ).trans (hfh_6_119)
      have hfk_1_120 : z_1[120]? = some (.int x120_6) := (hre_1 120 ).trans (hfh_6_120)
      have hfk_1_129 : z_1[129]? = some (.int v129) := (hre_1 129 ).trans (hfh_6_129)
      have hfk_1_130 : z_1[130]? = some (.int v130) := (hre_1 130 ).trans (hfh_6_130)
      have hfk_1_132 : z_1[132]? = some (.int v132) := (hre_1 132 ).trans (hfh_6_132)
      have hrq_1 : ∀ j : Nat, j ≠ 117 → j ≠ 120 → z_1[j]? = zs[j]? := fun j g117 g120 => (hre_1 j ).trans (hrh_6 j g117 g120)
      obtain rfl := hwa_1
      refine lv_istore (lv' := [(4, .int u1_0), (3, .int l3_6), (2, .int l2_6), (0, .ref h0)]) hx hb dX13_frameIsThere_20 hl (by decide) rfl (fun ls hl => ?_)
      refine lv_iload hx hb dX13_frameIsThere_22 (lv_at hl 0 rfl) ?_
      refine lv_iload_n hx hb dX13_frameIsThere_24 rfl (lv_at hl 1 rfl) ?_
      refine lv_if_ne (tgt := 35) hx hb dX13_frameIsThere_25 (by decide) (fun c_3 => ?_) (fun c_3 => ?_)
      · rw [if_neg c_3] at hsp
        refine lv_aload_n hx hb dX13_frameIsThere_35 rfl (lv_at hl 3 rfl) ?_
        refine va_get (D := (dC, dI)) (ci := 13) (v := .int v130) (C := RX13) (T := TX13) (N := 155) hx hb hts uV_h9_X13 hown hK hP 4 rfl rfl 130 (by decide) (hts (.fieldLink RX13 967 "ClassMillModel" "stackMost" "I") mw_h9_548) (fun _ h9 => h9) hfk_1_130 dX13_frameIsThere_36 ?_
        exact hj_39 (H, locs, ls, z_1, l2_6, l3_6, u1_0, v130, u1_0, g118_6, g119_6, x117_6, x120_6) ⟨lv_sub hl [3, 2, 1, 0] rfl, hS, hD.sub (ws' := [(h0, .inr (13, z_1)), (qf100, .inl (cf100, 48000, .inl f100)), (qf102, .inl (cf102, 2048, .inl f102)), (qf104, .inl (cf104, 8, .inl f104)), (qf118, .inl (cf118, 2100, .inl g118_6)), (qf119, .inl (cf119, 2100, .inl g119_6))]) [4, 5, 0, 1, 2, 3] (by decide) rfl, hP.sub (ws' := [(h0, .inr (13, z_1)), (qf100, .inl (cf100, 48000, .inl f100)), (qf102, .inl (cf102, 2048, .inl f102)), (qf104, .inl (cf104, 8, .inl f104)), (qf118, .inl (cf118, 2100, .inl g118_6)), (qf119, .inl (cf119, 2100, .inl g119_6))]) [4, 5, 0, 1, 2, 3] rfl, hfk_1_98, hfk_1_100, hfk_1_102, hfk_1_104, hfk_1_117, hfk_1_118, hfk_1_119, hfk_1_120, hfk_1_129, hfk_1_130, hfk_1_132, hln_1, hrq_1, hsp⟩
      · rw [if_pos c_3] at hsp
        refine lv_aload_n hx hb dX13_frameIsThere_28 rfl (lv_at hl 3 rfl) ?_
        refine va_get (D := (dC, dI)) (ci := 13) (v := .int v129) (C := RX13) (T := TX13) (N := 155) hx hb hts uV_h9_X13 hown hK hP 4 rfl rfl 129 (by decide) (hts (.fieldLink RX13 964 "ClassMillModel" "localMany" "I") mw_h9_545) (fun _ h9 => h9) hfk_1_129 dX13_frameIsThere_29 ?_
        refine lv_goto (tgt := 39) hx hb dX13_frameIsThere_32 (by decide) ?_
        exact hj_39 (H, locs, ls, z_1, l2_6, l3_6, u1_0, v129, u1_0, g118_6, g119_6, x117_6, x120_6) ⟨lv_sub hl [3, 2, 1, 0] rfl, hS, hD.sub (ws' := [(h0, .inr (13, z_1)), (qf100, .inl (cf100, 48000, .inl f100)), (qf102, .inl (cf102, 2048, .inl f102)), (qf104, .inl (cf104, 8, .inl f104)), (qf118, .inl (cf118, 2100, .inl g118_6)), (qf119, .inl (cf119, 2100, .inl g119_6))]) [4, 5, 0, 1, 2, 3] (by decide) rfl, hP.sub (ws' := [(h0, .inr (13, z_1)), (qf100, .inl (cf100, 48000, .inl f100)), (qf102, .inl (cf102, 2048, .inl f102)), (qf104, .inl (cf104, 8, .inl f104)), (qf118, .inl (cf118, 2100, .inl g118_6)), (qf119, .inl (cf119, 2100, .inl g119_6))]) [4, 5, 0, 1, 2, 3] rfl, hfk_1_98, hfk_1_100, hfk_1_102, hfk_1_104, hfk_1_117, hfk_1_118, hfk_1_119, hfk_1_120, hfk_1_129, hfk_1_130, hfk_1_132, hln_1, hrq_1, hsp⟩
def lp_vm_handled_20 (nf n : Nat) (a1 : Int32) (v98 : Int32) (v117 : Int32) (v120 : Int32) (v132 : Int32) (v133 : Int32) (f110 : Nat → Int32) (f100 : Nat → Int32) (f111 : Nat → Int32) (f127 : Nat → Int32) (f102 : Nat → Int32) (f104 : Nat → Int32) (f118 : Nat → Int32) (f119 : Nat → Int32) (f105 : Nat → Int32) (nS477 : Nat) (fS477 : Nat → Int32)  (l1_20 : Int32) (l2_20 : Int32) (l3_20 : Int32) (g118_20 : Nat → Int32) (g119_20 : Nat → Int32) (x117_20 : Int32) (x120_20 : Int32) : Option (Int32 × (Nat → Int32) × (Nat → Int32) × Int32 × Int32) := match n with
  | 0 => none
  | n + 1 => ((sp_tm_byteAt nf v132 l2_20 f100).bind (fun p1 => (if p1 ≤ l3_20 then (some (1, g118_20, g119_20, x117_20, x120_20)) else ((sp_tm_pairIn nf ((l2_20 + 1) + (7 * l3_20)) v132 f100).bind (fun p2 => (if l1_20 < p2 then (lp_vm_handled_20 nf n a1 v98 v117 v120 v132 v133 f110 f100 f111 f127 f102 f104 f118 f119 f105 nS477 fS477 l1_20 l2_20 (l3_20 + 1) g118_20 g119_20 x117_20 x120_20) else ((sp_tm_pairIn nf (((l2_20 + 1) + (7 * l3_20)) + 2) v132 f100).bind (fun p3 => (if l1_20 < p3 then ((sp_tm_pairIn nf (((l2_20 + 1) + (7 * l3_20)) + 4) v132 f100).bind (fun p4 => ((sp_tn_frameFor nf p4 v132 v133 f111 f100).bind (fun p5 => ((sp_vm_localsFit nf p5 v98 x117_20 x120_20 v132 f100 f127 f102 f104 g118_20 g119_20 f105 nS477 fS477).bind (fun p6 => (if p6.1 = 0 then (some (0, p6.2.1, p6.2.2.1, p6.2.2.2.1, p6.2.2.2.2)) else ((sp_tn_typesEnd nf (p5 + 2) v132 f100).bind (fun p7 => ((sp_tm_byteAt nf v132 p7 f100).bind (fun p8 => (if p8 = 1 then ((sp_tm_byteAt nf v132 (((l2_20 + 1) + (7 * l3_20)) + 6) f100).bind (fun p9 => ((sp_vm_typeOfClass nf v132 p9 v98 p6.2.2.2.1 p6.2.2.2.2 f102 f100 f104 p6.2.1 p6.2.2.1 nS477 fS477).bind (fun p10 => ((sp_vm_framed nf (p7 + 1) v98 p10.2.2.2.1 p10.2.2.2.2 v132 f100 f102 f104 p10.2.1 p10.2.2.1 nS477 fS477).bind (fun p11 => ((sp_vm_goes nf p10.1 p11.1 v98 f105 f102 f100 f104 nS477 fS477).bind (fun p12 => (if p12 = 0 then (some (0, p11.2.1, p11.2.2.1, p11.2.2.2.1, p11.2.2.2.2)) else (lp_vm_handled_20 nf n a1 v98 v117 v120 v132 v133 f110 f100 f111 f127 f102 f104 f118 f119 f105 nS477 fS477 l1_20 l2_20 (l3_20 + 1) p11.2.1 p11.2.2.1 p11.2.2.2.1 p11.2.2.2.2)))))))))) else (some (0, p6.2.1, p6.2.2.1, p6.2.2.2.1, p6.2.2.2.2)))))))))))))) else (lp_vm_handled_20 nf n a1 v98 v117 v120 v132 v133 f110 f100 f111 f127 f102 f104 f118 f119 f105 nS477 fS477 l1_20 l2_20 (l3_20 + 1) g118_20 g119_20 x117_20 x120_20))))))))))
def sp_vm_handled (nf : Nat) (a1 : Int32) (v98 : Int32) (v117 : Int32) (v120 : Int32) (v132 : Int32) (v133 : Int32) (f110 : Nat → Int32) (f100 : Nat → Int32) (f111 : Nat → Int32) (f127 : Nat → Int32) (f102 : Nat → Int32) (f104 : Nat → Int32) (f118 : Nat → Int32) (f119 : Nat → Int32) (f105 : Nat → Int32) (nS477 : Nat) (fS477 : Nat → Int32) : Option (Int32 × (Nat → Int32) × (Nat → Int32) × Int32 × Int32) := (if ((12 * v132) + v133) < 0 then none else if 96 ≤ (((12 * v132) + v133) : Int32).toNatClampNeg then none else (lp_vm_handled_20 nf nf a1 v98 v117 v120 v132 v133 f110 f100 f111 f127 f102 f104 f118 f119 f105 nS477 fS477  a1 (f110 (((12 * v132) + v133) : Int32).toNatClampNeg) 0 f118 f119 v117 v120))
set_option maxHeartbeats 4000000 in
set_option maxRecDepth 100000 in
/-- ClassMillModel.handled -/
theorem vm_handled (l : Launch) (dC : Nat → ClassId) (dI : Nat → Nat → Nat) (sz : Nat) (h0 : Nat) (zs : (List Value)) (a1 : Int32) (v98 : Int32) (qf100 : Nat) (qf102 : Nat) (qf104 : Nat) (qf105 : Nat) (qf110 : Nat) (qf111 : Nat) (v117 : Int32) (qf118 : Nat) (qf119 : Nat) (v120 : Int32) (qf127 : Nat) (v132 : Int32) (v133 : Int32) (cf110 : ClassId) (f110 : (Nat → Int32)) (cf100 : ClassId) (f100 : (Nat → Int32)) (cf111 : ClassId) (f111 : (Nat → Int32)) (cf127 : ClassId) (f127 : (Nat → Int32)) (cf102 : ClassId) (f102 : (Nat → Int32)) (cf104 : ClassId) (f104 : (Nat → Int32)) (cf118 : ClassId) (f118 : (Nat → Int32)) (cf119 : ClassId) (f119 : (Nat → Int32)) (cf105 : ClassId) (f105 : (Nat → Int32)) (nS477 : Nat) (fS477 : (Nat → Int32)) (hS477 : Nat) (qS477 : Nat) (tS477 : String) (nf : Nat) (r0 : Int32) (o118 : (Nat → Int32)) (o119 : (Nat → Int32)) (w117 : Int32) (w120 : Int32) (hlen : zs.length = 155) (hf98 : zs[98]? = some (.int v98)) (hf100 : zs[100]? = some (.ref qf100)) (hf102 : zs[102]? = some (.ref qf102)) (hf104 : zs[104]? = some (.ref qf104)) (hf105 : zs[105]? = some (.ref qf105)) (hf110 : zs[110]? = some (.ref qf110)) (hf111 : zs[111]? = some (.ref qf111)) (hf117 : zs[117]? = some (.int v117)) (hf118 : zs[118]? = some (.ref qf118)) (hf119 : zs[119]? = some (.ref qf119)) (hf120 : zs[120]? = some (.int v120)) (hf127 : zs[127]? = some (.ref qf127)) (hf132 : zs[132]? = some (.int v132)) (hf133 : zs[133]? = some (.int v133)) (hsp : sp_vm_handled nf a1 v98 v117 v120 v132 v133 f110 f100 f111 f127 f102 f104 f118 f119 f105 nS477 fS477 = some (r0, o118, o119, w117, w120)) : Met l yX13_handled (.code yX13_handled cX13_handled 7 (some .boolean) :: VS_h9) ({ frames := 11, cells := 0, slots := 0, locals := 256 }) (va_Pc [.ref h0, .int a1] (fun U => U.heap.size = sz ∧ va_P (dC, dI) vwCl [(h0, .inr (13, zs)), (qf110, .inl (cf110, 96, .inl f110)), (qf100, .inl (cf100, 48000, .inl f100)), (qf111, .inl (cf111, 96, .inl f111)), (qf127, .inl (cf127, 30, .inl f127)), (qf102, .inl (cf102, 2048, .inl f102)), (qf104, .inl (cf104, 8, .inl f104)), (qf118, .inl (cf118, 2100, .inl f118)), (qf119, .inl (cf119, 2100, .inl f119)), (qf105, .inl (cf105, 8, .inl f105))] U.heap ∧ va_K (dC, dI) vwCl [(cf110, .int), (cf100, .int), (cf111, .int), (cf127, .int), (cf102, .int), (cf104, .int), (cf118, .int), (cf119, .int), (cf105, .int)] U ∧ va_D (fun _ => True) [(h0, .inr (13, zs)), (qf110, .inl (cf110, 96, .inl f110)), (qf100, .inl (cf100, 48000, .inl f100)), (qf111, .inl (cf111, 96, .inl f111)), (qf127, .inl (cf127, 30, .inl f127)), (qf102, .inl (cf102, 2048, .inl f102)), (qf104, .inl (cf104, 8, .inl f104)), (qf118, .inl (cf118, 2100, .inl f118)), (qf119, .inl (cf119, 2100, .inl f119)), (qf105, .inl (cf105, 8, .inl f105))] ∧ pz_W nS477 fS477 hS477 qS477 (va_A [(h0, .inr (13, zs)), (qf110, .inl (cf110, 96, .inl f110)), (qf100, .inl (cf100, 48000, .inl f100)), (qf111, .inl (cf111, 96, .inl f111)), (qf127, .inl (cf127, 30, .inl f127)), (qf102, .inl (cf102, 2048, .inl f102)), (qf104, .inl (cf104, 8, .inl f104)), (qf118, .inl (cf118, 2100, .inl f118)), (qf119, .inl (cf119, 2100, .inl f119)), (qf105, .inl (cf105, 8, .inl f105))] sz) U U.heap ∧ vk_R RX13 477 tS477 hS477 U)) (va_Qi (fun (r : Int32) (u : (List Value)) => match u with | (zo1) => (r0 = r ∧ (r0 = 0 ∨ r0 = 1)) ∧ zo1.length = 155 ∧ (∀ j : Nat, j ≠ 117 → j ≠ 120 → zo1[j]? = zs[j]?) ∧ zo1[117]? = some (.int w117) ∧ zo1[120]? = some (.int w120)) (fun (u : (List Value)) (t : State) => match u with | (zo1) => va_P (dC, dI) vwCl [(h0, .inr (13, zo1)), (qf110, .inl (cf110, 96, .inl f110)), (qf100, .inl (cf100, 48000, .inl f100)), (qf111, .inl (cf111, 96, .inl f111)), (qf127, .inl (cf127, 30, .inl f127)), (qf102, .inl (cf102, 2048, .inl f102)), (qf104, .inl (cf104, 8, .inl f104)), (qf118, .inl (cf118, 2100, .inl o118)), (qf119, .inl (cf119, 2100, .inl o119)), (qf105, .inl (cf105, 8, .inl f105))] t.heap ∧ va_K (dC, dI) vwCl [(cf110, .int), (cf100, .int), (cf111, .int), (cf127, .int), (cf102, .int), (cf104, .int), (cf118, .int), (cf119, .int), (cf105, .int)] t ∧ va_D (va_A [(h0, .inr (13, zs)), (qf110, .inl (cf110, 96, .inl f110)), (qf100, .inl (cf100, 48000, .inl f100)), (qf111, .inl (cf111, 96, .inl f111)), (qf127, .inl (cf127, 30, .inl f127)), (qf102, .inl (cf102, 2048, .inl f102)), (qf104, .inl (cf104, 8, .inl f104)), (qf118, .inl (cf118, 2100, .inl f118)), (qf119, .inl (cf119, 2100, .inl f119)), (qf105, .inl (cf105, 8, .inl f105))] sz) [(h0, .inr (13, zo1)), (qf110, .inl (cf110, 96, .inl f110)), (qf100, .inl (cf100, 48000, .inl f100)), (qf111, .inl (cf111, 96, .inl f111)), (qf127, .inl (cf127, 30, .inl f127)), (qf102, .inl (cf102, 2048, .inl f102)), (qf104, .inl (cf104, 8, .inl f104)), (qf118, .inl (cf118, 2100, .inl o118)), (qf119, .inl (cf119, 2100, .inl o119)), (qf105, .inl (cf105, 8, .inl f105))]) (va_A [(h0, .inr (13, zs)), (qf110, .inl (cf110, 96, .inl f110)), (qf100, .inl (cf100, 48000, .inl f100)), (qf111, .inl (cf111, 96, .inl f111)), (qf127, .inl (cf127, 30, .inl f127)), (qf102, .inl (cf102, 2048, .inl f102)), (qf104, .inl (cf104, 8, .inl f104)), (qf118, .inl (cf118, 2100, .inl f118)), (qf119, .inl (cf119, 2100, .inl f119)), (qf105, .inl (cf105, 8, .inl f105))] sz)) 0 0 (va_A [(h0, .inr (13, zs)), (qf110, .inl (cf110, 96, .inl f110)), (qf100, .inl (cf100, 48000, .inl f100)), (qf111, .inl (cf111, 96, .inl f111)), (qf127, .inl (cf127, 30, .inl f127)), (qf102, .inl (cf102, 2048, .inl f102)), (qf104, .inl (cf104, 8, .inl f104)), (qf118, .inl (cf118, 2100, .inl f118)), (qf119, .inl (cf119, 2100, .inl f119)), (qf105, .inl (cf105, 8, .inl f105))] sz) := by
  refine Met.ofW (cc := cX13_handled) (maxL := 7) (ret := (some .boolean)) (by decide) rfl ?_
  intro p e s m args below meth c s₁ B hml hv
  obtain ⟨rfl, hsz, hP, hK, hD0, hZWS477, hZRS477⟩ := hv
  have hx := B.exec
  have hb := B.bytes
  have hr := B.returns
  have hts := atoms_spec (ws := (.code yX13_handled cX13_handled 7 (some .boolean) :: VS_h9)) B.pre
  replace hts := fun w (h : w ∈ VS_h9) => hts w (List.mem_cons_of_mem _ h)
  have hown : s.vm.findClass RX13 = some m.cls := findClass_of_methodNamed B.named
  have hlocks := B.notSynchronized
  subst hsz
  have hD := hD0.self (sz := s.heap.size)
  generalize hAe : va_A [(h0, .inr (13, zs)), (qf110, .inl (cf110, 96, .inl f110)), (qf100, .inl (cf100, 48000, .inl f100)), (qf111, .inl (cf111, 96, .inl f111)), (qf127, .inl (cf127, 30, .inl f127)), (qf102, .inl (cf102, 2048, .inl f102)), (qf104, .inl (cf104, 8, .inl f104)), (qf118, .inl (cf118, 2100, .inl f118)), (qf119, .inl (cf119, 2100, .inl f119)), (qf105, .inl (cf105, 8, .inl f105))] s.heap.size = A at hD hZWS477 ⊢
  have hA : ∀ q : Nat, s.heap.size ≤ q → A q := fun q h => by rw [← hAe]; exact Or.inr h
  have hP : va_P (dC, dI) vwCl [(h0, .inr (13, zs)), (qf110, .inl (cf110, 96, .inl f110)), (qf100, .inl (cf100, 48000, .inl f100)), (qf111, .inl (cf111, 96, .inl f111)), (qf127, .inl (cf127, 30, .inl f127)), (qf102, .inl (cf102, 2048, .inl f102)), (qf104, .inl (cf104, 8, .inl f104)), (qf118, .inl (cf118, 2100, .inl f118)), (qf119, .inl (cf119, 2100, .inl f119)), (qf105, .inl (cf105, 8, .inl f105))] s.heap := hP
  have hl := lv_entry ([.ref h0, .int a1]) (n := 7) (Nat.le_of_ble_eq_true rfl)
  rw [lg_entry_eq]
  generalize (lg_sl ([.ref h0, .int a1]) ++ List.replicate (7 - (lg_sl ([.ref h0, .int a1])).length) Slot.unset).toArray = ls at hl ⊢
  have hl : lv_has ls 7 [(0, .ref h0), (1, .int a1)] := hl
  obtain ⟨H, hH⟩ : ∃ H : Heap, s.heap = H := ⟨_, rfl⟩
  rw [hH] at hP ⊢
  have hS : va_S A s.heap H [] := by rw [← hH]; exact va_S.rf
  obtain ⟨locs, hlo⟩ : ∃ locs : List Loc, locs = [] := ⟨_, rfl⟩
  rw [← hlo] at hS ⊢
  have hrs0 : ∀ j : Nat, j ≠ 117 → j ≠ 120 → zs[j]? = zs[j]? := fun _ _ _  => rfl
  unfold sp_vm_handled at hsp
  refine lv_aload_n hx hb dX13_handled_0 rfl (lv_at hl 0 rfl) ?_
  refine va_get (D := (dC, dI)) (ci := 13) (v := .ref qf110) (C := RX13) (T := TX13) (N := 155) hx hb hts uV_h9_X13 hown hK hP 0 rfl rfl 110 (by decide) (hts (.fieldLink RX13 239 "ClassMillModel" "handlersAt" "[I") mw_h9_283) (fun _ h9 => h9) hf110 dX13_handled_1 ?_
  refine lv_bipush (v := 12) hx hb dX13_handled_4 (by decide) ?_
  refine lv_aload_n hx hb dX13_handled_6 rfl (lv_at hl 0 rfl) ?_
  refine va_get (D := (dC, dI)) (ci := 13) (v := .int v132) (C := RX13) (T := TX13) (N := 155) hx hb hts uV_h9_X13 hown hK hP 0 rfl rfl 132 (by decide) (hts (.fieldLink RX13 932 "ClassMillModel" "inClass" "I") mw_h9_533) (fun _ h9 => h9) hf132 dX13_handled_7 ?_
  refine lv_imul hx hb dX13_handled_10 ?_
  refine lv_aload_n hx hb dX13_handled_11 rfl (lv_at hl 0 rfl) ?_
  refine va_get (D := (dC, dI)) (ci := 13) (v := .int v133) (C := RX13) (T := TX13) (N := 155) hx hb hts uV_h9_X13 hown hK hP 0 rfl rfl 133 (by decide) (hts (.fieldLink RX13 940 "ClassMillModel" "inMethod" "I") mw_h9_561) (fun _ h9 => h9) hf133 dX13_handled_12 ?_
  refine lv_iadd hx hb dX13_handled_15 ?_
  obtain ⟨hi_1, hsp⟩ := ox_in hsp
  refine va_iald hx hb hK hP 1 0 rfl rfl (i := ((12 * v132) + v133)) hi_1 dX13_handled_16 ?_
  refine lv_istore_n (lv' := [(2, .int (f110 (((12 * v132) + v133) : Int32).toNatClampNeg)), (0, .ref h0), (1, .int a1)]) hx hb dX13_handled_17 rfl hl (by decide) rfl (fun ls hl => ?_)
  refine lv_iconst (v := 0) hx hb dX13_handled_18 (by decide) ?_
  refine lv_istore_n (lv' := [(3, .int 0), (2, .int (f110 (((12 * v132) + v133) : Int32).toNatClampNeg)), (0, .ref h0), (1, .int a1)]) hx hb dX13_handled_19 rfl hl (by decide) rfl (fun ls hl => ?_)
  replace hl : lv_has ls 7 [(3, .int 0), (2, .int (f110 (((12 * v132) + v133) : Int32).toNatClampNeg)), (0, .ref h0), (1, .int a1)] := lv_sub hl [0, 1, 2, 3] rfl
  replace hP := hP.sub (ws' := [(h0, .inr (13, zs)), (qf110, .inl (cf110, 96, .inl f110)), (qf100, .inl (cf100, 48000, .inl f100)), (qf111, .inl (cf111, 96, .inl f111)), (qf127, .inl (cf127, 30, .inl f127)), (qf102, .inl (cf102, 2048, .inl f102)), (qf104, .inl (cf104, 8, .inl f104)), (qf118, .inl (cf118, 2100, .inl f118)), (qf119, .inl (cf119, 2100, .inl f119)), (qf105, .inl (cf105, 8, .inl f105))]) [0, 1, 2, 3, 4, 5, 6, 7, 8, 9] rfl
  replace hD := hD.sub (ws' := [(h0, .inr (13, zs)), (qf110, .inl (cf110, 96, .inl f110)), (qf100, .inl (cf100, 48000, .inl f100)), (qf111, .inl (cf111, 96, .inl f111)), (qf127, .inl (cf127, 30, .inl f127)), (qf102, .inl (cf102, 2048, .inl f102)), (qf104, .inl (cf104, 8, .inl f104)), (qf118, .inl (cf118, 2100, .inl f118)), (qf119, .inl (cf119, 2100, .inl f119)), (qf105, .inl (cf105, 8, .inl f105))]) [0, 1, 2, 3, 4, 5, 6, 7, 8, 9] (by decide) rfl
  replace hK := hK.sub (tys' := [(cf110, .int), (cf100, .int), (cf111, .int), (cf127, .int), (cf102, .int), (cf104, .int), (cf118, .int), (cf119, .int), (cf105, .int)]) [0, 1, 2, 3, 4, 5, 6, 7, 8] rfl
  obtain ⟨n_20, hn_20⟩ : ∃ z : Nat, z = nf := ⟨_, rfl⟩
  obtain ⟨l1_20, el1_20⟩ : ∃ z : Int32, z = a1 := ⟨_, rfl⟩
  obtain ⟨l2_20, el2_20⟩ : ∃ z : Int32, z = (f110 (((12 * v132) + v133) : Int32).toNatClampNeg) := ⟨_, rfl⟩
  obtain ⟨l3_20, el3_20⟩ : ∃ z : Int32, z = 0 := ⟨_, rfl⟩
  obtain ⟨g118_20, eg118_20⟩ : ∃ z : Nat → Int32, z = f118 := ⟨_, rfl⟩
  obtain ⟨g119_20, eg119_20⟩ : ∃ z : Nat → Int32, z = f119 := ⟨_, rfl⟩
  obtain ⟨x117_20, ex117_20⟩ : ∃ z : Int32, z = v117 := ⟨_, rfl⟩
  obtain ⟨x120_20, ex120_20⟩ : ∃ z : Int32, z = v120 := ⟨_, rfl⟩
  replace hsp : lp_vm_handled_20 nf n_20 a1 v98 v117 v120 v132 v133 f110 f100 f111 f127 f102 f104 f118 f119 f105 nS477 fS477 l1_20 l2_20 l3_20 g118_20 g119_20 x117_20 x120_20 = some (r0, o118, o119, w117, w120) := by rw [hn_20, el1_20, el2_20, el3_20, eg118_20, eg119_20, ex117_20, ex120_20]; exact hsp
  replace hl : lv_has ls 7 [(3, .int l3_20), (2, .int l2_20), (0, .ref h0), (1, .int l1_20)] := by rw [el1_20, el2_20, el3_20]; exact hl
  obtain ⟨z20, ez20⟩ : ∃ z : List Value, z = zs := ⟨_, rfl⟩
  have hfh_20_98 : z20[98]? = some (.int v98) := by rw [ez20]; exact hf98
  have hfh_20_100 : z20[100]? = some (.ref qf100) := by rw [ez20]; exact hf100
  have hfh_20_102 : z20[102]? = some (.ref qf102) := by rw [ez20]; exact hf102
  have hfh_20_104 : z20[104]? = some (.ref qf104) := by rw [ez20]; exact hf104
  have hfh_20_105 : z20[105]? = some (.ref qf105) := by rw [ez20]; exact hf105
  have hfh_20_110 : z20[110]? = some (.ref qf110) := by rw [ez20]; exact hf110
  have hfh_20_111 : z20[111]? = some (.ref qf111) := by rw [ez20]; exact hf111
  have hfh_20_117 : z20[117]? = some (.int x117_20) := by rw [ez20, ex117_20]; exact hf117
  have hfh_20_118 : z20[118]? = some (.ref qf118) := by rw [ez20]; exact hf118
  have hfh_20_119 : z20[119]? = some (.ref qf119) := by rw [ez20]; exact hf119
  have hfh_20_120 : z20[120]? = some (.int x120_20) := by rw [ez20, ex120_20]; exact hf120
  have hfh_20_127 : z20[127]? = some (.ref qf127) := by rw [ez20]; exact hf127
  have hfh_20_132 : z20[132]? = some (.int v132) := by rw [ez20]; exact hf132
  have hfh_20_133 : z20[133]? = some (.int v133) := by rw [ez20]; exact hf133
  have hlh_20 : z20.length = 155 := by rw [ez20]; exact hlen
  have hrh_20 : ∀ j : Nat, j ≠ 117 → j ≠ 120 → z20[j]? = zs[j]? := by rw [ez20]; exact hrs0
  replace hP : va_P (dC, dI) vwCl [(h0, .inr (13, z20)), (qf110, .inl (cf110, 96, .inl f110)), (qf100, .inl (cf100, 48000, .inl f100)), (qf111, .inl (cf111, 96, .inl f111)), (qf127, .inl (cf127, 30, .inl f127)), (qf102, .inl (cf102, 2048, .inl f102)), (qf104, .inl (cf104, 8, .inl f104)), (qf118, .inl (cf118, 2100, .inl g118_20)), (qf119, .inl (cf119, 2100, .inl g119_20)), (qf105, .inl (cf105, 8, .inl f105))] H := by rw [ez20, eg118_20, eg119_20]; exact hP
  replace hD : va_D A [(h0, .inr (13, z20)), (qf110, .inl (cf110, 96, .inl f110)), (qf100, .inl (cf100, 48000, .inl f100)), (qf111, .inl (cf111, 96, .inl f111)), (qf127, .inl (cf127, 30, .inl f127)), (qf102, .inl (cf102, 2048, .inl f102)), (qf104, .inl (cf104, 8, .inl f104)), (qf118, .inl (cf118, 2100, .inl g118_20)), (qf119, .inl (cf119, 2100, .inl g119_20)), (qf105, .inl (cf105, 8, .inl f105))] := by rw [ez20, eg118_20, eg119_20]; exact hD
  clear hn_20 ez20 el1_20 el2_20 el3_20 eg118_20 eg119_20 ex117_20 ex120_20
  try clear hlo
  try clear hH
  revert hsp
  revert hP
  revert hD
  revert hS
  revert hl
  revert hrh_20
  revert hlh_20
  revert hfh_20_133
  revert hfh_20_132
  revert hfh_20_127
  revert hfh_20_120
  revert hfh_20_119
  revert hfh_20_118
  revert hfh_20_117
  revert hfh_20_111
  revert hfh_20_110
  revert hfh_20_105
  revert hfh_20_104
  revert hfh_20_102
  revert hfh_20_100
  revert hfh_20_98
  revert x120_20
  revert x117_20
  revert g119_20
  revert g118_20
  revert l3_20
  revert l2_20
  revert l1_20
  revert z20
  revert ls
  revert locs
  revert H
  induction n_20 with
  | zero => intro H locs ls z20 l1_20 l2_20 l3_20 g118_20 g119_20 x117_20 x120_20 hfh_20_98 hfh_20_100 hfh_20_102 hfh_20_104 hfh_20_105 hfh_20_110 hfh_20_111 hfh_20_117 hfh_20_118 hfh_20_119 hfh_20_120 hfh_20_127 hfh_20_132 hfh_20_133 hlh_20 hrh_20 hl hS hD hP hsp; unfold lp_vm_handled_20 at hsp; cases hsp
  | succ n_20 ih_20 =>
    intro H locs ls z20 l1_20 l2_20 l3_20 g118_20 g119_20 x117_20 x120_20 hfh_20_98 hfh_20_100 hfh_20_102 hfh_20_104 hfh_20_105 hfh_20_110 hfh_20_111 hfh_20_117 hfh_20_118 hfh_20_119 hfh_20_120 hfh_20_127 hfh_20_132 hfh_20_133 hlh_20 hrh_20 hl hS hD hP hsp
    unfold lp_vm_handled_20 at hsp
    try dsimp only at hsp
    refine lv_iload_n hx hb dX13_handled_20 rfl (lv_at hl 0 rfl) ?_
    refine lv_aload_n hx hb dX13_handled_21 rfl (lv_at hl 2 rfl) ?_
    refine lv_aload_n hx hb dX13_handled_22 rfl (lv_at hl 2 rfl) ?_
    refine va_get (D := (dC, dI)) (ci := 13) (v := .int v132) (C := RX13) (T := TX13) (N := 155) hx hb hts uV_h9_X13 hown hK hP 0 rfl rfl 132 (by decide) (hts (.fieldLink RX13 932 "ClassMillModel" "inClass" "I") mw_h9_533) (fun _ h9 => h9) hfh_20_132 dX13_handled_23 ?_
    refine lv_iload_n hx hb dX13_handled_26 rfl (lv_at hl 1 rfl) ?_
    obtain ⟨u1_0, hu_1, hsp⟩ := ox_bind hsp
    try dsimp only at hsp
    have hPc := hP.sub (ws' := [(h0, .inr (13, z20)), (qf100, .inl (cf100, 48000, .inl f100))]) [0, 2] rfl
    have hDc := hD.sub (ws' := [(h0, .inr (13, z20)), (qf100, .inl (cf100, 48000, .inl f100))]) [0, 2] (by decide) rfl
    have hKc := hK.sub (tys' := [(cf100, .int)]) [1] rfl
    have hFc := va_free (wc := [(h0, .inr (13, z20)), (qf100, .inl (cf100, 48000, .inl f100))]) hD hS hA [0, 2] rfl
    refine va_calli (va_runV (As := [.int v132, .int l2_20]) (rest := [.int l3_20]) ⟨hx, hb, hml, hown, hts⟩ (tm_byteAt l dC dI H.size h0 z20 v132 l2_20 qf100 cf100 f100 nf u1_0 hlh_20 hfh_20_100 hu_1) (cwV 2 hts gv_h9_58 rfl rfl rfl (by decide +kernel) ⟨Nat.le_of_ble_eq_true rfl, Nat.le_of_ble_eq_true rfl⟩) ⟨fun a U g mk q => by obtain ⟨q0, q1, qP, qK, qD⟩ := q; exact ⟨q0, q1, qP, va_K.moved (u := U) (U := U.calling g mk a) (Vm.Alike.refl U.vm) qK, qD⟩, va_recv hKc hPc (ci := 13) (q0 := 0) rfl rfl, fun U hU hW => ⟨rfl, by rw [hU], by rw [hU]; exact hPc, va_K.moved hW.alike hKc, hDc.weaken (fun _ _ _ _ => trivial)⟩⟩ rfl rfl hl.1 rfl (lv_room (Nat.le_of_ble_eq_true rfl)) dX13_handled_27 ⟨Nat.le_of_ble_eq_true rfl, Nat.le_of_ble_eq_true rfl⟩) hS (fun q _ h => hFc q h) hFc ?_
    clear hS
    intro r_2 u t H1 locs ht hvm hw hB hz1 hk1 hS
    obtain ⟨z_1, rfl⟩ : ∃ z, z = u := ⟨_, rfl⟩
    obtain ⟨hP1, hK1, hD1⟩ := hB
    rw [ht] at hP1
    have hK1 := va_K.moved hvm.symm hK1
    try dsimp only at hw
    have hPD := va_join (wr := [(qf110, .inl (cf110, 96, .inl f110)), (qf111, .inl (cf111, 96, .inl f111)), (qf127, .inl (cf127, 30, .inl f127)), (qf102, .inl (cf102, 2048, .inl f102)), (qf104, .inl (cf104, 8, .inl f104)), (qf118, .inl (cf118, 2100, .inl g118_20)), (qf119, .inl (cf119, 2100, .inl g119_20)), (qf105, .inl (cf105, 8, .inl f105))]) (w1 := [(h0, .inr (13, z_1)), (qf100, .inl (cf100, 48000, .inl f100))]) hP hD [0, 2] [1, 3, 4, 5, 6, 7, 8, 9] rfl rfl (by decide) (by decide) hk1 hFc hP1 hD1
    clear hP hD
    obtain ⟨hP, hD⟩ := hPD
    replace hK := (hK.sub (tys' := [(cf110, .int), (cf111, .int), (cf127, .int), (cf102, .int), (cf104, .int), (cf118, .int), (cf119, .int), (cf105, .int)]) [0, 2, 3, 4, 5, 6, 7, 8] rfl).app hK1
    clear hPc hDc hKc hFc hP1 hK1 hD1 hz1 hk1 ht hvm
    generalize H1 = H at hP hS ⊢
    replace hP : va_P (dC, dI) vwCl [(qf110, .inl (cf110, 96, .inl f110)), (qf111, .inl (cf111, 96, .inl f111)), (qf127, .inl (cf127, 30, .inl f127)), (qf102, .inl (cf102, 2048, .inl f102)), (qf104, .inl (cf104, 8, .inl f104)), (qf118, .inl (cf118, 2100, .inl g118_20)), (qf119, .inl (cf119, 2100, .inl g119_20)), (qf105, .inl (cf105, 8, .inl f105)), (h0, .inr (13, z_1)), (qf100, .inl (cf100, 48000, .inl f100))] H := hP
    replace hD : va_D A [(qf110, .inl (cf110, 96, .inl f110)), (qf111, .inl (cf111, 96, .inl f111)), (qf127, .inl (cf127, 30, .inl f127)), (qf102, .inl (cf102, 2048, .inl f102)), (qf104, .inl (cf104, 8, .inl f104)), (qf118, .inl (cf118, 2100, .inl g118_20)), (qf119, .inl (cf119, 2100, .inl g119_20)), (qf105, .inl (cf105, 8, .inl f105)), (h0, .inr (13, z_1)), (qf100, .inl (cf100, 48000, .inl f100))] := hD
    replace hK : va_K (dC, dI) vwCl [(cf110, .int), (cf111, .int), (cf127, .int), (cf102, .int), (cf104, .int), (cf118, .int), (cf119, .int), (cf105, .int), (cf100, .int)] s := hK
    obtain ⟨hwa_1, hln_1, hre_1⟩ := hw
    have hfk_1_98 : z_1[98]? = some (.int v98) := (hre_1 98 ).trans (hfh_20_98)
    have hfk_1_100 : z_1[100]? = some (.ref qf100) := (hre_1 100 ).trans (hfh_20_100)
    have hfk_1_102 : z_1[102]? = some (.ref qf102) := (hre_1 102 ).trans (hfh_20_102)
    have hfk_1_104 : z_1[104]? = some (.ref qf104) := (hre_1 104 ).trans (hfh_20_104)
    have hfk_1_105 : z_1[105]? = some (.ref qf105) := (hre_1 105 ).trans (hfh_20_105)
    have hfk_1_110 : z_1[110]? = some (.ref qf110) := (hre_1 110 ).trans (hfh_20_110)
    have hfk_1_111 : z_1[111]? = some (.ref qf111) := (hre_1 111 ).trans (hfh_20_111)
    have hfk_1_117 : z_1[117]? = some (.int x117_20) := (hre_1 117 ).trans (hfh_20_117)
    have hfk_1_118 : z_1[118]? = some (.ref qf118) := (hre_1 118 ).trans (hfh_20_118)
    have hfk_1_119 : z_1[119]? = some (.ref qf119) := (hre_1 119 ).trans (hfh_20_119)
    have hfk_1_120 : z_1[120]? = some (.int x120_20) := (hre_1 120 ).trans (hfh_20_120)
    have hfk_1_127 : z_1[127]? = some (.ref qf127) := (hre_1 127 ).trans (hfh_20_127)
    have hfk_1_132 : z_1[132]? = some (.int v132) := (hre_1 132 ).trans (hfh_20_132)
    have hfk_1_133 : z_1[133]? = some (.int v133) := (hre_1 133 ).trans (hfh_20_133)
    have hrq_1 : ∀ j : Nat, j ≠ 117 → j ≠ 120 → z_1[j]? = zs[j]? := fun j g117 g120 => (hre_1 j ).trans (hrh_20 j g117 g120)
    obtain rfl := hwa_1
    refine lv_icmp_ge (tgt := 161) hx hb dX13_handled_30 (by decide) (fun c_3 => ?_) (fun c_3 => ?_)
    · rw [if_pos c_3] at hsp
      refine lv_iconst (v := 1) hx hb dX13_handled_161 (by decide) ?_
      have hr0 := Option.some.inj hsp
      clear hsp
      obtain ⟨hq0, hr1⟩ := Prod.mk.inj hr0
      clear hr0
      obtain ⟨hq1, hr2⟩ := Prod.mk.inj hr1
      clear hr1
      obtain ⟨hq2, hr3⟩ := Prod.mk.inj hr2
      clear hr2
      obtain ⟨hq3, hr4⟩ := Prod.mk.inj hr3
      clear hr3
      subst hq0
      subst hq1
      subst hq2
      subst hq3
      subst hr4
      have hP9 := hP.sub (ws' := [(h0, .inr (13, z_1)), (qf110, .inl (cf110, 96, .inl f110)), (qf100, .inl (cf100, 48000, .inl f100)), (qf111, .inl (cf111, 96, .inl f111)), (qf127, .inl (cf127, 30, .inl f127)), (qf102, .inl (cf102, 2048, .inl f102)), (qf104, .inl (cf104, 8, .inl f104)), (qf118, .inl (cf118, 2100, .inl g118_20)), (qf119, .inl (cf119, 2100, .inl g119_20)), (qf105, .inl (cf105, 8, .inl f105))]) [8, 0, 9, 1, 2, 3, 4, 5, 6, 7] rfl
      have hD9 := hD.sub (ws' := [(h0, .inr (13, z_1)), (qf110, .inl (cf110, 96, .inl f110)), (qf100, .inl (cf100, 48000, .inl f100)), (qf111, .inl (cf111, 96, .inl f111)), (qf127, .inl (cf127, 30, .inl f127)), (qf102, .inl (cf102, 2048, .inl f102)), (qf104, .inl (cf104, 8, .inl f104)), (qf118, .inl (cf118, 2100, .inl g118_20)), (qf119, .inl (cf119, 2100, .inl g119_20)), (qf105, .inl (cf105, 8, .inl f105))]) [8, 0, 9, 1, 2, 3, 4, 5, 6, 7] (by decide) rfl
      have hK9 := hK.sub (tys' := [(cf110, .int), (cf100, .int), (cf111, .int), (cf127, .int), (cf102, .int), (cf104, .int), (cf118, .int), (cf119, .int), (cf105, .int)]) [0, 8, 1, 2, 3, 4, 5, 6, 7] rfl
      exact W.zret hx hb hr (by decide) (fun t ht hW => ⟨⟨(1), (z_1), rfl, ⟨⟨rfl, Or.inr rfl⟩, hln_1, hrq_1, hfk_1_117, hfk_1_120⟩, by rw [ht]; exact hP9, va_K.moved hW.alike hK9, hD9⟩, hS.F ht⟩) hS.2.2 dX13_handled_162
    · rw [if_neg c_3] at hsp
      refine lv_iload_n hx hb dX13_handled_33 rfl (lv_at hl 1 rfl) ?_
      refine lv_iconst (v := 1) hx hb dX13_handled_34 (by decide) ?_
      refine lv_iadd hx hb dX13_handled_35 ?_
      refine lv_bipush (v := 7) hx hb dX13_handled_36 (by decide) ?_
      refine lv_iload_n hx hb dX13_handled_38 rfl (lv_at hl 0 rfl) ?_
      refine lv_imul hx hb dX13_handled_39 ?_
      refine lv_iadd hx hb dX13_handled_40 ?_
      refine lv_istore (lv' := [(4, .int ((l2_20 + 1) + (7 * l3_20))), (3, .int l3_20), (2, .int l2_20), (0, .ref h0), (1, .int l1_20)]) hx hb dX13_handled_41 hl (by decide) rfl (fun ls hl => ?_)
      refine lv_iload_n hx hb dX13_handled_43 rfl (lv_at hl 4 rfl) ?_
      refine lv_aload_n hx hb dX13_handled_44 rfl (lv_at hl 3 rfl) ?_
      refine lv_iload hx hb dX13_handled_45 (lv_at hl 0 rfl) ?_
      obtain ⟨u2_0, hu_2, hsp⟩ := ox_bind hsp
      try dsimp only at hsp
      have hPc := hP.sub (ws' := [(h0, .inr (13, z_1)), (qf100, .inl (cf100, 48000, .inl f100))]) [8, 9] rfl
      have hDc := hD.sub (ws' := [(h0, .inr (13, z_1)), (qf100, .inl (cf100, 48000, .inl f100))]) [8, 9] (by decide) rfl
      have hKc := hK.sub (tys' := [(cf100, .int)]) [8] rfl
      have hFc := va_free (wc := [(h0, .inr (13, z_1)), (qf100, .inl (cf100, 48000, .inl f100))]) hD hS hA [8, 9] rfl
      refine va_calli (va_runV (As := [.int ((l2_20 + 1) + (7 * l3_20))]) (rest := [.int l1_20]) ⟨hx, hb, hml, hown, hts⟩ (tm_pairIn l dC dI H.size h0 z_1 (((l2_20 + 1) + (7 * l3_20))) qf100 v132 cf100 f100 nf u2_0 hln_1 hfk_1_100 hfk_1_132 hu_2) (cwV 1 hts gv_h9_62 rfl rfl rfl (by decide +kernel) ⟨Nat.le_of_ble_eq_true rfl, Nat.le_of_ble_eq_true rfl⟩) ⟨fun a U g mk q => by obtain ⟨q0, q1, qP, qK, qD⟩ := q; exact ⟨q0, q1, qP, va_K.moved (u := U) (U := U.calling g mk a) (Vm.Alike.refl U.vm) qK, qD⟩, va_recv hKc hPc (ci := 13) (q0 := 0) rfl rfl, fun U hU hW => ⟨rfl, by rw [hU], by rw [hU]; exact hPc, va_K.moved hW.alike hKc, hDc.weaken (fun _ _ _ _ => trivial)⟩⟩ rfl rfl hl.1 rfl (lv_room (Nat.le_of_ble_eq_true rfl)) dX13_handled_47 ⟨Nat.le_of_ble_eq_true rfl, Nat.le_of_ble_eq_true rfl⟩) hS (fun q _ h => hFc q h) hFc ?_
      clear hS
      intro r_4 u t H1 locs ht hvm hw hB hz1 hk1 hS
      obtain ⟨z_2, rfl⟩ : ∃ z, z = u := ⟨_, rfl⟩
      obtain ⟨hP1, hK1, hD1⟩ := hB
      rw [ht] at hP1
      have hK1 := va_K.moved hvm.symm hK1
      try dsimp only at hw
      have hPD := va_join (wr := [(qf110, .inl (cf110, 96, .inl f110)), (qf111, .inl (cf111, 96, .inl f111)), (qf127, .inl (cf127, 30, .inl f127)), (qf102, .inl (cf102, 2048, .inl f102)), (qf104, .inl (cf104, 8, .inl f104)), (qf118, .inl (cf118, 2100, .inl g118_20)), (qf119, .inl (cf119, 2100, .inl g119_20)), (qf105, .inl (cf105, 8, .inl f105))]) (w1 := [(h0, .inr (13, z_2)), (qf100, .inl (cf100, 48000, .inl f100))]) hP hD [8, 9] [0, 1, 2, 3, 4, 5, 6, 7] rfl rfl (by decide) (by decide) hk1 hFc hP1 hD1
      clear hP hD
      obtain ⟨hP, hD⟩ := hPD
      replace hK := (hK.sub (tys' := [(cf110, .int), (cf111, .int), (cf127, .int), (cf102, .int), (cf104, .int), (cf118, .int), (cf119, .int), (cf105, .int)]) [0, 1, 2, 3, 4, 5, 6, 7] rfl).app hK1
      clear hPc hDc hKc hFc hP1 hK1 hD1 hz1 hk1 ht hvm
      generalize H1 = H at hP hS ⊢
      replace hP : va_P (dC, dI) vwCl [(qf110, .inl (cf110, 96, .inl f110)), (qf111, .inl (cf111, 96, .inl f111)), (qf127, .inl (cf127, 30, .inl f127)), (qf102, .inl (cf102, 2048, .inl f102)), (qf104, .inl (cf104, 8, .inl f104)), (qf118, .inl (cf118, 2100, .inl g118_20)), (qf119, .inl (cf119, 2100, .inl g119_20)), (qf105, .inl (cf105, 8, .inl f105)), (h0, .inr (13, z_2)), (qf100, .inl (cf100, 48000, .inl f100))] H := hP
      replace hD : va_D A [(qf110, .inl (cf110, 96, .inl f110)), (qf111, .inl (cf111, 96, .inl f111)), (qf127, .inl (cf127, 30, .inl f127)), (qf102, .inl (cf102, 2048, .inl f102)), (qf104, .inl (cf104, 8, .inl f104)), (qf118, .inl (cf118, 2100, .inl g118_20)), (qf119, .inl (cf119, 2100, .inl g119_20)), (qf105, .inl (cf105, 8, .inl f105)), (h0, .inr (13, z_2)), (qf100, .inl (cf100, 48000, .inl f100))] := hD
      replace hK : va_K (dC, dI) vwCl [(cf110, .int), (cf111, .int), (cf127, .int), (cf102, .int), (cf104, .int), (cf118, .int), (cf119, .int), (cf105, .int), (cf100, .int)] s := hK
      obtain ⟨hwa_2, hln_2, hre_2⟩ := hw
      have hfk_2_98 : z_2[98]? = some (.int v98) := (hre_2 98 ).trans (hfk_1_98)
      have hfk_2_100 : z_2[100]? = some (.ref qf100) := (hre_2 100 ).trans (hfk_1_100)
      have hfk_2_102 : z_2[102]? = some (.ref qf102) := (hre_2 102 ).trans (hfk_1_102)
      have hfk_2_104 : z_2[104]? = some (.ref qf104) := (hre_2 104 ).trans (hfk_1_104)
      have hfk_2_105 : z_2[105]? = some (.ref qf105) := (hre_2 105 ).trans (hfk_1_105)
      have hfk_2_110 : z_2[110]? = some (.ref qf110) := (hre_2 110 ).trans (hfk_1_110)
      have hfk_2_111 : z_2[111]? = some (.ref qf111) := (hre_2 111 ).trans (hfk_1_111)
      have hfk_2_117 : z_2[117]? = some (.int x117_20) := (hre_2 117 ).trans (hfk_1_117)
      have hfk_2_118 : z_2[118]? = some (.ref qf118) := (hre_2 118 ).trans (hfk_1_118)
      have hfk_2_119 : z_2[119]? = some (.ref qf119) := (hre_2 119 ).trans (hfk_1_119)
      have hfk_2_120 : z_2[120]? = some (.int x120_20) := (hre_2 120 ).trans (hfk_1_120)
      have hfk_2_127 : z_2[127]? = some (.ref qf127) := (hre_2 127 ).trans (hfk_1_127)
      have hfk_2_132 : z_2[132]? = some (.int v132) := (hre_2 132 ).trans (hfk_1_132)
      have hfk_2_133 : z_2[133]? = some (.int v133) := (hre_2 133 ).trans (hfk_1_133)
      have hrq_2 : ∀ j : Nat, j ≠ 117 → j ≠ 120 → z_2[j]? = zs[j]? := fun j g117 g120 => (hre_2 j ).trans (hrq_1 j g117 g120)
      obtain rfl := hwa_2
      refine lv_icmp_lt (tgt := 155) hx hb dX13_handled_50 (by decide) (fun c_5 => ?_) (fun c_5 => ?_)
      · rw [if_pos c_5] at hsp
        refine lv_iinc (v := (l3_20 + 1)) (lv' := [(3, .int (l3_20 + 1)), (4, .int ((l2_20 + 1) + (7 * l3_20))), (2, .int l2_20), (0, .ref h0), (1, .int l1_20)]) hx hb dX13_handled_155 hl (k := 1) rfl rfl (by decide) rfl (fun ls hl => ?_)
        refine lv_goto (tgt := 20) hx hb dX13_handled_158 (by decide) ?_
        exact ih_20 H locs ls z_2 l1_20 l2_20 (l3_20 + 1) g118_20 g119_20 x117_20 x120_20 (hfk_2_98) (hfk_2_100) (hfk_2_102) (hfk_2_104) (hfk_2_105) (hfk_2_110) (hfk_2_111) (hfk_2_117) (hfk_2_118) (hfk_2_119) (hfk_2_120) (hfk_2_127) (hfk_2_132) (hfk_2_133) hln_2 hrq_2 (lv_sub hl [0, 2, 3, 4] rfl) hS (hD.sub (ws' := [(h0, .inr (13, z_2)), (qf110, .inl (cf110, 96, .inl f110)), (qf100, .inl (cf100, 48000, .inl f100)), (qf111, .inl (cf111, 96, .inl f111)), (qf127, .inl (cf127, 30, .inl f127)), (qf102, .inl (cf102, 2048, .inl f102)), (qf104, .inl (cf104, 8, .inl f104)), (qf118, .inl (cf118, 2100, .inl g118_20)), (qf119, .inl (cf119, 2100, .inl g119_20)), (qf105, .inl (cf105, 8, .inl f105))]) [8, 0, 9, 1, 2, 3, 4, 5, 6, 7] (by decide) rfl) (hP.sub (ws' := [(h0, .inr (13, z_2)), (qf110, .inl (cf110, 96, .inl f110)), (qf100, .inl (cf100, 48000, .inl f100)), (qf111, .inl (cf111, 96, .inl f111)), (qf127, .inl (cf127, 30, .inl f127)), (qf102, .inl (cf102, 2048, .inl f102)), (qf104, .inl (cf104, 8, .inl f104)), (qf118, .inl (cf118, 2100, .inl g118_20)), (qf119, .inl (cf119, 2100, .inl g119_20)), (qf105, .inl (cf105, 8, .inl f105))]) [8, 0, 9, 1, 2, 3, 4, 5, 6, 7] rfl) hsp
      · rw [if_neg c_5] at hsp
        refine lv_iload_n hx hb dX13_handled_53 rfl (lv_at hl 4 rfl) ?_
        refine lv_aload_n hx hb dX13_handled_54 rfl (lv_at hl 3 rfl) ?_
        refine lv_iload hx hb dX13_handled_55 (lv_at hl 0 rfl) ?_
        refine lv_iconst (v := 2) hx hb dX13_handled_57 (by decide) ?_
        refine lv_iadd hx hb dX13_handled_58 ?_
        obtain ⟨u3_0, hu_3, hsp⟩ := ox_bind hsp
        try dsimp only at hsp
        have hPc := hP.sub (ws' := [(h0, .inr (13, z_2)), (qf100, .inl (cf100, 48000, .inl f100))]) [8, 9] rfl
        have hDc := hD.sub (ws' := [(h0, .inr (13, z_2)), (qf100, .inl (cf100, 48000, .inl f100))]) [8, 9] (by decide) rfl
        have hKc := hK.sub (tys' := [(cf100, .int)]) [8] rfl
        have hFc := va_free (wc := [(h0, .inr (13, z_2)), (qf100, .inl (cf100, 48000, .inl f100))]) hD hS hA [8, 9] rfl
        refine va_calli (va_runV (As := [.int (((l2_20 + 1) + (7 * l3_20)) + 2)]) (rest := [.int l1_20]) ⟨hx, hb, hml, hown, hts⟩ (tm_pairIn l dC dI H.size h0 z_2 ((((l2_20 + 1) + (7 * l3_20)) + 2)) qf100 v132 cf100 f100 nf u3_0 hln_2 hfk_2_100 hfk_2_132 hu_3) (cwV 1 hts gv_h9_62 rfl rfl rfl (by decide +kernel) ⟨Nat.le_of_ble_eq_true rfl, Nat.le_of_ble_eq_true rfl⟩) ⟨fun a U g mk q => by obtain ⟨q0, q1, qP, qK, qD⟩ := q; exact ⟨q0, q1, qP, va_K.moved (u := U) (U := U.calling g mk a) (Vm.Alike.refl U.vm) qK, qD⟩, va_recv hKc hPc (ci := 13) (q0 := 0) rfl rfl, fun U hU hW => ⟨rfl, by rw [hU], by rw [hU]; exact hPc, va_K.moved hW.alike hKc, hDc.weaken (fun _ _ _ _ => trivial)⟩⟩ rfl rfl hl.1 rfl (lv_room (Nat.le_of_ble_eq_true rfl)) dX13_handled_59 ⟨Nat.le_of_ble_eq_true rfl, Nat.le_of_ble_eq_true rfl⟩) hS (fun q _ h => hFc q h) hFc ?_
        clear hS
        intro r_6 u t H1 locs ht hvm hw hB hz1 hk1 hS
        obtain ⟨z_3, rfl⟩ : ∃ z, z = u := ⟨_, rfl⟩
        obtain ⟨hP1, hK1, hD1⟩ := hB
        rw [ht] at hP1
        have hK1 := va_K.moved hvm.symm hK1
        try dsimp only at hw
        have hPD := va_join (wr := [(qf110, .inl (cf110, 96, .inl f110)), (qf111, .inl (cf111, 96, .inl f111)), (qf127, .inl (cf127, 30, .inl f127)), (qf102, .inl (cf102, 2048, .inl f102)), (qf104, .inl (cf104, 8, .inl f104)), (qf118, .inl (cf118, 2100, .inl g118_20)), (qf119, .inl (cf119, 2100, .inl g119_20)), (qf105, .inl (cf105, 8, .inl f105))]) (w1 := [(h0, .inr (13, z_3)), (qf100, .inl (cf100, 48000, .inl f100))]) hP hD [8, 9] [0, 1, 2, 3, 4, 5, 6, 7] rfl rfl (by decide) (by decide) hk1 hFc hP1 hD1
        clear hP hD
        obtain ⟨hP, hD⟩ := hPD
        replace hK := (hK.sub (tys' := [(cf110, .int), (cf111, .int), (cf127, .int), (cf102, .int), (cf104, .int), (cf118, .int), (cf119, .int), (cf105, .int)]) [0, 1, 2, 3, 4, 5, 6, 7] rfl).app hK1
        clear hPc hDc hKc hFc hP1 hK1 hD1 hz1 hk1 ht hvm
        generalize H1 = H at hP hS ⊢
        replace hP : va_P (dC, dI) vwCl [(qf110, .inl (cf110, 96, .inl f110)), (qf111, .inl (cf111, 96, .inl f111)), (qf127, .inl (cf127, 30, .inl f127)), (qf102, .inl (cf102, 2048, .inl f102)), (qf104, .inl (cf104, 8, .inl f104)), (qf118, .inl (cf118, 2100, .inl g118_20)), (qf119, .inl (cf119, 2100, .inl g119_20)), (qf105, .inl (cf105, 8, .inl f105)), (h0, .inr (13, z_3)), (qf100, .inl (cf100, 48000, .inl f100))] H := hP
        replace hD : va_D A [(qf110, .inl (cf110, 96, .inl f110)), (qf111, .inl (cf111, 96, .inl f111)), (qf127, .inl (cf127, 30, .inl f127)), (qf102, .inl (cf102, 2048, .inl f102)), (qf104, .inl (cf104, 8, .inl f104)), (qf118, .inl (cf118, 2100, .inl g118_20)), (qf119, .inl (cf119, 2100, .inl g119_20)), (qf105, .inl (cf105, 8, .inl f105)), (h0, .inr (13, z_3)), (qf100, .inl (cf100, 48000, .inl f100))] := hD
        replace hK : va_K (dC, dI) vwCl [(cf110, .int), (cf111, .int), (cf127, .int), (cf102, .int), (cf104, .int), (cf118, .int), (cf119, .int), (cf105, .int), (cf100, .int)] s := hK
        obtain ⟨hwa_3, hln_3, hre_3⟩ := hw
        have hfk_3_98 : z_3[98]? = some (.int v98) := (hre_3 98 ).trans (hfk_2_98)
        have hfk_3_100 : z_3[100]? = some (.ref qf100) := (hre_3 100 ).trans (hfk_2_100)
        have hfk_3_102 : z_3[102]? = some (.ref qf102) := (hre_3 102 ).trans (hfk_2_102)
        have hfk_3_104 : z_3[104]? = some (.ref qf104) := (hre_3 104 ).trans (hfk_2_104)
        have hfk_3_105 : z_3[105]? = some (.ref qf105) := (hre_3 105 ).trans (hfk_2_105)
        have hfk_3_110 : z_3[110]? = some (.ref qf110) := (hre_3 110 ).trans (hfk_2_110)
        have hfk_3_111 : z_3[111]? = some (.ref qf111) := (hre_3 111 ).trans (hfk_2_111)
        have hfk_3_117 : z_3[117]? = some (.int x117_20) := (hre_3 117 ).trans (hfk_2_117)
        have hfk_3_118 : z_3[118]? = some (.ref qf118) := (hre_3 118 ).trans (hfk_2_118)
        have hfk_3_119 : z_3[119]? = some (.ref qf119) := (hre_3 119 ).trans (hfk_2_119)
        have hfk_3_120 : z_3[120]? = some (.int x120_20) := (hre_3 120 ).trans (hfk_2_120)
        have hfk_3_127 : z_3[127]? = some (.ref qf127) := (hre_3 127 ).trans (hfk_2_127)
        have hfk_3_132 : z_3[132]? = some (.int v132) := (hre_3 132 ).trans (hfk_2_132)
        have hfk_3_133 : z_3[133]? = some (.int v133) := (hre_3 133 ).trans (hfk_2_133)
        have hrq_3 : ∀ j : Nat, j ≠ 117 → j ≠ 120 → z_3[j]? = zs[j]? := fun j g117 g120 => (hre_3 j ).trans (hrq_2 j g117 g120)
        obtain rfl := hwa_3
        refine lv_icmp_lt (tgt := 68) hx hb dX13_handled_62 (by decide) (fun c_7 => ?_) (fun c_7 => ?_)
        · rw [if_pos c_7] at hsp
          refine lv_aload_n hx hb dX13_handled_68 rfl (lv_at hl 3 rfl) ?_
          refine lv_aload_n hx hb dX13_handled_69 rfl (lv_at hl 3 rfl) ?_
          refine lv_iload hx hb dX13_handled_70 (lv_at hl 0 rfl) ?_
          refine lv_iconst (v := 4) hx hb dX13_handled_72 (by decide) ?_
          refine lv_iadd hx hb dX13_handled_73 ?_
          obtain ⟨u4_0, hu_4, hsp⟩ := ox_bind hsp
          try dsimp only at hsp
          have hPc := hP.sub (ws' := [(h0, .inr (13, z_3)), (qf100, .inl (cf100, 48000, .inl f100))]) [8, 9] rfl
          have hDc := hD.sub (ws' := [(h0, .inr (13, z_3)), (qf100, .inl (cf100, 48000, .inl f100))]) [8, 9] (by decide) rfl
          have hKc := hK.sub (tys' := [(cf100, .int)]) [8] rfl
          have hFc := va_free (wc := [(h0, .inr (13, z_3)), (qf100, .inl (cf100, 48000, .inl f100))]) hD hS hA [8, 9] rfl
          refine va_calli (va_runV (As := [.int (((l2_20 + 1) + (7 * l3_20)) + 4)]) (rest := [.ref h0]) ⟨hx, hb, hml, hown, hts⟩ (tm_pairIn l dC dI H.size h0 z_3 ((((l2_20 + 1) + (7 * l3_20)) + 4)) qf100 v132 cf100 f100 nf u4_0 hln_3 hfk_3_100 hfk_3_132 hu_4) (cwV 1 hts gv_h9_62 rfl rfl rfl (by decide +kernel) ⟨Nat.le_of_ble_eq_true rfl, Nat.le_of_ble_eq_true rfl⟩) ⟨fun a U g mk q => by obtain ⟨q0, q1, qP, qK, qD⟩ := q; exact ⟨q0, q1, qP, va_K.moved (u := U) (U := U.calling g mk a) (Vm.Alike.refl U.vm) qK, qD⟩, va_recv hKc hPc (ci := 13) (q0 := 0) rfl rfl, fun U hU hW => ⟨rfl, by rw [hU], by rw [hU]; exact hPc, va_K.moved hW.alike hKc, hDc.weaken (fun _ _ _ _ => trivial)⟩⟩ rfl rfl hl.1 rfl (lv_room (Nat.le_of_ble_eq_true rfl)) dX13_handled_74 ⟨Nat.le_of_ble_eq_true rfl, Nat.le_of_ble_eq_true rfl⟩) hS (fun q _ h => hFc q h) hFc ?_
          clear hS
          intro r_8 u t H1 locs ht hvm hw hB hz1 hk1 hS
          obtain ⟨z_4, rfl⟩ : ∃ z, z = u := ⟨_, rfl⟩
          obtain ⟨hP1, hK1, hD1⟩ := hB
          rw [ht] at hP1
          have hK1 := va_K.moved hvm.symm hK1
          try dsimp only at hw
          have hPD := va_join (wr := [(qf110, .inl (cf110, 96, .inl f110)), (qf111, .inl (cf111, 96, .inl f111)), (qf127, .inl (cf127, 30, .inl f127)), (qf102, .inl (cf102, 2048, .inl f102)), (qf104, .inl (cf104, 8, .inl f104)), (qf118, .inl (cf118, 2100, .inl g118_20)), (qf119, .inl (cf119, 2100, .inl g119_20)), (qf105, .inl (cf105, 8, .inl f105))]) (w1 := [(h0, .inr (13, z_4)), (qf100, .inl (cf100, 48000, .inl f100))]) hP hD [8, 9] [0, 1, 2, 3, 4, 5, 6, 7] rfl rfl (by decide) (by decide) hk1 hFc hP1 hD1
          clear hP hD
          obtain ⟨hP, hD⟩ := hPD
          replace hK := (hK.sub (tys' := [(cf110, .int), (cf111, .int), (cf127, .int), (cf102, .int), (cf104, .int), (cf118, .int), (cf119, .int), (cf105, .int)]) [0, 1, 2, 3, 4, 5, 6, 7] rfl).app hK1
          clear hPc hDc hKc hFc hP1 hK1 hD1 hz1 hk1 ht hvm
          generalize H1 = H at hP hS ⊢
          replace hP : va_P (dC, dI) vwCl [(qf110, .inl (cf110, 96, .inl f110)), (qf111, .inl (cf111, 96, .inl f111)), (qf127, .inl (cf127, 30, .inl f127)), (qf102, .inl (cf102, 2048, .inl f102)), (qf104, .inl (cf104, 8, .inl f104)), (qf118, .inl (cf118, 2100, .inl g118_20)), (qf119, .inl (cf119, 2100, .inl g119_20)), (qf105, .inl (cf105, 8, .inl f105)), (h0, .inr (13, z_4)), (qf100, .inl (cf100, 48000, .inl f100))] H := hP
          replace hD : va_D A [(qf110, .inl (cf110, 96, .inl f110)), (qf111, .inl (cf111, 96, .inl f111)), (qf127, .inl (cf127, 30, .inl f127)), (qf102, .inl (cf102, 2048, .inl f102)), (qf104, .inl (cf104, 8, .inl f104)), (qf118, .inl (cf118, 2100, .inl g118_20)), (qf119, .inl (cf119, 2100, .inl g119_20)), (qf105, .inl (cf105, 8, .inl f105)), (h0, .inr (13, z_4)), (qf100, .inl (cf100, 48000, .inl f100))] := hD
          replace hK : va_K (dC, dI) vwCl [(cf110, .int), (cf111, .int), (cf127, .int), (cf102, .int), (cf104, .int), (cf118, .int), (cf119, .int), (cf105, .int), (cf100, .int)] s := hK
          obtain ⟨hwa_4, hln_4, hre_4⟩ := hw
          have hfk_4_98 : z_4[98]? = some (.int v98) := (hre_4 98 ).trans (hfk_3_98)
          have hfk_4_100 : z_4[100]? = some (.ref qf100) := (hre_4 100 ).trans (hfk_3_100)
          have hfk_4_102 : z_4[102]? = some (.ref qf102) := (hre_4 102 ).trans (hfk_3_102)
          have hfk_4_104 : z_4[104]? = some (.ref qf104) := (hre_4 104 ).trans (hfk_3_104)
          have hfk_4_105 : z_4[105]? = some (.ref qf105) := (hre_4 105 ).trans (hfk_3_105)
          have hfk_4_110 : z_4[110]? = some (.ref qf110) := (hre_4 110 ).trans (hfk_3_110)
          have hfk_4_111 : z_4[111]? = some (.ref qf111) := (hre_4 111 ).trans (hfk_3_111)
          have hfk_4_117 : z_4[117]? = some (.int x117_20) := (hre_4 117 ).trans (hfk_3_117)
          have hfk_4_118 : z_4[118]? = some (.ref qf118) := (hre_4 118 ).trans (hfk_3_118)
          have hfk_4_119 : z_4[119]? = some (.ref qf119) := (hre_4 119 ).trans (hfk_3_119)
          have hfk_4_120 : z_4[120]? = some (.int x120_20) := (hre_4 120 ).trans (hfk_3_120)
          have hfk_4_127 : z_4[127]? = some (.ref qf127) := (hre_4 127 ).trans (hfk_3_127)
          have hfk_4_132 : z_4[132]? = some (.int v132) := (hre_4 132 ).trans (hfk_3_132)
          have hfk_4_133 : z_4[133]? = some (.int v133) := (hre_4 133 ).trans (hfk_3_133)
          have hrq_4 : ∀ j : Nat, j ≠ 117 → j ≠ 120 → z_4[j]? = zs[j]? := fun j g117 g120 => (hre_4 j ).trans (hrq_3 j g117 g120)
          obtain rfl := hwa_4
          obtain ⟨u5_0, hu_5, hsp⟩ := ox_bind hsp
          try dsimp only at hsp
          have hPc := hP.sub (ws' := [(h0, .inr (13, z_4)), (qf111, .inl (cf111, 96, .inl f111)), (qf100, .inl (cf100, 48000, .inl f100))]) [8, 1, 9] rfl
          have hDc := hD.sub (ws' := [(h0, .inr (13, z_4)), (qf111, .inl (cf111, 96, .inl f111)), (qf100, .inl (cf100, 48000, .inl f100))]) [8, 1, 9] (by decide) rfl
          have hKc := hK.sub (tys' := [(cf111, .int), (cf100, .int)]) [1, 8] rfl
          have hFc := va_free (wc := [(h0, .inr (13, z_4)), (qf111, .inl (cf111, 96, .inl f111)), (qf100, .inl (cf100, 48000, .inl f100))]) hD hS hA [8, 1, 9] rfl
          refine va_calli (va_runV (As := [.int u4_0]) (rest := []) ⟨hx, hb, hml, hown, hts⟩ (tn_frameFor l dC dI H.size h0 z_4 u4_0 qf100 qf111 v132 v133 cf111 f111 cf100 f100 nf u5_0 hln_4 hfk_4_100 hfk_4_111 hfk_4_132 hfk_4_133 hu_5) (cwV 1 hts gv_h9_64 rfl rfl rfl (by decide +kernel) ⟨Nat.le_of_ble_eq_true rfl, Nat.le_of_ble_eq_true rfl⟩) ⟨fun a U g mk q => by obtain ⟨q0, q1, qP, qK, qD⟩ := q; exact ⟨q0, q1, qP, va_K.moved (u := U) (U := U.calling g mk a) (Vm.Alike.refl U.vm) qK, qD⟩, va_recv hKc hPc (ci := 13) (q0 := 0) rfl rfl, fun U hU hW => ⟨rfl, by rw [hU], by rw [hU]; exact hPc, va_K.moved hW.alike hKc, hDc.weaken (fun _ _ _ _ => trivial)⟩⟩ rfl rfl hl.1 rfl (lv_room (Nat.le_of_ble_eq_true rfl)) dX13_handled_77 ⟨Nat.le_of_ble_eq_true rfl, Nat.le_of_ble_eq_true rfl⟩) hS (fun q _ h => hFc q h) hFc ?_
          clear hS
          intro r_9 u t H1 locs ht hvm hw hB hz1 hk1 hS
          obtain ⟨z_5, rfl⟩ : ∃ z, z = u := ⟨_, rfl⟩
          obtain ⟨hP1, hK1, hD1⟩ := hB
          rw [ht] at hP1
          have hK1 := va_K.moved hvm.symm hK1
          try dsimp only at hw
          have hPD := va_join (wr := [(qf110, .inl (cf110, 96, .inl f110)), (qf127, .inl (cf127, 30, .inl f127)), (qf102, .inl (cf102, 2048, .inl f102)), (qf104, .inl (cf104, 8, .inl f104)), (qf118, .inl (cf118, 2100, .inl g118_20)), (qf119, .inl (cf119, 2100, .inl g119_20)), (qf105, .inl (cf105, 8, .inl f105))]) (w1 := [(h0, .inr (13, z_5)), (qf111, .inl (cf111, 96, .inl f111)), (qf100, .inl (cf100, 48000, .inl f100))]) hP hD [8, 1, 9] [0, 2, 3, 4, 5, 6, 7] rfl rfl (by decide) (by decide) hk1 hFc hP1 hD1
          clear hP hD
          obtain ⟨hP, hD⟩ := hPD
          replace hK := (hK.sub (tys' := [(cf110, .int), (cf127, .int), (cf102, .int), (cf104, .int), (cf118, .int), (cf119, .int), (cf105, .int)]) [0, 2, 3, 4, 5, 6, 7] rfl).app hK1
          clear hPc hDc hKc hFc hP1 hK1 hD1 hz1 hk1 ht hvm
          generalize H1 = H at hP hS ⊢
          replace hP : va_P (dC, dI) vwCl [(qf110, .inl (cf110, 96, .inl f110)), (qf127, .inl (cf127, 30, .inl f127)), (qf102, .inl (cf102, 2048, .inl f102)), (qf104, .inl (cf104, 8, .inl f104)), (qf118, .inl (cf118, 2100, .inl g118_20)), (qf119, .inl (cf119, 2100, .inl g119_20)), (qf105, .inl (cf105, 8, .inl f105)), (h0, .inr (13, z_5)), (qf111, .inl (cf111, 96, .inl f111)), (qf100, .inl (cf100, 48000, .inl f100))] H := hP
          replace hD : va_D A [(qf110, .inl (cf110, 96, .inl f110)), (qf127, .inl (cf127, 30, .inl f127)), (qf102, .inl (cf102, 2048, .inl f102)), (qf104, .inl (cf104, 8, .inl f104)), (qf118, .inl (cf118, 2100, .inl g118_20)), (qf119, .inl (cf119, 2100, .inl g119_20)), (qf105, .inl (cf105, 8, .inl f105)), (h0, .inr (13, z_5)), (qf111, .inl (cf111, 96, .inl f111)), (qf100, .inl (cf100, 48000, .inl f100))] := hD
          replace hK : va_K (dC, dI) vwCl [(cf110, .int), (cf127, .int), (cf102, .int), (cf104, .int), (cf118, .int), (cf119, .int), (cf105, .int), (cf111, .int), (cf100, .int)] s := hK
          obtain ⟨hwa_5, hln_5, hre_5⟩ := hw
          have hfk_5_98 : z_5[98]? = some (.int v98) := (hre_5 98 ).trans (hfk_4_98)
          have hfk_5_100 : z_5[100]? = some (.ref qf100) := (hre_5 100 ).trans (hfk_4_100)
          have hfk_5_102 : z_5[102]? = some (.ref qf102) := (hre_5 102 ).trans (hfk_4_102)
          have hfk_5_104 : z_5[104]? = some (.ref qf104) := (hre_5 104 ).trans (hfk_4_104)
          have hfk_5_105 : z_5[105]? = some (.ref qf105) := (hre_5 105 ).trans (hfk_4_105)
          have hfk_5_110 : z_5[110]? = some (.ref qf110) := (hre_5 110 ).trans (hfk_4_110)
          have hfk_5_111 : z_5[111]? = some (.ref qf111) := (hre_5 111 ).trans (hfk_4_111)
          have hfk_5_117 : z_5[117]? = some (.int x117_20) := (hre_5 117 ).trans (hfk_4_117)
          have hfk_5_118 : z_5[118]? = some (.ref qf118) := (hre_5 118 ).trans (hfk_4_118)
          have hfk_5_119 : z_5[119]? = some (.ref qf119) := (hre_5 119 ).trans (hfk_4_119)
          have hfk_5_120 : z_5[120]? = some (.int x120_20) := (hre_5 120 ).trans (hfk_4_120)
          have hfk_5_127 : z_5[127]? = some (.ref qf127) := (hre_5 127 ).trans (hfk_4_127)
          have hfk_5_132 : z_5[132]? = some (.int v132) := (hre_5 132 ).trans (hfk_4_132)
          have hfk_5_133 : z_5[133]? = some (.int v133) := (hre_5 133 ).trans (hfk_4_133)
          have hrq_5 : ∀ j : Nat, j ≠ 117 → j ≠ 120 → z_5[j]? = zs[j]? := fun j g117 g120 => (hre_5 j ).trans (hrq_4 j g117 g120)
          obtain rfl := hwa_5
          refine lv_istore (lv' := [(5, .int u5_0), (4, .int ((l2_20 + 1) + (7 * l3_20))), (3, .int l3_20), (2, .int l2_20), (0, .ref h0), (1, .int l1_20)]) hx hb dX13_handled_80 hl (by decide) rfl (fun ls hl => ?_)
          refine lv_aload_n hx hb dX13_handled_82 rfl (lv_at hl 4 rfl) ?_
          refine lv_iload hx hb dX13_handled_83 (lv_at hl 0 rfl) ?_
          obtain ⟨⟨u6_0, g906_1, g906_2, u6_3, u6_4⟩, hu_6, hsp⟩ := ox_bind hsp
          try dsimp only at hsp
          have hPc := hP.sub (ws' := [(h0, .inr (13, z_5)), (qf100, .inl (cf100, 48000, .inl f100)), (qf127, .inl (cf127, 30, .inl f127)), (qf102, .inl (cf102, 2048, .inl f102)), (qf104, .inl (cf104, 8, .inl f104)), (qf118, .inl (cf118, 2100, .inl g118_20)), (qf119, .inl (cf119, 2100, .inl g119_20)), (qf105, .inl (cf105, 8, .inl f105))]) [7, 9, 1, 2, 3, 4, 5, 6] rfl
          have hDc := hD.sub (ws' := [(h0, .inr (13, z_5)), (qf100, .inl (cf100, 48000, .inl f100)), (qf127, .inl (cf127, 30, .inl f127)), (qf102, .inl (cf102, 2048, .inl f102)), (qf104, .inl (cf104, 8, .inl f104)), (qf118, .inl (cf118, 2100, .inl g118_20)), (qf119, .inl (cf119, 2100, .inl g119_20)), (qf105, .inl (cf105, 8, .inl f105))]) [7, 9, 1, 2, 3, 4, 5, 6] (by decide) rfl
          have hKc := hK.sub (tys' := [(cf100, .int), (cf127, .int), (cf102, .int), (cf104, .int), (cf118, .int), (cf119, .int), (cf105, .int)]) [8, 1, 2, 3, 4, 5, 6] rfl
          have hFc := va_free (wc := [(h0, .inr (13, z_5)), (qf100, .inl (cf100, 48000, .inl f100)), (qf127, .inl (cf127, 30, .inl f127)), (qf102, .inl (cf102, 2048, .inl f102)), (qf104, .inl (cf104, 8, .inl f104)), (qf118, .inl (cf118, 2100, .inl g118_20)), (qf119, .inl (cf119, 2100, .inl g119_20)), (qf105, .inl (cf105, 8, .inl f105))]) hD hS hA [7, 9, 1, 2, 3, 4, 5, 6] rfl
          refine va_calli (va_runV (As := [.int u5_0]) (rest := []) ⟨hx, hb, hml, hown, hts⟩ (vm_localsFit l dC dI H.size h0 z_5 u5_0 v98 qf100 qf102 qf104 qf105 x117_20 qf118 qf119 x120_20 qf127 v132 cf100 f100 cf127 f127 cf102 f102 cf104 f104 cf118 g118_20 cf119 g119_20 cf105 f105 nS477 fS477 hS477 qS477 tS477 nf u6_0 g906_1 g906_2 u6_3 u6_4 hln_5 hfk_5_98 hfk_5_100 hfk_5_102 hfk_5_104 hfk_5_105 hfk_5_117 hfk_5_118 hfk_5_119 hfk_5_120 hfk_5_127 hfk_5_132 hu_6) (cwV 1 hts gv_h9_111 rfl rfl rfl (by decide +kernel) ⟨Nat.le_of_ble_eq_true rfl, Nat.le_of_ble_eq_true rfl⟩) ⟨fun a U g mk q => by obtain ⟨q0, q1, qP, qK, qD, qhZWS477, qhZRS477⟩ := q; exact ⟨q0, q1, qP, va_K.moved (u := U) (U := U.calling g mk a) (Vm.Alike.refl U.vm) qK, qD, pz_W.moved (u := U) (U := U.calling g mk a) (Vm.Alike.refl U.vm) qhZWS477, vk_R.same rfl qhZRS477⟩, va_recv hKc hPc (ci := 13) (q0 := 0) rfl rfl, fun U hU hW => ⟨rfl, by rw [hU], by rw [hU]; exact hPc, va_K.moved hW.alike hKc, hDc.weaken (fun _ _ _ _ => trivial), by rw [hU]; exact ((pz_W.moved hW.alike hZWS477).kept hS.2.1).narrow hFc, vk_R.warm hW hZRS477⟩⟩ rfl rfl hl.1 rfl (lv_room (Nat.le_of_ble_eq_true rfl)) dX13_handled_85 ⟨Nat.le_of_ble_eq_true rfl, Nat.le_of_ble_eq_true rfl⟩) hS (fun q _ h => hFc q h) hFc ?_
          clear hS
          intro r_10 u t H1 locs ht hvm hw hB hz1 hk1 hS
          obtain ⟨z_6, rfl⟩ : ∃ z, z = u := ⟨_, rfl⟩
          obtain ⟨hP1, hK1, hD1⟩ := hB
          rw [ht] at hP1
          have hK1 := va_K.moved hvm.symm hK1
          try dsimp only at hw
          have hPD := va_join (wr := [(qf110, .inl (cf110, 96, .inl f110)), (qf111, .inl (cf111, 96, .inl f111))]) (w1 := [(h0, .inr (13, z_6)), (qf100, .inl (cf100, 48000, .inl f100)), (qf127, .inl (cf127, 30, .inl f127)), (qf102, .inl (cf102, 2048, .inl f102)), (qf104, .inl (cf104, 8, .inl f104)), (qf118, .inl (cf118, 2100, .inl g906_1)), (qf119, .inl (cf119, 2100, .inl g906_2)), (qf105, .inl (cf105, 8, .inl f105))]) hP hD [7, 9, 1, 2, 3, 4, 5, 6] [0, 8] rfl rfl (by decide) (by decide) hk1 hFc hP1 hD1
          clear hP hD
          obtain ⟨hP, hD⟩ := hPD
          replace hK := (hK.sub (tys' := [(cf110, .int), (cf111, .int)]) [0, 7] rfl).app hK1
          clear hPc hDc hKc hFc hP1 hK1 hD1 hz1 hk1 ht hvm
          generalize H1 = H at hP hS ⊢
          replace hP : va_P (dC, dI) vwCl [(qf110, .inl (cf110, 96, .inl f110)), (qf111, .inl (cf111, 96, .inl f111)), (h0, .inr (13, z_6)), (qf100, .inl (cf100, 48000, .inl f100)), (qf127, .inl (cf127, 30, .inl f127)), (qf102, .inl (cf102, 2048, .inl f102)), (qf104, .inl (cf104, 8, .inl f104)), (qf118, .inl (cf118, 2100, .inl g906_1)), (qf119, .inl (cf119, 2100, .inl g906_2)), (qf105, .inl (cf105, 8, .inl f105))] H := hP
          replace hD : va_D A [(qf110, .inl (cf110, 96, .inl f110)), (qf111, .inl (cf111, 96, .inl f111)), (h0, .inr (13, z_6)), (qf100, .inl (cf100, 48000, .inl f100)), (qf127, .inl (cf127, 30, .inl f127)), (qf102, .inl (cf102, 2048, .inl f102)), (qf104, .inl (cf104, 8, .inl f104)), (qf118, .inl (cf118, 2100, .inl g906_1)), (qf119, .inl (cf119, 2100, .inl g906_2)), (qf105, .inl (cf105, 8, .inl f105))] := hD
          replace hK : va_K (dC, dI) vwCl [(cf110, .int), (cf111, .int), (cf100, .int), (cf127, .int), (cf102, .int), (cf104, .int), (cf118, .int), (cf119, .int), (cf105, .int)] s := hK
          obtain ⟨hwa_6, hln_6, hre_6, hch_6_117, hch_6_120⟩ := hw
          have hfk_6_98 : z_6[98]? = some (.int v98) := (hre_6 98 (by decide) (by decide)).trans (hfk_5_98)
          have hfk_6_100 : z_6[100]? = some (.ref qf100) := (hre_6 100 (by decide) (by decide)).trans (hfk_5_100)
          have hfk_6_102 : z_6[102]? = some (.ref qf102) := (hre_6 102 (by decide) (by decide)).trans (hfk_5_102)
          have hfk_6_104 : z_6[104]? = some (.ref qf104) := (hre_6 104 (by decide) (by decide)).trans (hfk_5_104)
          have hfk_6_105 : z_6[105]? = some (.ref qf105) := (hre_6 105 (by decide) (by decide)).trans (hfk_5_105)
          have hfk_6_110 : z_6[110]? = some (.ref qf110) := (hre_6 110 (by decide) (by decide)).trans (hfk_5_110)
          have hfk_6_111 : z_6[111]? = some (.ref qf111) := (hre_6 111 (by decide) (by decide)).trans (hfk_5_111)
          have hfk_6_118 : z_6[118]? = some (.ref qf118) := (hre_6 118 (by decide) (by decide)).trans (hfk_5_118)
          have hfk_6_119 : z_6[119]? = some (.ref qf119) := (hre_6 119 (by decide) (by decide)).trans (hfk_5_119)
          have hfk_6_127 : z_6[127]? = some (.ref qf127) := (hre_6 127 (by decide) (by decide)).trans (hfk_5_127)
          have hfk_6_132 : z_6[132]? = some (.int v132) := (hre_6 132 (by decide) (by decide)).trans (hfk_5_132)
          have hfk_6_133 : z_6[133]? = some (.int v133) := (hre_6 133 (by decide) (by decide)).trans (hfk_5_133)
          have hrq_6 : ∀ j : Nat, j ≠ 117 → j ≠ 120 → z_6[j]? = zs[j]? := fun j g117 g120 => (hre_6 j g117 g120).trans (hrq_5 j g117 g120)
          obtain ⟨rfl, hz_6⟩ := hwa_6
          rcases hz_6 with rfl | rfl
          · rw [if_pos rfl] at hsp
            refine lv_if_ne (tgt := 93) hx hb dX13_handled_88 (by decide) (fun c_11 => (show False by revert c_11; decide).elim) (fun c_11 => ?_)
            refine lv_iconst (v := 0) hx hb dX13_handled_91 (by decide) ?_
            have hr0 := Option.some.inj hsp
            clear hsp
            obtain ⟨hq0, hr1⟩ := Prod.mk.inj hr0
            clear hr0
            obtain ⟨hq1, hr2⟩ := Prod.mk.inj hr1
            clear hr1
            obtain ⟨hq2, hr3⟩ := Prod.mk.inj hr2
            clear hr2
            obtain ⟨hq3, hr4⟩ := Prod.mk.inj hr3
            clear hr3
            subst hq0
            subst hq1
            subst hq2
            subst hq3
            subst hr4
            have hP9 := hP.sub (ws' := [(h0, .inr (13, z_6)), (qf110, .inl (cf110, 96, .inl f110)), (qf100, .inl (cf100, 48000, .inl f100)), (qf111, .inl (cf111, 96, .inl f111)), (qf127, .inl (cf127, 30, .inl f127)), (qf102, .inl (cf102, 2048, .inl f102)), (qf104, .inl (cf104, 8, .inl f104)), (qf118, .inl (cf118, 2100, .inl g906_1)), (qf119, .inl (cf119, 2100, .inl g906_2)), (qf105, .inl (cf105, 8, .inl f105))]) [2, 0, 3, 1, 4, 5, 6, 7, 8, 9] rfl
            have hD9 := hD.sub (ws' := [(h0, .inr (13, z_6)), (qf110, .inl (cf110, 96, .inl f110)), (qf100, .inl (cf100, 48000, .inl f100)), (qf111, .inl (cf111, 96, .inl f111)), (qf127, .inl (cf127, 30, .inl f127)), (qf102, .inl (cf102, 2048, .inl f102)), (qf104, .inl (cf104, 8, .inl f104)), (qf118, .inl (cf118, 2100, .inl g906_1)), (qf119, .inl (cf119, 2100, .inl g906_2)), (qf105, .inl (cf105, 8, .inl f105))]) [2, 0, 3, 1, 4, 5, 6, 7, 8, 9] (by decide) rfl
            have hK9 := hK.sub (tys' := [(cf110, .int), (cf100, .int), (cf111, .int), (cf127, .int), (cf102, .int), (cf104, .int), (cf118, .int), (cf119, .int), (cf105, .int)]) [0, 2, 1, 3, 4, 5, 6, 7, 8] rfl
            exact W.zret hx hb hr (by decide) (fun t ht hW => ⟨⟨(0), (z_6), rfl, ⟨⟨rfl, Or.inl rfl⟩, hln_6, hrq_6, hch_6_117, hch_6_120⟩, by rw [ht]; exact hP9, va_K.moved hW.alike hK9, hD9⟩, hS.F ht⟩) hS.2.2 dX13_handled_92
          · rw [if_neg (by decide)] at hsp
            refine lv_if_ne (tgt := 93) hx hb dX13_handled_88 (by decide) (fun c_12 => ?_) (fun c_12 => (show False by revert c_12; decide).elim)
            refine lv_aload_n hx hb dX13_handled_93 rfl (lv_at hl 4 rfl) ?_
            refine lv_iload hx hb dX13_handled_94 (lv_at hl 0 rfl) ?_
            refine lv_iconst (v := 2) hx hb dX13_handled_96 (by decide) ?_
            refine lv_iadd hx hb dX13_handled_97 ?_
            obtain ⟨u7_0, hu_7, hsp⟩ := ox_bind hsp
            try dsimp only at hsp
            have hPc := hP.sub (ws' := [(h0, .inr (13, z_6)), (qf100, .inl (cf100, 48000, .inl f100))]) [2, 3] rfl
            have hDc := hD.sub (ws' := [(h0, .inr (13, z_6)), (qf100, .inl (cf100, 48000, .inl f100))]) [2, 3] (by decide) rfl
            have hKc := hK.sub (tys' := [(cf100, .int)]) [2] rfl
            have hFc := va_free (wc := [(h0, .inr (13, z_6)), (qf100, .inl (cf100, 48000, .inl f100))]) hD hS hA [2, 3] rfl
            refine va_calli (va_runV (As := [.int (u5_0 + 2)]) (rest := []) ⟨hx, hb, hml, hown, hts⟩ (tn_typesEnd l dC dI H.size h0 z_6 ((u5_0 + 2)) qf100 v132 cf100 f100 nf u7_0 hln_6 hfk_6_100 hfk_6_132 hu_7) (cwV 1 hts gv_h9_59 rfl rfl rfl (by decide +kernel) ⟨Nat.le_of_ble_eq_true rfl, Nat.le_of_ble_eq_true rfl⟩) ⟨fun a U g mk q => by obtain ⟨q0, q1, qP, qK, qD⟩ := q; exact ⟨q0, q1, qP, va_K.moved (u := U) (U := U.calling g mk a) (Vm.Alike.refl U.vm) qK, qD⟩, va_recv hKc hPc (ci := 13) (q0 := 0) rfl rfl, fun U hU hW => ⟨rfl, by rw [hU], by rw [hU]; exact hPc, va_K.moved hW.alike hKc, hDc.weaken (fun _ _ _ _ => trivial)⟩⟩ rfl rfl hl.1 rfl (lv_room (Nat.le_of_ble_eq_true rfl)) dX13_handled_98 ⟨Nat.le_of_ble_eq_true rfl, Nat.le_of_ble_eq_true rfl⟩) hS (fun q _ h => hFc q h) hFc ?_
            clear hS
            intro r_13 u t H1 locs ht hvm hw hB hz1 hk1 hS
            obtain ⟨z_7, rfl⟩ : ∃ z, z = u := ⟨_, rfl⟩
            obtain ⟨hP1, hK1, hD1⟩ := hB
            rw [ht] at hP1
            have hK1 := va_K.moved hvm.symm hK1
            try dsimp only at hw
            have hPD := va_join (wr := [(qf110, .inl (cf110, 96, .inl f110)), (qf111, .inl (cf111, 96, .inl f111)), (qf127, .inl (cf127, 30, .inl f127)), (qf102, .inl (cf102, 2048, .inl f102)), (qf104, .inl (cf104, 8, .inl f104)), (qf118, .inl (cf118, 2100, .inl g906_1)), (qf119, .inl (cf119, 2100, .inl g906_2)), (qf105, .inl (cf105, 8, .inl f105))]) (w1 := [(h0, .inr (13, z_7)), (qf100, .inl (cf100, 48000, .inl f100))]) hP hD [2, 3] [0, 1, 4, 5, 6, 7, 8, 9] rfl rfl (by decide) (by decide) hk1 hFc hP1 hD1
            clear hP hD
            obtain ⟨hP, hD⟩ := hPD
            replace hK := (hK.sub (tys' := [(cf110, .int), (cf111, .int), (cf127, .int), (cf102, .int), (cf104, .int), (cf118, .int), (cf119, .int), (cf105, .int)]) [0, 1, 3, 4, 5, 6, 7, 8] rfl).app hK1
            clear hPc hDc hKc hFc hP1 hK1 hD1 hz1 hk1 ht hvm
            generalize H1 = H at hP hS ⊢
            replace hP : va_P (dC, dI) vwCl [(qf110, .inl (cf110, 96, .inl f110)), (qf111, .inl (cf111, 96, .inl f111)), (qf127, .inl (cf127, 30, .inl f127)), (qf102, .inl (cf102, 2048, .inl f102)), (qf104, .inl (cf104, 8, .inl f104)), (qf118, .inl (cf118, 2100, .inl g906_1)), (qf119, .inl (cf119, 2100, .inl g906_2)), (qf105, .inl (cf105, 8, .inl f105)), (h0, .inr (13, z_7)), (qf100, .inl (cf100, 48000, .inl f100))] H := hP
            replace hD : va_D A [(qf110, .inl (cf110, 96, .inl f110)), (qf111, .inl (cf111, 96, .inl f111)), (qf127, .inl (cf127, 30, .inl f127)), (qf102, .inl (cf102, 2048, .inl f102)), (qf104, .inl (cf104, 8, .inl f104)), (qf118, .inl (cf118, 2100, .inl g906_1)), (qf119, .inl (cf119, 2100, .inl g906_2)), (qf105, .inl (cf105, 8, .inl f105)), (h0, .inr (13, z_7)), (qf100, .inl (cf100, 48000, .inl f100))] := hD
            replace hK : va_K (dC, dI) vwCl [(cf110, .int), (cf111, .int), (cf127, .int), (cf102, .int), (cf104, .int), (cf118, .int), (cf119, .int), (cf105, .int), (cf100, .int)] s := hK
            obtain ⟨hwa_7, hln_7, hre_7⟩ := hw
            have hfk_7_98 : z_7[98]? = some (.int v98) := (hre_7 98 ).trans (hfk_6_98)
            have hfk_7_100 : z_7[100]? = some (.ref qf100) := (hre_7 100 ).trans (hfk_6_100)
            have hfk_7_102 : z_7[102]? = some (.ref qf102) := (hre_7 102 ).trans (hfk_6_102)
            have hfk_7_104 : z_7[104]? = some (.ref qf104) := (hre_7 104 ).trans (hfk_6_104)
            have hfk_7_105 : z_7[105]? = some (.ref qf105) := (hre_7 105 ).trans (hfk_6_105)
            have hfk_7_110 : z_7[110]? = some (.ref qf110) := (hre_7 110 ).trans (hfk_6_110)
            have hfk_7_111 : z_7[111]? = some (.ref qf111) := (hre_7 111 ).trans (hfk_6_111)
            have hfk_7_117 : z_7[117]? = some (.int u6_3) := (hre_7 117 ).trans (hch_6_117)
            have hfk_7_118 : z_7[118]? = some (.ref qf118) := (hre_7 118 ).trans (hfk_6_118)
            have hfk_7_119 : z_7[119]? = some (.ref qf119) := (hre_7 119 ).trans (hfk_6_119)
            have hfk_7_120 : z_7[120]? = some (.int u6_4) := (hre_7 120 ).trans (hch_6_120)
            have hfk_7_127 : z_7[127]? = some (.ref qf127) := (hre_7 127 ).trans (hfk_6_127)
            have hfk_7_132 : z_7[132]? = some (.int v132) := (hre_7 132 ).trans (hfk_6_132)
            have hfk_7_133 : z_7[133]? = some (.int v133) := (hre_7 133 ).trans (hfk_6_133)
            have hrq_7 : ∀ j : Nat, j ≠ 117 → j ≠ 120 → z_7[j]? = zs[j]? := fun j g117 g120 => (hre_7 j ).trans (hrq_6 j g117 g120)
            obtain rfl := hwa_7
            refine lv_istore (lv' := [(6, .int u7_0), (5, .int u5_0), (4, .int ((l2_20 + 1) + (7 * l3_20))), (3, .int l3_20), (2, .int l2_20), (0, .ref h0), (1, .int l1_20)]) hx hb dX13_handled_101 hl (by decide) rfl (fun ls hl => ?_)
            refine lv_aload_n hx hb dX13_handled_103 rfl (lv_at hl 5 rfl) ?_
            refine lv_aload_n hx hb dX13_handled_104 rfl (lv_at hl 5 rfl) ?_
            refine va_get (D := (dC, dI)) (ci := 13) (v := .int v132) (C := RX13) (T := TX13) (N := 155) hx hb hts uV_h9_X13 hown hK hP 8 rfl rfl 132 (by decide) (hts (.fieldLink RX13 932 "ClassMillModel" "inClass" "I") mw_h9_533) (fun _ h9 => h9) hfk_7_132 dX13_handled_105 ?_
            refine lv_iload hx hb dX13_handled_108 (lv_at hl 0 rfl) ?_
            obtain ⟨u8_0, hu_8, hsp⟩ := ox_bind hsp
            try dsimp only at hsp
            have hPc := hP.sub (ws' := [(h0, .inr (13, z_7)), (qf100, .inl (cf100, 48000, .inl f100))]) [8, 9] rfl
            have hDc := hD.sub (ws' := [(h0, .inr (13, z_7)), (qf100, .inl (cf100, 48000, .inl f100))]) [8, 9] (by decide) rfl
            have hKc := hK.sub (tys' := [(cf100, .int)]) [8] rfl
            have hFc := va_free (wc := [(h0, .inr (13, z_7)), (qf100, .inl (cf100, 48000, .inl f100))]) hD hS hA [8, 9] rfl
            refine va_calli (va_runV (As := [.int v132, .int u7_0]) (rest := []) ⟨hx, hb, hml, hown, hts⟩ (tm_byteAt l dC dI H.size h0 z_7 v132 u7_0 qf100 cf100 f100 nf u8_0 hln_7 hfk_7_100 hu_8) (cwV 2 hts gv_h9_58 rfl rfl rfl (by decide +kernel) ⟨Nat.le_of_ble_eq_true rfl, Nat.le_of_ble_eq_true rfl⟩) ⟨fun a U g mk q => by obtain ⟨q0, q1, qP, qK, qD⟩ := q; exact ⟨q0, q1, qP, va_K.moved (u := U) (U := U.calling g mk a) (Vm.Alike.refl U.vm) qK, qD⟩, va_recv hKc hPc (ci := 13) (q0 := 0) rfl rfl, fun U hU hW => ⟨rfl, by rw [hU], by rw [hU]; exact hPc, va_K.moved hW.alike hKc, hDc.weaken (fun _ _ _ _ => trivial)⟩⟩ rfl rfl hl.1 rfl (lv_room (Nat.le_of_ble_eq_true rfl)) dX13_handled_110 ⟨Nat.le_of_ble_eq_true rfl, Nat.le_of_ble_eq_true rfl⟩) hS (fun q _ h => hFc q h) hFc ?_
            clear hS
            intro r_14 u t H1 locs ht hvm hw hB hz1 hk1 hS
            obtain ⟨z_8, rfl⟩ : ∃ z, z = u := ⟨_, rfl⟩
            obtain ⟨hP1, hK1, hD1⟩ := hB
            rw [ht] at hP1
            have hK1 := va_K.moved hvm.symm hK1
            try dsimp only at hw
            have hPD := va_join (wr := [(qf110, .inl (cf110, 96, .inl f110)), (qf111, .inl (cf111, 96, .inl f111)), (qf127, .inl (cf127, 30, .inl f127)), (qf102, .inl (cf102, 2048, .inl f102)), (qf104, .inl (cf104, 8, .inl f104)), (qf118, .inl (cf118, 2100, .inl g906_1)), (qf119, .inl (cf119, 2100, .inl g906_2)), (qf105, .inl (cf105, 8, .inl f105))]) (w1 := [(h0, .inr (13, z_8)), (qf100, .inl (cf100, 48000, .inl f100))]) hP hD [8, 9] [0, 1, 2, 3, 4, 5, 6, 7] rfl rfl (by decide) (by decide) hk1 hFc hP1 hD1
            clear hP hD
            obtain ⟨hP, hD⟩ := hPD
            replace hK := (hK.sub (tys' := [(cf110, .int), (cf111, .int), (cf127, .int), (cf102, .int), (cf104, .int), (cf118, .int), (cf119, .int), (cf105, .int)]) [0, 1, 2, 3, 4, 5, 6, 7] rfl).app hK1
            clear hPc hDc hKc hFc hP1 hK1 hD1 hz1 hk1 ht hvm
            generalize H1 = H at hP hS ⊢
            replace hP : va_P (dC, dI) vwCl [(qf110, .inl (cf110, 96, .inl f110)), (qf111, .inl (cf111, 96, .inl f111)), (qf127, .inl (cf127, 30, .inl f127)), (qf102, .inl (cf102, 2048, .inl f102)), (qf104, .inl (cf104, 8, .inl f104)), (qf118, .inl (cf118, 2100, .inl g906_1)), (qf119, .inl (cf119, 2100, .inl g906_2)), (qf105, .inl (cf105, 8, .inl f105)), (h0, .inr (13, z_8)), (qf100, .inl (cf100, 48000, .inl f100))] H := hP
            replace hD : va_D A [(qf110, .inl (cf110, 96, .inl f110)), (qf111, .inl (cf111, 96, .inl f111)), (qf127, .inl (cf127, 30, .inl f127)), (qf102, .inl (cf102, 2048, .inl f102)), (qf104, .inl (cf104, 8, .inl f104)), (qf118, .inl (cf118, 2100, .inl g906_1)), (qf119, .inl (cf119, 2100, .inl g906_2)), (qf105, .inl (cf105, 8, .inl f105)), (h0, .inr (13, z_8)), (qf100, .inl (cf100, 48000, .inl f100))] := hD
            replace hK : va_K (dC, dI) vwCl [(cf110, .int), (cf111, .int), (cf127, .int), (cf102, .int), (cf104, .int), (cf118, .int), (cf119, .int), (cf105, .int), (cf100, .int)] s := hK
            obtain ⟨hwa_8, hln_8, hre_8⟩ := hw
            have hfk_8_98 : z_8[98]? = some (.int v98) := (hre_8 98 ).trans (hfk_7_98)
            have hfk_8_100 : z_8[100]? = some (.ref qf100) := (hre_8 100 ).trans (hfk_7_100)
            have hfk_8_102 : z_8[102]? = some (.ref qf102) := (hre_8 102 ).trans (hfk_7_102)
            have hfk_8_104 : z_8[104]? = some (.ref qf104) := (hre_8 104 ).trans (hfk_7_104)
            have hfk_8_105 : z_8[105]? = some (.ref qf105) := (hre_8 105 ).trans (hfk_7_105)
            have hfk_8_110 : z_8[110]? = some (.ref qf110) := (hre_8 110 ).trans (hfk_7_110)
            have hfk_8_111 : z_8[111]? = some (.ref qf111) := (hre_8 111 ).trans (hfk_7_111)
            have hfk_8_117 : z_8[117]? = some (.int u6_3) := (hre_8 117 ).trans (hfk_7_117)
            have hfk_8_118 : z_8[118]? = some (.ref qf118) := (hre_8 118 ).trans (hfk_7_118)
            have hfk_8_119 : z_8[119]? = some (.ref qf119) := (hre_8 119 ).trans (hfk_7_119)
            have hfk_8_120 : z_8[120]? = some (.int u6_4) := (hre_8 120 ).trans (hfk_7_120)
            have hfk_8_127 : z_8[127]? = some (.ref qf127) := (hre_8 127 ).trans (hfk_7_127)
            have hfk_8_132 : z_8[132]? = some (.int v132) := (hre_8 132 ).trans (hfk_7_132)
            have hfk_8_133 : z_8[133]? = some (.int v133) := (hre_8 133 ).trans (hfk_7_133)
            have hrq_8 : ∀ j : Nat, j ≠ 117 → j ≠ 120 → z_8[j]? = zs[j]? := fun j g117 g120 => (hre_8 j ).trans (hrq_7 j g117 g120)
            obtain rfl := hwa_8
            refine lv_iconst (v := 1) hx hb dX13_handled_113 (by decide) ?_
            refine lv_icmp_ne (tgt := 153) hx hb dX13_handled_114 (by decide) (fun c_15 => ?_) (fun c_15 => ?_)
            · rw [if_neg c_15] at hsp
              refine lv_iconst (v := 0) hx hb dX13_handled_153 (by decide) ?_
              have hr0 := Option.some.inj hsp
              clear hsp
              obtain ⟨hq0, hr1⟩ := Prod.mk.inj hr0
              clear hr0
              obtain ⟨hq1, hr2⟩ := Prod.mk.inj hr1
              clear hr1
              obtain ⟨hq2, hr3⟩ := Prod.mk.inj hr2
              clear hr2
              obtain ⟨hq3, hr4⟩ := Prod.mk.inj hr3
              clear hr3
              subst hq0
              subst hq1
              subst hq2
              subst hq3
              subst hr4
              have hP9 := hP.sub (ws' := [(h0, .inr (13, z_8)), (qf110, .inl (cf110, 96, .inl f110)), (qf100, .inl (cf100, 48000, .inl f100)), (qf111, .inl (cf111, 96, .inl f111)), (qf127, .inl (cf127, 30, .inl f127)), (qf102, .inl (cf102, 2048, .inl f102)), (qf104, .inl (cf104, 8, .inl f104)), (qf118, .inl (cf118, 2100, .inl g906_1)), (qf119, .inl (cf119, 2100, .inl g906_2)), (qf105, .inl (cf105, 8, .inl f105))]) [8, 0, 9, 1, 2, 3, 4, 5, 6, 7] rfl
              have hD9 := hD.sub (ws' := [(h0, .inr (13, z_8)), (qf110, .inl (cf110, 96, .inl f110)), (qf100, .inl (cf100, 48000, .inl f100)), (qf111, .inl (cf111, 96, .inl f111)), (qf127, .inl (cf127, 30, .inl f127)), (qf102, .inl (cf102, 2048, .inl f102)), (qf104, .inl (cf104, 8, .inl f104)), (qf118, .inl (cf118, 2100, .inl g906_1)), (qf119, .inl (cf119, 2100, .inl g906_2)), (qf105, .inl (cf105, 8, .inl f105))]) [8, 0, 9, 1, 2, 3, 4, 5, 6, 7] (by decide) rfl
              have hK9 := hK.sub (tys' := [(cf110, .int), (cf100, .int), (cf111, .int), (cf127, .int), (cf102, .int), (cf104, .int), (cf118, .int), (cf119, .int), (cf105, .int)]) [0, 8, 1, 2, 3, 4, 5, 6, 7] rfl
              exact W.zret hx hb hr (by decide) (fun t ht hW => ⟨⟨(0), (z_8), rfl, ⟨⟨rfl, Or.inl rfl⟩, hln_8, hrq_8, hfk_8_117, hfk_8_120⟩, by rw [ht]; exact hP9, va_K.moved hW.alike hK9, hD9⟩, hS.F ht⟩) hS.2.2 dX13_handled_154
            · rw [if_pos c_15] at hsp
              refine lv_aload_n hx hb dX13_handled_117 rfl (lv_at hl 5 rfl) ?_
              refine lv_aload_n hx hb dX13_handled_118 rfl (lv_at hl 5 rfl) ?_
              refine lv_aload_n hx hb dX13_handled_119 rfl (lv_at hl 5 rfl) ?_
              refine va_get (D := (dC, dI)) (ci := 13) (v := .int v132) (C := RX13) (T := TX13) (N := 155) hx hb hts uV_h9_X13 hown hK hP 8 rfl rfl 132 (by decide) (hts (.fieldLink RX13 932 "ClassMillModel" "inClass" "I") mw_h9_533) (fun _ h9 => h9) hfk_8_132 dX13_handled_120 ?_
              refine lv_aload_n hx hb dX13_handled_123 rfl (lv_at hl 5 rfl) ?_
              refine lv_aload_n hx hb dX13_handled_124 rfl (lv_at hl 5 rfl) ?_
              refine va_get (D := (dC, dI)) (ci := 13) (v := .int v132) (C := RX13) (T := TX13) (N := 155) hx hb hts uV_h9_X13 hown hK hP 8 rfl rfl 132 (by decide) (hts (.fieldLink RX13 932 "ClassMillModel" "inClass" "I") mw_h9_533) (fun _ h9 => h9) hfk_8_132 dX13_handled_125 ?_
              refine lv_iload hx hb dX13_handled_128 (lv_at hl 2 rfl) ?_
              refine lv_bipush (v := 6) hx hb dX13_handled_130 (by decide) ?_
              refine lv_iadd hx hb dX13_handled_132 ?_
              obtain ⟨u9_0, hu_9, hsp⟩ := ox_bind hsp
              try dsimp only at hsp
              have hPc := hP.sub (ws' := [(h0, .inr (13, z_8)), (qf100, .inl (cf100, 48000, .inl f100))]) [8, 9] rfl
              have hDc := hD.sub (ws' := [(h0, .inr (13, z_8)), (qf100, .inl (cf100, 48000, .inl f100))]) [8, 9] (by decide) rfl
              have hKc := hK.sub (tys' := [(cf100, .int)]) [8] rfl
              have hFc := va_free (wc := [(h0, .inr (13, z_8)), (qf100, .inl (cf100, 48000, .inl f100))]) hD hS hA [8, 9] rfl
              refine va_calli (va_runV (As := [.int v132, .int (((l2_20 + 1) + (7 * l3_20)) + 6)]) (rest := [.int v132, .ref h0, .ref h0]) ⟨hx, hb, hml, hown, hts⟩ (tm_byteAt l dC dI H.size h0 z_8 v132 ((((l2_20 + 1) + (7 * l3_20)) + 6)) qf100 cf100 f100 nf u9_0 hln_8 hfk_8_100 hu_9) (cwV 2 hts gv_h9_58 rfl rfl rfl (by decide +kernel) ⟨Nat.le_of_ble_eq_true rfl, Nat.le_of_ble_eq_true rfl⟩) ⟨fun a U g mk q => by obtain ⟨q0, q1, qP, qK, qD⟩ := q; exact ⟨q0, q1, qP, va_K.moved (u := U) (U := U.calling g mk a) (Vm.Alike.refl U.vm) qK, qD⟩, va_recv hKc hPc (ci := 13) (q0 := 0) rfl rfl, fun U hU hW => ⟨rfl, by rw [hU], by rw [hU]; exact hPc, va_K.moved hW.alike hKc, hDc.weaken (fun _ _ _ _ => trivial)⟩⟩ rfl rfl hl.1 rfl (lv_room (Nat.le_of_ble_eq_true rfl)) dX13_handled_133 ⟨Nat.le_of_ble_eq_true rfl, Nat.le_of_ble_eq_true rfl⟩) hS (fun q _ h => hFc q h) hFc ?_
              clear hS
              intro r_16 u t H1 locs ht hvm hw hB hz1 hk1 hS
              obtain ⟨z_9, rfl⟩ : ∃ z, z = u := ⟨_, rfl⟩
              obtain ⟨hP1, hK1, hD1⟩ := hB
              rw [ht] at hP1
              have hK1 := va_K.moved hvm.symm hK1
              try dsimp only at hw
              have hPD := va_join (wr := [(qf110, .inl (cf110, 96, .inl f110)), (qf111, .inl (cf111, 96, .inl f111)), (qf127, .inl (cf127, 30, .inl f127)), (qf102, .inl (cf102, 2048, .inl f102)), (qf104, .inl (cf104, 8, .inl f104)), (qf118, .inl (cf118, 2100, .inl g906_1)), (qf119, .inl (cf119, 2100, .inl g906_2)), (qf105, .inl (cf105, 8, .inl f105))]) (w1 := [(h0, .inr (13, z_9)), (qf100, .inl (cf100, 48000, .inl f100))]) hP hD [8, 9] [0, 1, 2, 3, 4, 5, 6, 7] rfl rfl (by decide) (by decide) hk1 hFc hP1 hD1
              clear hP hD
              obtain ⟨hP, hD⟩ := hPD
              replace hK := (hK.sub (tys' := [(cf110, .int), (cf111, .int), (cf127, .int), (cf102, .int), (cf104, .int), (cf118, .int), (cf119, .int), (cf105, .int)]) [0, 1, 2, 3, 4, 5, 6, 7] rfl).app hK1
              clear hPc hDc hKc hFc hP1 hK1 hD1 hz1 hk1 ht hvm
              generalize H1 = H at hP hS ⊢
              replace hP : va_P (dC, dI) vwCl [(qf110, .inl (cf110, 96, .inl f110)), (qf111, .inl (cf111, 96, .inl f111)), (qf127, .inl (cf127, 30, .inl f127)), (qf102, .inl (cf102, 2048, .inl f102)), (qf104, .inl (cf104, 8, .inl f104)), (qf118, .inl (cf118, 2100, .inl g906_1)), (qf119, .inl (cf119, 2100, .inl g906_2)), (qf105, .inl (cf105, 8, .inl f105)), (h0, .inr (13, z_9)), (qf100, .inl (cf100, 48000, .inl f100))] H := hP
              replace hD : va_D A [(qf110, .inl (cf110, 96, .inl f110)), (qf111, .inl (cf111, 96, .inl f111)), (qf127, .inl (cf127, 30, .inl f127)), (qf102, .inl (cf102, 2048, .inl f102)), (qf104, .inl (cf104, 8, .inl f104)), (qf118, .inl (cf118, 2100, .inl g906_1)), (qf119, .inl (cf119, 2100, .inl g906_2)), (qf105, .inl (cf105, 8, .inl f105)), (h0, .inr (13, z_9)), (qf100, .inl (cf100, 48000, .inl f100))] := hD
              replace hK : va_K (dC, dI) vwCl [(cf110, .int), (cf111, .int), (cf127, .int), (cf102, .int), (cf104, .int), (cf118, .int), (cf119, .int), (cf105, .int), (cf100, .int)] s := hK
              obtain ⟨hwa_9, hln_9, hre_9⟩ := hw
              have hfk_9_98 : z_9[98]? = some (.int v98) := (hre_9 98 ).trans (hfk_8_98)
              have hfk_9_100 : z_9[100]? = some (.ref qf100) := (hre_9 100 ).trans (hfk_8_100)
              have hfk_9_102 : z_9[102]? = some (.ref qf102) := (hre_9 102 ).trans (hfk_8_102)
              have hfk_9_104 : z_9[104]? = some (.ref qf104) := (hre_9 104 ).trans (hfk_8_104)
              have hfk_9_105 : z_9[105]? = some (.ref qf105) := (hre_9 105 ).trans (hfk_8_105)
              have hfk_9_110 : z_9[110]? = some (.ref qf110) := (hre_9 110 ).trans (hfk_8_110)
              have hfk_9_111 : z_9[111]? = some (.ref qf111) := (hre_9 111 ).trans (hfk_8_111)
              have hfk_9_117 : z_9[117]? = some (.int u6_3) := (hre_9 117 ).trans (hfk_8_117)
              have hfk_9_118 : z_9[118]? = some (.ref qf118) := (hre_9 118 ).trans (hfk_8_118)
              have hfk_9_119 : z_9[119]? = some (.ref qf119) := (hre_9 119 ).trans (hfk_8_119)
              have hfk_9_120 : z_9[120]? = some (.int u6_4) := (hre_9 120 ).trans (hfk_8_120)
              have hfk_9_127 : z_9[127]? = some (.ref qf127) := (hre_9 127 ).trans (hfk_8_127)
              have hfk_9_132 : z_9[132]? = some (.int v132) := (hre_9 132 ).trans (hfk_8_132)
              have hfk_9_133 : z_9[133]? = some (.int v133) := (hre_9 133 ).trans (hfk_8_133)
              have hrq_9 : ∀ j : Nat, j ≠ 117 → j ≠ 120 → z_9[j]? = zs[j]? := fun j g117 g120 => (hre_9 j ).trans (hrq_8 j g117 g120)
              obtain rfl := hwa_9
              obtain ⟨⟨u10_0, g910_1, g910_2, u10_3, u10_4⟩, hu_10, hsp⟩ := ox_bind hsp
              try dsimp only at hsp
              have hPc := hP.sub (ws' := [(h0, .inr (13, z_9)), (qf102, .inl (cf102, 2048, .inl f102)), (qf100, .inl (cf100, 48000, .inl f100)), (qf104, .inl (cf104, 8, .inl f104)), (qf118, .inl (cf118, 2100, .inl g906_1)), (qf119, .inl (cf119, 2100, .inl g906_2))]) [8, 3, 9, 4, 5, 6] rfl
              have hDc := hD.sub (ws' := [(h0, .inr (13, z_9)), (qf102, .inl (cf102, 2048, .inl f102)), (qf100, .inl (cf100, 48000, .inl f100)), (qf104, .inl (cf104, 8, .inl f104)), (qf118, .inl (cf118, 2100, .inl g906_1)), (qf119, .inl (cf119, 2100, .inl g906_2))]) [8, 3, 9, 4, 5, 6] (by decide) rfl
              have hKc := hK.sub (tys' := [(cf102, .int), (cf100, .int), (cf104, .int), (cf118, .int), (cf119, .int)]) [3, 8, 4, 5, 6] rfl
              have hFc := va_free (wc := [(h0, .inr (13, z_9)), (qf102, .inl (cf102, 2048, .inl f102)), (qf100, .inl (cf100, 48000, .inl f100)), (qf104, .inl (cf104, 8, .inl f104)), (qf118, .inl (cf118, 2100, .inl g906_1)), (qf119, .inl (cf119, 2100, .inl g906_2))]) hD hS hA [8, 3, 9, 4, 5, 6] rfl
              refine va_calli (va_runV (As := [.int v132, .int u9_0]) (rest := [.ref h0]) ⟨hx, hb, hml, hown, hts⟩ (vm_typeOfClass l dC dI H.size h0 z_9 v132 u9_0 v98 qf100 qf102 qf104 u6_3 qf118 qf119 u6_4 cf102 f102 cf100 f100 cf104 f104 cf118 g906_1 cf119 g906_2 nS477 fS477 hS477 qS477 tS477 nf u10_0 g910_1 g910_2 u10_3 u10_4 hln_9 hfk_9_98 hfk_9_100 hfk_9_102 hfk_9_104 hfk_9_117 hfk_9_118 hfk_9_119 hfk_9_120 hu_10) (cwV 2 hts gv_h9_108 rfl rfl rfl (by decide +kernel) ⟨Nat.le_of_ble_eq_true rfl, Nat.le_of_ble_eq_true rfl⟩) ⟨fun a U g mk q => by obtain ⟨q0, q1, qP, qK, qD, qhZWS477, qhZRS477⟩ := q; exact ⟨q0, q1, qP, va_K.moved (u := U) (U := U.calling g mk a) (Vm.Alike.refl U.vm) qK, qD, pz_W.moved (u := U) (U := U.calling g mk a) (Vm.Alike.refl U.vm) qhZWS477, vk_R.same rfl qhZRS477⟩, va_recv hKc hPc (ci := 13) (q0 := 0) rfl rfl, fun U hU hW => ⟨rfl, by rw [hU], by rw [hU]; exact hPc, va_K.moved hW.alike hKc, hDc.weaken (fun _ _ _ _ => trivial), by rw [hU]; exact ((pz_W.moved hW.alike hZWS477).kept hS.2.1).narrow hFc, vk_R.warm hW hZRS477⟩⟩ rfl rfl hl.1 rfl (lv_room (Nat.le_of_ble_eq_true rfl)) dX13_handled_136 ⟨Nat.le_of_ble_eq_true rfl, Nat.le_of_ble_eq_true rfl⟩) hS (fun q _ h => hFc q h) hFc ?_
              clear hS
              intro r_17 u t H1 locs ht hvm hw hB hz1 hk1 hS
              obtain ⟨z_10, rfl⟩ : ∃ z, z = u := ⟨_, rfl⟩
              obtain ⟨hP1, hK1, hD1⟩ := hB
              rw [ht] at hP1
              have hK1 := va_K.moved hvm.symm hK1
              try dsimp only at hw
              have hPD := va_join (wr := [(qf110, .inl (cf110, 96, .inl f110)), (qf111, .inl (cf111, 96, .inl f111)), (qf127, .inl (cf127, 30, .inl f127)), (qf105, .inl (cf105, 8, .inl f105))]) (w1 := [(h0, .inr (13, z_10)), (qf102, .inl (cf102, 2048, .inl f102)), (qf100, .inl (cf100, 48000, .inl f100)), (qf104, .inl (cf104, 8, .inl f104)), (qf118, .inl (cf118, 2100, .inl g910_1)), (qf119, .inl (cf119, 2100, .inl g910_2))]) hP hD [8, 3, 9, 4, 5, 6] [0, 1, 2, 7] rfl rfl (by decide) (by decide) hk1 hFc hP1 hD1
              clear hP hD
              obtain ⟨hP, hD⟩ := hPD
              replace hK := (hK.sub (tys' := [(cf110, .int), (cf111, .int), (cf127, .int), (cf105, .int)]) [0, 1, 2, 7] rfl).app hK1
              clear hPc hDc hKc hFc hP1 hK1 hD1 hz1 hk1 ht hvm
              generalize H1 = H at hP hS ⊢
              replace hP : va_P (dC, dI) vwCl [(qf110, .inl (cf110, 96, .inl f110)), (qf111, .inl (cf111, 96, .inl f111)), (qf127, .inl (cf127, 30, .inl f127)), (qf105, .inl (cf105, 8, .inl f105)), (h0, .inr (13, z_10)), (qf102, .inl (cf102, 2048, .inl f102)), (qf100, .inl (cf100, 48000, .inl f100)), (qf104, .inl (cf104, 8, .inl f104)), (qf118, .inl (cf118, 2100, .inl g910_1)), (qf119, .inl (cf119, 2100, .inl g910_2))] H := hP
              replace hD : va_D A [(qf110, .inl (cf110, 96, .inl f110)), (qf111, .inl (cf111, 96, .inl f111)), (qf127, .inl (cf127, 30, .inl f127)), (qf105, .inl (cf105, 8, .inl f105)), (h0, .inr (13, z_10)), (qf102, .inl (cf102, 2048, .inl f102)), (qf100, .inl (cf100, 48000, .inl f100)), (qf104, .inl (cf104, 8, .inl f104)), (qf118, .inl (cf118, 2100, .inl g910_1)), (qf119, .inl (cf119, 2100, .inl g910_2))] := hD
              replace hK : va_K (dC, dI) vwCl [(cf110, .int), (cf111, .int), (cf127, .int), (cf105, .int), (cf102, .int), (cf100, .int), (cf104, .int), (cf118, .int), (cf119, .int)] s := hK
              obtain ⟨hwa_10, hln_10, hre_10, hch_10_117, hch_10_120⟩ := hw
              have hfk_10_98 : z_10[98]? = some (.int v98) := (hre_10 98 (by decide) (by decide)).trans (hfk_9_98)
              have hfk_10_100 : z_10[100]? = some (.ref qf100) := (hre_10 100 (by decide) (by decide)).trans (hfk_9_100)
              have hfk_10_102 : z_10[102]? = some (.ref qf102) := (hre_10 102 (by decide) (by decide)).trans (hfk_9_102)
              have hfk_10_104 : z_10[104]? = some (.ref qf104) := (hre_10 104 (by decide) (by decide)).trans (hfk_9_104)
              have hfk_10_105 : z_10[105]? = some (.ref qf105) := (hre_10 105 (by decide) (by decide)).trans (hfk_9_105)
              have hfk_10_110 : z_10[110]? = some (.ref qf110) := (hre_10 110 (by decide) (by decide)).trans (hfk_9_110)
              have hfk_10_111 : z_10[111]? = some (.ref qf111) := (hre_10 111 (by decide) (by decide)).trans (hfk_9_111)
              have hfk_10_118 : z_10[118]? = some (.ref qf118) := (hre_10 118 (by decide) (by decide)).trans (hfk_9_118)
              have hfk_10_119 : z_10[119]? = some (.ref qf119) := (hre_10 119 (by decide) (by decide)).trans (hfk_9_119)
              have hfk_10_127 : z_10[127]? = some (.ref qf127) := (hre_10 127 (by decide) (by decide)).trans (hfk_9_127)
              have hfk_10_132 : z_10[132]? = some (.int v132) := (hre_10 132 (by decide) (by decide)).trans (hfk_9_132)
              have hfk_10_133 : z_10[133]? = some (.int v133) := (hre_10 133 (by decide) (by decide)).trans (hfk_9_133)
              have hrq_10 : ∀ j : Nat, j ≠ 117 → j ≠ 120 → z_10[j]? = zs[j]? := fun j g117 g120 => (hre_10 j g117 g120).trans (hrq_9 j g117 g120)
              obtain rfl := hwa_10
              refine lv_aload_n hx hb dX13_handled_139 rfl (lv_at hl 5 rfl) ?_
              refine lv_iload hx hb dX13_handled_140 (lv_at hl 0 rfl) ?_
              refine lv_iconst (v := 1) hx hb dX13_handled_142 (by decide) ?_
              refine lv_iadd hx hb dX13_handled_143 ?_
              obtain ⟨⟨u11_0, g911_1, g911_2, u11_3, u11_4⟩, hu_11, hsp⟩ := ox_bind hsp
              try dsimp only at hsp
              have hPc := hP.sub (ws' := [(h0, .inr (13, z_10)), (qf100, .inl (cf100, 48000, .inl f100)), (qf102, .inl (cf102, 2048, .inl f102)), (qf104, .inl (cf104, 8, .inl f104)), (qf118, .inl (cf118, 2100, .inl g910_1)), (qf119, .inl (cf119, 2100, .inl g910_2))]) [4, 6, 5, 7, 8, 9] rfl
              have hDc := hD.sub (ws' := [(h0, .inr (13, z_10)), (qf100, .inl (cf100, 48000, .inl f100)), (qf102, .inl (cf102, 2048, .inl f102)), (qf104, .inl (cf104, 8, .inl f104)), (qf118, .inl (cf118, 2100, .inl g910_1)), (qf119, .inl (cf119, 2100, .inl g910_2))]) [4, 6, 5, 7, 8, 9] (by decide) rfl
              have hKc := hK.sub (tys' := [(cf100, .int), (cf102, .int), (cf104, .int), (cf118, .int), (cf119, .int)]) [5, 4, 6, 7, 8] rfl
              have hFc := va_free (wc := [(h0, .inr (13, z_10)), (qf100, .inl (cf100, 48000, .inl f100)), (qf102, .inl (cf102, 2048, .inl f102)), (qf104, .inl (cf104, 8, .inl f104)), (qf118, .inl (cf118, 2100, .inl g910_1)), (qf119, .inl (cf119, 2100, .inl g910_2))]) hD hS hA [4, 6, 5, 7, 8, 9] rfl
              refine va_calli (va_runV (As := [.int (u7_0 + 1)]) (rest := [.int u10_0, .ref h0]) ⟨hx, hb, hml, hown, hts⟩ (vm_framed l dC dI H.size h0 z_10 ((u7_0 + 1)) v98 qf100 qf102 qf104 u10_3 qf118 qf119 u10_4 v132 cf100 f100 cf102 f102 cf104 f104 cf118 g910_1 cf119 g910_2 nS477 fS477 hS477 qS477 tS477 nf u11_0 g911_1 g911_2 u11_3 u11_4 hln_10 hfk_10_98 hfk_10_100 hfk_10_102 hfk_10_104 hch_10_117 hfk_10_118 hfk_10_119 hch_10_120 hfk_10_132 hu_11) (cwV 1 hts gv_h9_109 rfl rfl rfl (by decide +kernel) ⟨Nat.le_of_ble_eq_true rfl, Nat.le_of_ble_eq_true rfl⟩) ⟨fun a U g mk q => by obtain ⟨q0, q1, qP, qK, qD, qhZWS477, qhZRS477⟩ := q; exact ⟨q0, q1, qP, va_K.moved (u := U) (U := U.calling g mk a) (Vm.Alike.refl U.vm) qK, qD, pz_W.moved (u := U) (U := U.calling g mk a) (Vm.Alike.refl U.vm) qhZWS477, vk_R.same rfl qhZRS477⟩, va_recv hKc hPc (ci := 13) (q0 := 0) rfl rfl, fun U hU hW => ⟨rfl, by rw [hU], by rw [hU]; exact hPc, va_K.moved hW.alike hKc, hDc.weaken (fun _ _ _ _ => trivial), by rw [hU]; exact ((pz_W.moved hW.alike hZWS477).kept hS.2.1).narrow hFc, vk_R.warm hW hZRS477⟩⟩ rfl rfl hl.1 rfl (lv_room (Nat.le_of_ble_eq_true rfl)) dX13_handled_144 ⟨Nat.le_of_ble_eq_true rfl, Nat.le_of_ble_eq_true rfl⟩) hS (fun q _ h => hFc q h) hFc ?_
              clear hS
              intro r_18 u t H1 locs ht hvm hw hB hz1 hk1 hS
              obtain ⟨z_11, rfl⟩ : ∃ z, z = u := ⟨_, rfl⟩
              obtain ⟨hP1, hK1, hD1⟩ := hB
              rw [ht] at hP1
              have hK1 := va_K.moved hvm.symm hK1
              try dsimp only at hw
              have hPD := va_join (wr := [(qf110, .inl (cf110, 96, .inl f110)), (qf111, .inl (cf111, 96, .inl f111)), (qf127, .inl (cf127, 30, .inl f127)), (qf105, .inl (cf105, 8, .inl f105))]) (w1 := [(h0, .inr (13, z_11)), (qf100, .inl (cf100, 48000, .inl f100)), (qf102, .inl (cf102, 2048, .inl f102)), (qf104, .inl (cf104, 8, .inl f104)), (qf118, .inl (cf118, 2100, .inl g911_1)), (qf119, .inl (cf119, 2100, .inl g911_2))]) hP hD [4, 6, 5, 7, 8, 9] [0, 1, 2, 3] rfl rfl (by decide) (by decide) hk1 hFc hP1 hD1
              clear hP hD
              obtain ⟨hP, hD⟩ := hPD
              replace hK := (hK.sub (tys' := [(cf110, .int), (cf111, .int), (cf127, .int), (cf105, .int)]) [0, 1, 2, 3] rfl).app hK1
              clear hPc hDc hKc hFc hP1 hK1 hD1 hz1 hk1 ht hvm
              generalize H1 = H at hP hS ⊢
              replace hP : va_P (dC, dI) vwCl [(qf110, .inl (cf110, 96, .inl f110)), (qf111, .inl (cf111, 96, .inl f111)), (qf127, .inl (cf127, 30, .inl f127)), (qf105, .inl (cf105, 8, .inl f105)), (h0, .inr (13, z_11)), (qf100, .inl (cf100, 48000, .inl f100)), (qf102, .inl (cf102, 2048, .inl f102)), (qf104, .inl (cf104, 8, .inl f104)), (qf118, .inl (cf118, 2100, .inl g911_1)), (qf119, .inl (cf119, 2100, .inl g911_2))] H := hP
              replace hD : va_D A [(qf110, .inl (cf110, 96, .inl f110)), (qf111, .inl (cf111, 96, .inl f111)), (qf127, .inl (cf127, 30, .inl f127)), (qf105, .inl (cf105, 8, .inl f105)), (h0, .inr (13, z_11)), (qf100, .inl (cf100, 48000, .inl f100)), (qf102, .inl (cf102, 2048, .inl f102)), (qf104, .inl (cf104, 8, .inl f104)), (qf118, .inl (cf118, 2100, .inl g911_1)), (qf119, .inl (cf119, 2100, .inl g911_2))] := hD
              replace hK : va_K (dC, dI) vwCl [(cf110, .int), (cf111, .int), (cf127, .int), (cf105, .int), (cf100, .int), (cf102, .int), (cf104, .int), (cf118, .int), (cf119, .int)] s := hK
              obtain ⟨hwa_11, hln_11, hre_11, hch_11_117, hch_11_120⟩ := hw
              have hfk_11_98 : z_11[98]? = some (.int v98) := (hre_11 98 (by decide) (by decide)).trans (hfk_10_98)
              have hfk_11_100 : z_11[100]? = some (.ref qf100) := (hre_11 100 (by decide) (by decide)).trans (hfk_10_100)
              have hfk_11_102 : z_11[102]? = some (.ref qf102) := (hre_11 102 (by decide) (by decide)).trans (hfk_10_102)
              have hfk_11_104 : z_11[104]? = some (.ref qf104) := (hre_11 104 (by decide) (by decide)).trans (hfk_10_104)
              have hfk_11_105 : z_11[105]? = some (.ref qf105) := (hre_11 105 (by decide) (by decide)).trans (hfk_10_105)
              have hfk_11_110 : z_11[110]? = some (.ref qf110) := (hre_11 110 (by decide) (by decide)).trans (hfk_10_110)
              have hfk_11_111 : z_11[111]? = some (.ref qf111) := (hre_11 111 (by decide) (by decide)).trans (hfk_10_111)
              have hfk_11_118 : z_11[118]? = some (.ref qf118) := (hre_11 118 (by decide) (by decide)).trans (hfk_10_118)
              have hfk_11_119 : z_11[119]? = some (.ref qf119) := (hre_11 119 (by decide) (by decide)).trans (hfk_10_119)
              have hfk_11_127 : z_11[127]? = some (.ref qf127) := (hre_11 127 (by decide) (by decide)).trans (hfk_10_127)
              have hfk_11_132 : z_11[132]? = some (.int v132) := (hre_11 132 (by decide) (by decide)).trans (hfk_10_132)
              have hfk_11_133 : z_11[133]? = some (.int v133) := (hre_11 133 (by decide) (by decide)).trans (hfk_10_133)
              have hrq_11 : ∀ j : Nat, j ≠ 117 → j ≠ 120 → z_11[j]? = zs[j]? := fun j g117 g120 => (hre_11 j g117 g120).trans (hrq_10 j g117 g120)
              obtain rfl := hwa_11
              obtain ⟨u12_0, hu_12, hsp⟩ := ox_bind hsp
              try dsimp only at hsp
              have hPc := hP.sub (ws' := [(h0, .inr (13, z_11)), (qf105, .inl (cf105, 8, .inl f105)), (qf102, .inl (cf102, 2048, .inl f102)), (qf100, .inl (cf100, 48000, .inl f100)), (qf104, .inl (cf104, 8, .inl f104))]) [4, 3, 6, 5, 7] rfl
              have hDc := hD.sub (ws' := [(h0, .inr (13, z_11)), (qf105, .inl (cf105, 8, .inl f105)), (qf102, .inl (cf102, 2048, .inl f102)), (qf100, .inl (cf100, 48000, .inl f100)), (qf104, .inl (cf104, 8, .inl f104))]) [4, 3, 6, 5, 7] (by decide) rfl
              have hKc := hK.sub (tys' := [(cf105, .int), (cf102, .int), (cf100, .int), (cf104, .int)]) [3, 5, 4, 6] rfl
              have hFc := va_free (wc := [(h0, .inr (13, z_11)), (qf105, .inl (cf105, 8, .inl f105)), (qf102, .inl (cf102, 2048, .inl f102)), (qf100, .inl (cf100, 48000, .inl f100)), (qf104, .inl (cf104, 8, .inl f104))]) hD hS hA [4, 3, 6, 5, 7] rfl
              refine va_calli (va_runV (As := [.int u10_0, .int u11_0]) (rest := []) ⟨hx, hb, hml, hown, hts⟩ (vm_goes l dC dI H.size h0 z_11 u10_0 u11_0 v98 qf100 qf102 qf104 qf105 cf105 f105 cf102 f102 cf100 f100 cf104 f104 nS477 fS477 hS477 qS477 tS477 nf u12_0 hln_11 hfk_11_98 hfk_11_100 hfk_11_102 hfk_11_104 hfk_11_105 hu_12) (cwV 2 hts gv_h9_110 rfl rfl rfl (by decide +kernel) ⟨Nat.le_of_ble_eq_true rfl, Nat.le_of_ble_eq_true rfl⟩) ⟨fun a U g mk q => by obtain ⟨q0, q1, qP, qK, qD, qhZWS477, qhZRS477⟩ := q; exact ⟨q0, q1, qP, va_K.moved (u := U) (U := U.calling g mk a) (Vm.Alike.refl U.vm) qK, qD, pz_W.moved (u := U) (U := U.calling g mk a) (Vm.Alike.refl U.vm) qhZWS477, vk_R.same rfl qhZRS477⟩, va_recv hKc hPc (ci := 13) (q0 := 0) rfl rfl, fun U hU hW => ⟨rfl, by rw [hU], by rw [hU]; exact hPc, va_K.moved hW.alike hKc, hDc.weaken (fun _ _ _ _ => trivial), by rw [hU]; exact ((pz_W.moved hW.alike hZWS477).kept hS.2.1).narrow hFc, vk_R.warm hW hZRS477⟩⟩ rfl rfl hl.1 rfl (lv_room (Nat.le_of_ble_eq_true rfl)) dX13_handled_147 ⟨Nat.le_of_ble_eq_true rfl, Nat.le_of_ble_eq_true rfl⟩) hS (fun q _ h => hFc q h) hFc ?_
              clear hS
              intro r_19 u t H1 locs ht hvm hw hB hz1 hk1 hS
              obtain ⟨z_12, rfl⟩ : ∃ z, z = u := ⟨_, rfl⟩
              obtain ⟨hP1, hK1, hD1⟩ := hB
              rw [ht] at hP1
              have hK1 := va_K.moved hvm.symm hK1
              try dsimp only at hw
              have hPD := va_join (wr := [(qf110, .inl (cf110, 96, .inl f110)), (qf111, .inl (cf111, 96, .inl f111)), (qf127, .inl (cf127, 30, .inl f127)), (qf118, .inl (cf118, 2100, .inl g911_1)), (qf119, .inl (cf119, 2100, .inl g911_2))]) (w1 := [(h0, .inr (13, z_12)), (qf105, .inl (cf105, 8, .inl f105)), (qf102, .inl (cf102, 2048, .inl f102)), (qf100, .inl (cf100, 48000, .inl f100)), (qf104, .inl (cf104, 8, .inl f104))]) hP hD [4, 3, 6, 5, 7] [0, 1, 2, 8, 9] rfl rfl (by decide) (by decide) hk1 hFc hP1 hD1
              clear hP hD
              obtain ⟨hP, hD⟩ := hPD
              replace hK := (hK.sub (tys' := [(cf110, .int), (cf111, .int), (cf127, .int), (cf118, .int), (cf119, .int)]) [0, 1, 2, 7, 8] rfl).app hK1
              clear hPc hDc hKc hFc hP1 hK1 hD1 hz1 hk1 ht hvm
              generalize H1 = H at hP hS ⊢
              replace hP : va_P (dC, dI) vwCl [(qf110, .inl (cf110, 96, .inl f110)), (qf111, .inl (cf111, 96, .inl f111)), (qf127, .inl (cf127, 30, .inl f127)), (qf118, .inl (cf118, 2100, .inl g911_1)), (qf119, .inl (cf119, 2100, .inl g911_2)), (h0, .inr (13, z_12)), (qf105, .inl (cf105, 8, .inl f105)), (qf102, .inl (cf102, 2048, .inl f102)), (qf100, .inl (cf100, 48000, .inl f100)), (qf104, .inl (cf104, 8, .inl f104))] H := hP
              replace hD : va_D A [(qf110, .inl (cf110, 96, .inl f110)), (qf111, .inl (cf111, 96, .inl f111)), (qf127, .inl (cf127, 30, .inl f127)), (qf118, .inl (cf118, 2100, .inl g911_1)), (qf119, .inl (cf119, 2100, .inl g911_2)), (h0, .inr (13, z_12)), (qf105, .inl (cf105, 8, .inl f105)), (qf102, .inl (cf102, 2048, .inl f102)), (qf100, .inl (cf100, 48000, .inl f100)), (qf104, .inl (cf104, 8, .inl f104))] := hD
              replace hK : va_K (dC, dI) vwCl [(cf110, .int), (cf111, .int), (cf127, .int), (cf118, .int), (cf119, .int), (cf105, .int), (cf102, .int), (cf100, .int), (cf104, .int)] s := hK
              obtain ⟨hwa_12, hln_12, hre_12⟩ := hw
              have hfk_12_98 : z_12[98]? = some (.int v98) := (hre_12 98 ).trans (hfk_11_98)
              have hfk_12_100 : z_12[100]? = some (.ref qf100) := (hre_12 100 ).trans (hfk_11_100)
              have hfk_12_102 : z_12[102]? = some (.ref qf102) := (hre_12 102 ).trans (hfk_11_102)
              have hfk_12_104 : z_12[104]? = some (.ref qf104) := (hre_12 104 ).trans (hfk_11_104)
              have hfk_12_105 : z_12[105]? = some (.ref qf105) := (hre_12 105 ).trans (hfk_11_105)
              have hfk_12_110 : z_12[110]? = some (.ref qf110) := (hre_12 110 ).trans (hfk_11_110)
              have hfk_12_111 : z_12[111]? = some (.ref qf111) := (hre_12 111 ).trans (hfk_11_111)
              have hfk_12_117 : z_12[117]? = some (.int u11_3) := (hre_12 117 ).trans (hch_11_117)
              have hfk_12_118 : z_12[118]? = some (.ref qf118) := (hre_12 118 ).trans (hfk_11_118)
              have hfk_12_119 : z_12[119]? = some (.ref qf119) := (hre_12 119 ).trans (hfk_11_119)
              have hfk_12_120 : z_12[120]? = some (.int u11_4) := (hre_12 120 ).trans (hch_11_120)
              have hfk_12_127 : z_12[127]? = some (.ref qf127) := (hre_12 127 ).trans (hfk_11_127)
              have hfk_12_132 : z_12[132]? = some (.int v132) := (hre_12 132 ).trans (hfk_11_132)
              have hfk_12_133 : z_12[133]? = some (.int v133) := (hre_12 133 ).trans (hfk_11_133)
              have hrq_12 : ∀ j : Nat, j ≠ 117 → j ≠ 120 → z_12[j]? = zs[j]? := fun j g117 g120 => (hre_12 j ).trans (hrq_11 j g117 g120)
              obtain ⟨rfl, hz_12⟩ := hwa_12
              rcases hz_12 with rfl | rfl
              · rw [if_pos rfl] at hsp
                refine lv_if_ne (tgt := 155) hx hb dX13_handled_150 (by decide) (fun c_20 => (show False by revert c_20; decide).elim) (fun c_20 => ?_)
                refine lv_iconst (v := 0) hx hb dX13_handled_153 (by decide) ?_
                have hr0 := Option.some.inj hsp
                clear hsp
                obtain ⟨hq0, hr1⟩ := Prod.mk.inj hr0
                clear hr0
                obtain ⟨hq1, hr2⟩ := Prod.mk.inj hr1
                clear hr1
                obtain ⟨hq2, hr3⟩ := Prod.mk.inj hr2
                clear hr2
                obtain ⟨hq3, hr4⟩ := Prod.mk.inj hr3
                clear hr3
                subst hq0
                subst hq1
                subst hq2
                subst hq3
                subst hr4
                have hP9 := hP.sub (ws' := [(h0, .inr (13, z_12)), (qf110, .inl (cf110, 96, .inl f110)), (qf100, .inl (cf100, 48000, .inl f100)), (qf111, .inl (cf111, 96, .inl f111)), (qf127, .inl (cf127, 30, .inl f127)), (qf102, .inl (cf102, 2048, .inl f102)), (qf104, .inl (cf104, 8, .inl f104)), (qf118, .inl (cf118, 2100, .inl g911_1)), (qf119, .inl (cf119, 2100, .inl g911_2)), (qf105, .inl (cf105, 8, .inl f105))]) [5, 0, 8, 1, 2, 7, 9, 3, 4, 6] rfl
                have hD9 := hD.sub (ws' := [(h0, .inr (13, z_12)), (qf110, .inl (cf110, 96, .inl f110)), (qf100, .inl (cf100, 48000, .inl f100)), (qf111, .inl (cf111, 96, .inl f111)), (qf127, .inl (cf127, 30, .inl f127)), (qf102, .inl (cf102, 2048, .inl f102)), (qf104, .inl (cf104, 8, .inl f104)), (qf118, .inl (cf118, 2100, .inl g911_1)), (qf119, .inl (cf119, 2100, .inl g911_2)), (qf105, .inl (cf105, 8, .inl f105))]) [5, 0, 8, 1, 2, 7, 9, 3, 4, 6] (by decide) rfl
                have hK9 := hK.sub (tys' := [(cf110, .int), (cf100, .int), (cf111, .int), (cf127, .int), (cf102, .int), (cf104, .int), (cf118, .int), (cf119, .int), (cf105, .int)]) [0, 7, 1, 2, 6, 8, 3, 4, 5] rfl
                exact W.zret hx hb hr (by decide) (fun t ht hW => ⟨⟨(0), (z_12), rfl, ⟨⟨rfl, Or.inl rfl⟩, hln_12, hrq_12, hfk_12_117, hfk_12_120⟩, by rw [ht]; exact hP9, va_K.moved hW.alike hK9, hD9⟩, hS.F ht⟩) hS.2.2 dX13_handled_154
              · rw [if_neg (by decide)] at hsp
                refine lv_if_ne (tgt := 155) hx hb dX13_handled_150 (by decide) (fun c_21 => ?_) (fun c_21 => (show False by revert c_21; decide).elim)
                refine lv_iinc (v := (l3_20 + 1)) (lv' := [(3, .int (l3_20 + 1)), (6, .int u7_0), (5, .int u5_0), (4, .int ((l2_20 + 1) + (7 * l3_20))), (2, .int l2_20), (0, .ref h0), (1, .int l1_20)]) hx hb dX13_handled_155 hl (k := 3) rfl rfl (by decide) rfl (fun ls hl => ?_)
                refine lv_goto (tgt := 20) hx hb dX13_handled_158 (by decide) ?_
                exact ih_20 H locs ls z_12 l1_20 l2_20 (l3_20 + 1) g911_1 g911_2 u11_3 u11_4 (hfk_12_98) (hfk_12_100) (hfk_12_102) (hfk_12_104) (hfk_12_105) (hfk_12_110) (hfk_12_111) (hfk_12_117) (hfk_12_118) (hfk_12_119) (hfk_12_120) (hfk_12_127) (hfk_12_132) (hfk_12_133) hln_12 hrq_12 (lv_sub hl [0, 4, 5, 6] rfl) hS (hD.sub (ws' := [(h0, .inr (13, z_12)), (qf110, .inl (cf110, 96, .inl f110)), (qf100, .inl (cf100, 48000, .inl f100)), (qf111, .inl (cf111, 96, .inl f111)), (qf127, .inl (cf127, 30, .inl f127)), (qf102, .inl (cf102, 2048, .inl f102)), (qf104, .inl (cf104, 8, .inl f104)), (qf118, .inl (cf118, 2100, .inl g911_1)), (qf119, .inl (cf119, 2100, .inl g911_2)), (qf105, .inl (cf105, 8, .inl f105))]) [5, 0, 8, 1, 2, 7, 9, 3, 4, 6] (by decide) rfl) (hP.sub (ws' := [(h0, .inr (13, z_12)), (qf110, .inl (cf110, 96, .inl f110)), (qf100, .inl (cf100, 48000, .inl f100)), (qf111, .inl (cf111, 96, .inl f111)), (qf127, .inl (cf127, 30, .inl f127)), (qf102, .inl (cf102, 2048, .inl f102)), (qf104, .inl (cf104, 8, .inl f104)), (qf118, .inl (cf118, 2100, .inl g911_1)), (qf119, .inl (cf119, 2100, .inl g911_2)), (qf105, .inl (cf105, 8, .inl f105))]) [5, 0, 8, 1, 2, 7, 9, 3, 4, 6] rfl) hsp
        · rw [if_neg c_7] at hsp
          refine lv_goto (tgt := 155) hx hb dX13_handled_65 (by decide) ?_
          refine lv_iinc (v := (l3_20 + 1)) (lv' := [(3, .int (l3_20 + 1)), (4, .int ((l2_20 + 1) + (7 * l3_20))), (2, .int l2_20), (0, .ref h0), (1, .int l1_20)]) hx hb dX13_handled_155 hl (k := 1) rfl rfl (by decide) rfl (fun ls hl => ?_)
          refine lv_goto (tgt := 20) hx hb dX13_handled_158 (by decide) ?_
          exact ih_20 H locs ls z_3 l1_20 l2_20 (l3_20 + 1) g118_20 g119_20 x117_20 x120_20 (hfk_3_98) (hfk_3_100) (hfk_3_102) (hfk_3_104) (hfk_3_105) (hfk_3_110) (hfk_3_111) (hfk_3_117) (hfk_3_118) (hfk_3_119) (hfk_3_120) (hfk_3_127) (hfk_3_132) (hfk_3_133) hln_3 hrq_3 (lv_sub hl [0, 2, 3, 4] rfl) hS (hD.sub (ws' := [(h0, .inr (13, z_3)), (qf110, .inl (cf110, 96, .inl f110)), (qf100, .inl (cf100, 48000, .inl f100)), (qf111, .inl (cf111, 96, .inl f111)), (qf127, .inl (cf127, 30, .inl f127)), (qf102, .inl (cf102, 2048, .inl f102)), (qf104, .inl (cf104, 8, .inl f104)), (qf118, .inl (cf118, 2100, .inl g118_20)), (qf119, .inl (cf119, 2100, .inl g119_20)), (qf105, .inl (cf105, 8, .inl f105))]) [8, 0, 9, 1, 2, 3, 4, 5, 6, 7] (by decide) rfl) (hP.sub (ws' := [(h0, .inr (13, z_3)), (qf110, .inl (cf110, 96, .inl f110)), (qf100, .inl (cf100, 48000, .inl f100)), (qf111, .inl (cf111, 96, .inl f111)), (qf127, .inl (cf127, 30, .inl f127)), (qf102, .inl (cf102, 2048, .inl f102)), (qf104, .inl (cf104, 8, .inl f104)), (qf118, .inl (cf118, 2100, .inl g118_20)), (qf119, .inl (cf119, 2100, .inl g119_20)), (qf105, .inl (cf105, 8, .inl f105))]) [8, 0, 9, 1, 2, 3, 4, 5, 6, 7] rfl) hsp
def jn_vm_right_131 (nf : Nat) (a1 : Int32) (v98 : Int32) (v117 : Int32) (v120 : Int32) (v121 : Int32) (v132 : Int32) (v134 : Int32) (f100 : Nat → Int32) (f103 : Nat → Int32) (f102 : Nat → Int32) (f104 : Nat → Int32) (f118 : Nat → Int32) (f119 : Nat → Int32) (f105 : Nat → Int32) (f106 : Nat → Int32) (f108 : Nat → Int32) (f107 : Nat → Int32) (f109 : Nat → Int32) (nS477 : Nat) (fS477 : Nat → Int32)  (l3_131 : Int32) (g118_131 : Nat → Int32) (g119_131 : Nat → Int32) (x117_131 : Int32) (x120_131 : Int32) (x121_131 : Int32) : Option (Int32 × (Nat → Int32) × (Nat → Int32) × Int32 × Int32 × Int32) := ((sp_tm_sortOf nf l3_131 v132 f103 f102 f100).bind (fun p1 => (if p1 = 3 then ((sp_vm_typeOfClass nf v132 l3_131 v98 x117_131 x120_131 f102 f100 f104 g118_131 g119_131 nS477 fS477).bind (fun p2 => ((sp_tm_isThere nf p2.1).bind (fun p3 => (if p3 = 0 then (some (0, p2.2.1, p2.2.2.1, p2.2.2.2.1, p2.2.2.2.2, x121_131)) else ((sp_tm_isRow nf p2.1).bind (fun p4 => (if p4 = 0 then (some (1, p2.2.1, p2.2.2.1, p2.2.2.2.1, p2.2.2.2.2, x121_131)) else (some (0, p2.2.1, p2.2.2.1, p2.2.2.2.1, p2.2.2.2.2, x121_131)))))))))) else (some (0, g118_131, g119_131, x117_131, x120_131, x121_131)))))
def jn_vm_right_244 (nf : Nat) (a1 : Int32) (v98 : Int32) (v117 : Int32) (v120 : Int32) (v121 : Int32) (v132 : Int32) (v134 : Int32) (f100 : Nat → Int32) (f103 : Nat → Int32) (f102 : Nat → Int32) (f104 : Nat → Int32) (f118 : Nat → Int32) (f119 : Nat → Int32) (f105 : Nat → Int32) (f106 : Nat → Int32) (f108 : Nat → Int32) (f107 : Nat → Int32) (f109 : Nat → Int32) (nS477 : Nat) (fS477 : Nat → Int32)  (l2_244 : Int32) (l3_244 : Int32) (l5_244 : Int32) (s0_244 : Int32) (g118_244 : Nat → Int32) (g119_244 : Nat → Int32) (x117_244 : Int32) (x120_244 : Int32) (x121_244 : Int32) : Option (Int32 × (Nat → Int32) × (Nat → Int32) × Int32 × Int32 × Int32) := ((sp_tm_partOf nf l3_244 1 v132 f102 f100).bind (fun p1 => ((sp_vm_holder nf ((l5_244 - 4) / 2) v132 p1 s0_244 v98 x121_244 f105 f102 f100 f104 f106 f108 f107 f109 nS477 fS477).bind (fun p2 => (if p2.1 = (-1) then (some (0, g118_244, g119_244, x117_244, x120_244, p2.2)) else ((sp_tm_kindText nf (p2.1 - 8) p2.2 s0_244 f107 f100 f109).bind (fun p3 => ((sp_tm_partOf nf l3_244 2 v132 f102 f100).bind (fun p4 => ((sp_vm_sameText nf (p2.1 - 8) p3 v132 p4 f102 f100).bind (fun p5 => (if p5 = 0 then (some (0, g118_244, g119_244, x117_244, x120_244, p2.2)) else (if s0_244 = 0 then (some (1, g118_244, g119_244, x117_244, x120_244, p2.2)) else (if ((12 * (p2.1 - 8)) + p2.2) < 0 then none else if 96 ≤ (((12 * (p2.1 - 8)) + p2.2) : Int32).toNatClampNeg then none else ((sp_tm_byteAt nf (p2.1 - 8) (f109 (((12 * (p2.1 - 8)) + p2.2) : Int32).toNatClampNeg) f100).bind (fun p6 => (if l2_244 = 184 then (if p6 = 1 then (some (1, g118_244, g119_244, x117_244, x120_244, p2.2)) else (some (0, g118_244, g119_244, x117_244, x120_244, p2.2))) else (if p6 = 0 then (some (1, g118_244, g119_244, x117_244, x120_244, p2.2)) else (some (0, g118_244, g119_244, x117_244, x120_244, p2.2))))))))))))))))))))
def jn_vm_right_187 (nf : Nat) (a1 : Int32) (v98 : Int32) (v117 : Int32) (v120 : Int32) (v121 : Int32) (v132 : Int32) (v134 : Int32) (f100 : Nat → Int32) (f103 : Nat → Int32) (f102 : Nat → Int32) (f104 : Nat → Int32) (f118 : Nat → Int32) (f119 : Nat → Int32) (f105 : Nat → Int32) (f106 : Nat → Int32) (f108 : Nat → Int32) (f107 : Nat → Int32) (f109 : Nat → Int32) (nS477 : Nat) (fS477 : Nat → Int32)  (l2_187 : Int32) (l3_187 : Int32) (g118_187 : Nat → Int32) (g119_187 : Nat → Int32) (x117_187 : Int32) (x120_187 : Int32) (x121_187 : Int32) : Option (Int32 × (Nat → Int32) × (Nat → Int32) × Int32 × Int32 × Int32) := ((sp_tm_sortOf nf l3_187 v132 f103 f102 f100).bind (fun p1 => (if p1 = 4 then ((sp_tm_partOf nf l3_187 0 v132 f102 f100).bind (fun p2 => ((sp_vm_typeOfClass nf v132 p2 v98 x117_187 x120_187 f102 f100 f104 g118_187 g119_187 nS477 fS477).bind (fun p3 => ((sp_tm_isRow nf p3.1).bind (fun p4 => (if p4 = 0 then ((sp_tm_isThere nf p3.1).bind (fun p5 => (if p5 = 0 then (some (0, p3.2.1, p3.2.2.1, p3.2.2.2.1, p3.2.2.2.2, x121_187)) else (if l2_187 ≤ 181 then (jn_vm_right_244 nf a1 v98 v117 v120 v121 v132 v134 f100 f103 f102 f104 f118 f119 f105 f106 f108 f107 f109 nS477 fS477  l2_187 l3_187 p3.1 0 p3.2.1 p3.2.2.1 p3.2.2.2.1 p3.2.2.2.2 x121_187) else (jn_vm_right_244 nf a1 v98 v117 v120 v121 v132 v134 f100 f103 f102 f104 f118 f119 f105 f106 f108 f107 f109 nS477 fS477  l2_187 l3_187 p3.1 1 p3.2.1 p3.2.2.1 p3.2.2.2.1 p3.2.2.2.2 x121_187))))) else (some (0, p3.2.1, p3.2.2.1, p3.2.2.2.1, p3.2.2.2.2, x121_187))))))))) else (some (0, g118_187, g119_187, x117_187, x120_187, x121_187)))))
def jn_vm_right_25 (nf : Nat) (a1 : Int32) (v98 : Int32) (v117 : Int32) (v120 : Int32) (v121 : Int32) (v132 : Int32) (v134 : Int32) (f100 : Nat → Int32) (f103 : Nat → Int32) (f102 : Nat → Int32) (f104 : Nat → Int32) (f118 : Nat → Int32) (f119 : Nat → Int32) (f105 : Nat → Int32) (f106 : Nat → Int32) (f108 : Nat → Int32) (f107 : Nat → Int32) (f109 : Nat → Int32) (nS477 : Nat) (fS477 : Nat → Int32)  (l2_25 : Int32) (s0_25 : Int32) (g118_25 : Nat → Int32) (g119_25 : Nat → Int32) (x117_25 : Int32) (x120_25 : Int32) (x121_25 : Int32) : Option (Int32 × (Nat → Int32) × (Nat → Int32) × Int32 × Int32 × Int32) := (if l2_25 = 18 then ((sp_tm_sortOf nf s0_25 v132 f103 f102 f100).bind (fun p1 => (if p1 = 2 then (some (1, g118_25, g119_25, x117_25, x120_25, x121_25)) else (some (0, g118_25, g119_25, x117_25, x120_25, x121_25))))) else (if l2_25 = 180 then (jn_vm_right_187 nf a1 v98 v117 v120 v121 v132 v134 f100 f103 f102 f104 f118 f119 f105 f106 f108 f107 f109 nS477 fS477  l2_25 s0_25 g118_25 g119_25 x117_25 x120_25 x121_25) else (if l2_25 = 181 then (jn_vm_right_187 nf a1 v98 v117 v120 v121 v132 v134 f100 f103 f102 f104 f118 f119 f105 f106 f108 f107 f109 nS477 fS477  l2_25 s0_25 g118_25 g119_25 x117_25 x120_25 x121_25) else (if l2_25 = 182 then (jn_vm_right_187 nf a1 v98 v117 v120 v121 v132 v134 f100 f103 f102 f104 f118 f119 f105 f106 f108 f107 f109 nS477 fS477  l2_25 s0_25 g118_25 g119_25 x117_25 x120_25 x121_25) else (if l2_25 = 184 then (jn_vm_right_187 nf a1 v98 v117 v120 v121 v132 v134 f100 f103 f102 f104 f118 f119 f105 f106 f108 f107 f109 nS477 fS477  l2_25 s0_25 g118_25 g119_25 x117_25 x120_25 x121_25) else (if l2_25 = 187 then (jn_vm_right_131 nf a1 v98 v117 v120 v121 v132 v134 f100 f103 f102 f104 f118 f119 f105 f106 f108 f107 f109 nS477 fS477  s0_25 g118_25 g119_25 x117_25 x120_25 x121_25) else (if l2_25 = 188 then (if s0_25 = 10 then (some (1, g118_25, g119_25, x117_25, x120_25, x121_25)) else (some (0, g118_25, g119_25, x117_25, x120_25, x121_25))) else (if l2_25 = 189 then (jn_vm_right_131 nf a1 v98 v117 v120 v121 v132 v134 f100 f103 f102 f104 f118 f119 f105 f106 f108 f107 f109 nS477 fS477  s0_25 g118_25 g119_25 x117_25 x120_25 x121_25) else (if l2_25 = 192 then (jn_vm_right_131 nf a1 v98 v117 v120 v121 v132 v134 f100 f103 f102 f104 f118 f119 f105 f106 f108 f107 f109 nS477 fS477  s0_25 g118_25 g119_25 x117_25 x120_25 x121_25) else (if l2_25 = 193 then (jn_vm_right_131 nf a1 v98 v117 v120 v121 v132 v134 f100 f103 f102 f104 f118 f119 f105 f106 f108 f107 f109 nS477 fS477  s0_25 g118_25 g119_25 x117_25 x120_25 x121_25) else (some (1, g118_25, g119_25, x117_25, x120_25, x121_25))))))))))))
def sp_vm_right (nf : Nat) (a1 : Int32) (v98 : Int32) (v117 : Int32) (v120 : Int32) (v121 : Int32) (v132 : Int32) (v134 : Int32) (f100 : Nat → Int32) (f103 : Nat → Int32) (f102 : Nat → Int32) (f104 : Nat → Int32) (f118 : Nat → Int32) (f119 : Nat → Int32) (f105 : Nat → Int32) (f106 : Nat → Int32) (f108 : Nat → Int32) (f107 : Nat → Int32) (f109 : Nat → Int32) (nS477 : Nat) (fS477 : Nat → Int32) : Option (Int32 × (Nat → Int32) × (Nat → Int32) × Int32 × Int32 × Int32) := ((sp_tm_code nf a1 v132 v134 f100).bind (fun p1 => ((sp_tm_widthOf nf p1).bind (fun p2 => (if p2 = 2 then ((sp_tm_code nf (a1 + 1) v132 v134 f100).bind (fun p3 => (jn_vm_right_25 nf a1 v98 v117 v120 v121 v132 v134 f100 f103 f102 f104 f118 f119 f105 f106 f108 f107 f109 nS477 fS477  p1 p3 f118 f119 v117 v120 v121))) else (jn_vm_right_25 nf a1 v98 v117 v120 v121 v132 v134 f100 f103 f102 f104 f118 f119 f105 f106 f108 f107 f109 nS477 fS477  p1 0 f118 f119 v117 v120 v121))))))

set_option maxHeartbeats 4000000 in
set_option maxRecDepth 100000 in
/-- ClassMillModel.becomes -/
theorem vm_becomes (l : Launch) (dC : Nat → ClassId) (dI : Nat → Nat → Nat) (sz : Nat) (h0 : Nat) (zs : (List Value)) (a1 : Int32) (v98 : Int32) (qf100 : Nat) (qf102 : Nat) (qf104 : Nat) (v117 : Int32) (qf118 : Nat) (qf119 : Nat) (v120 : Int32) (qf127 : Nat) (qf128 : Nat) (v129 : Int32) (v131 : Int32) (v132 : Int32) (cf100 : ClassId) (f100 : (Nat → Int32)) (cf102 : ClassId) (f102 : (Nat → Int32)) (cf104 : ClassId) (f104 : (Nat → Int32)) (cf118 : ClassId) (f118 : (Nat → Int32)) (cf119 : ClassId) (f119 : (Nat → Int32)) (cf128 : ClassId) (f128 : (Nat → Int32)) (cf127 : ClassId) (f127 : (Nat → Int32)) (nS477 : Nat) (fS477 : (Nat → Int32)) (hS477 : Nat) (qS477 : Nat) (tS477 : String) (nf : Nat) (o118 : (Nat → Int32)) (o119 : (Nat → Int32)) (o127 : (Nat → Int32)) (o128 : (Nat → Int32)) (w117 : Int32) (w120 : Int32) (w131 : Int32) (hlen : zs.length = 155) (hf98 : zs[98]? = some (.int v98)) (hf100 : zs[100]? = some (.ref qf100)) (hf102 : zs[102]? = some (.ref qf102)) (hf104 : zs[104]? = some (.ref qf104)) (hf117 : zs[117]? = some (.int v117)) (hf118 : zs[118]? = some (.ref qf118)) (hf119 : zs[119]? = some (.ref qf119)) (hf120 : zs[120]? = some (.int v120)) (hf127 : zs[127]? = some (.ref qf127)) (hf128 : zs[128]? = some (.ref qf128)) (hf129 : zs[129]? = some (.int v129)) (hf131 : zs[131]? = some (.int v131)) (hf132 : zs[132]? = some (.int v132)) (hsp : sp_vm_becomes nf a1 v98 v117 v120 v129 v131 v132 f100 f102 f104 f118 f119 f128 f127 nS477 fS477 = some (o118, o119, o127, o128, w117, w120, w131)) : Met l yX13_becomes (.code yX13_becomes cX13_becomes 5 none :: VS_h9) ({ frames := 10, cells := 0, slots := 0, locals := 232 }) (va_Pc [.ref h0, .int a1] (fun U => U.heap.size = sz ∧ va_P (dC, dI) vwCl [(h0, .inr (13, zs)), (qf100, .inl (cf100, 48000, .inl f100)), (qf102, .inl (cf102, 2048, .inl f102)), (qf104, .inl (cf104, 8, .inl f104)), (qf118, .inl (cf118, 2100, .inl f118)), (qf119, .inl (cf119, 2100, .inl f119)), (qf128, .inl (cf128, 31, .inl f128)), (qf127, .inl (cf127, 30, .inl f127))] U.heap ∧ va_K (dC, dI) vwCl [(cf100, .int), (cf102, .int), (cf104, .int), (cf118, .int), (cf119, .int), (cf128, .int), (cf127, .int)] U ∧ va_D (fun _ => True) [(h0, .inr (13, zs)), (qf100, .inl (cf100, 48000, .inl f100)), (qf102, .inl (cf102, 2048, .inl f102)), (qf104, .inl (cf104, 8, .inl f104)), (qf118, .inl (cf118, 2100, .inl f118)), (qf119, .inl (cf119, 2100, .inl f119)), (qf128, .inl (cf128, 31, .inl f128)), (qf127, .inl (cf127, 30, .inl f127))] ∧ pz_W nS477 fS477 hS477 qS477 (va_A [(h0, .inr (13, zs)), (qf100, .inl (cf100, 48000, .inl f100)), (qf102, .inl (cf102, 2048, .inl f102)), (qf104, .inl (cf104, 8, .inl f104)), (qf118, .inl (cf118, 2100, .inl f118)), (qf119, .inl (cf119, 2100, .inl f119)), (qf128, .inl (cf128, 31, .inl f128)), (qf127, .inl (cf127, 30, .inl f127))] sz) U U.heap ∧ vk_R RX13 477 tS477 hS477 U)) (va_Qv (fun (u : (List Value)) => match u with | (zo1) => True ∧ zo1.length = 155 ∧ (∀ j : Nat, j ≠ 117 → j ≠ 120 → j ≠ 131 → zo1[j]? = zs[j]?) ∧ zo1[117]? = some (.int w117) ∧ zo1[120]? = some (.int w120) ∧ zo1[131]? = some (.int w131)) (fun (u : (List Value)) (t : State) => match u with | (zo1) => va_P (dC, dI) vwCl [(h0, .inr (13, zo1)), (qf100, .inl (cf100, 48000, .inl f100)), (qf102, .inl (cf102, 2048, .inl f102)), (qf104, .inl (cf104, 8, .inl f104)), (qf118, .inl (cf118, 2100, .inl o118)), (qf119, .inl (cf119, 2100, .inl o119)), (qf128, .inl (cf128, 31, .inl o128)), (qf127, .inl (cf127, 30, .inl o127))] t.heap ∧ va_K (dC, dI) vwCl [(cf100, .int), (cf102, .int), (cf104, .int), (cf118, .int), (cf119, .int), (cf128, .int), (cf127, .int)] t ∧ va_D (va_A [(h0, .inr (13, zs)), (qf100, .inl (cf100, 48000, .inl f100)), (qf102, .inl (cf102, 2048, .inl f102)), (qf104, .inl (cf104, 8, .inl f104)), (qf118, .inl (cf118, 2100, .inl f118)), (qf119, .inl (cf119, 2100, .inl f119)), (qf128, .inl (cf128, 31, .inl f128)), (qf127, .inl (cf127, 30, .inl f127))] sz) [(h0, .inr (13, zo1)), (qf100, .inl (cf100, 48000, .inl f100)), (qf102, .inl (cf102, 2048, .inl f102)), (qf104, .inl (cf104, 8, .inl f104)), (qf118, .inl (cf118, 2100, .inl o118)), (qf119, .inl (cf119, 2100, .inl o119)), (qf128, .inl (cf128, 31, .inl o128)), (qf127, .inl (cf127, 30, .inl o127))]) (va_A [(h0, .inr (13, zs)), (qf100, .inl (cf100, 48000, .inl f100)), (qf102, .inl (cf102, 2048, .inl f102)), (qf104, .inl (cf104, 8, .inl f104)), (qf118, .inl (cf118, 2100, .inl f118)), (qf119, .inl (cf119, 2100, .inl f119)), (qf128, .inl (cf128, 31, .inl f128)), (qf127, .inl (cf127, 30, .inl f127))] sz)) 0 0 (va_A [(h0, .inr (13, zs)), (qf100, .inl (cf100, 48000, .inl f100)), (qf102, .inl (cf102, 2048, .inl f102)), (qf104, .inl (cf104, 8, .inl f104)), (qf118, .inl (cf118, 2100, .inl f118)), (qf119, .inl (cf119, 2100, .inl f119)), (qf128, .inl (cf128, 31, .inl f128)), (qf127, .inl (cf127, 30, .inl f127))] sz) := by
  refine Met.ofW (cc := cX13_becomes) (maxL := 5) (ret := none) (by decide) rfl ?_
  intro p e s m args below meth c s₁ B hml hv
  obtain ⟨rfl, hsz, hP, hK, hD0, hZWS477, hZRS477⟩ := hv
  have hx := B.exec
  have hb := B.bytes
  have hr := B.returns
  have hts := atoms_spec (ws := (.code yX13_becomes cX13_becomes 5 none :: VS_h9)) B.pre
  replace hts := fun w (h : w ∈ VS_h9) => hts w (List.mem_cons_of_mem _ h)
  have hown : s.vm.findClass RX13 = some m.cls := findClass_of_methodNamed B.named
  have hlocks := B.notSynchronized
  subst hsz
  have hD := hD0.self (sz := s.heap.size)
  generalize hAe : va_A [(h0, .inr (13, zs)), (qf100, .inl (cf100, 48000, .inl f100)), (qf102, .inl (cf102, 2048, .inl f102)), (qf104, .inl (cf104, 8, .inl f104)), (qf118, .inl (cf118, 2100, .inl f118)), (qf119, .inl (cf119, 2100, .inl f119)), (qf128, .inl (cf128, 31, .inl f128)), (qf127, .inl (cf127, 30, .inl f127))] s.heap.size = A at hD hZWS477 ⊢
  have hA : ∀ q : Nat, s.heap.size ≤ q → A q := fun q h => by rw [← hAe]; exact Or.inr h
  have hP : va_P (dC, dI) vwCl [(h0, .inr (13, zs)), (qf100, .inl (cf100, 48000, .inl f100)), (qf102, .inl (cf102, 2048, .inl f102)), (qf104, .inl (cf104, 8, .inl f104)), (qf118, .inl (cf118, 2100, .inl f118)), (qf119, .inl (cf119, 2100, .inl f119)), (qf128, .inl (cf128, 31, .inl f128)), (qf127, .inl (cf127, 30, .inl f127))] s.heap := hP
  have hl := lv_entry ([.ref h0, .int a1]) (n := 5) (Nat.le_of_ble_eq_true rfl)
  rw [lg_entry_eq]
  generalize (lg_sl ([.ref h0, .int a1]) ++ List.replicate (5 - (lg_sl ([.ref h0, .int a1])).length) Slot.unset).toArray = ls at hl ⊢
  have hl : lv_has ls 5 [(0, .ref h0), (1, .int a1)] := hl
  obtain ⟨H, hH⟩ : ∃ H : Heap, s.heap = H := ⟨_, rfl⟩
  rw [hH] at hP ⊢
  have hS : va_S A s.heap H [] := by rw [← hH]; exact va_S.rf
  obtain ⟨locs, hlo⟩ : ∃ locs : List Loc, locs = [] := ⟨_, rfl⟩
  rw [← hlo] at hS ⊢
  have hrs0 : ∀ j : Nat, j ≠ 117 → j ≠ 120 → j ≠ 131 → zs[j]? = zs[j]? := fun _ _ _ _  => rfl
  unfold sp_vm_becomes at hsp
  refine lv_iload_n hx hb dX13_becomes_0 rfl (lv_at hl 1 rfl) ?_
  refine lv_iconst (v := 2) hx hb dX13_becomes_1 (by decide) ?_
  refine lv_iadd hx hb dX13_becomes_2 ?_
  refine lv_istore_n (lv' := [(2, .int (a1 + 2)), (0, .ref h0), (1, .int a1)]) hx hb dX13_becomes_3 rfl hl (by decide) rfl (fun ls hl => ?_)
  refine lv_aload_n hx hb dX13_becomes_4 rfl (lv_at hl 1 rfl) ?_
  refine lv_aload_n hx hb dX13_becomes_5 rfl (lv_at hl 1 rfl) ?_
  refine va_get (D := (dC, dI)) (ci := 13) (v := .int v132) (C := RX13) (T := TX13) (N := 155) hx hb hts uV_h9_X13 hown hK hP 0 rfl rfl 132 (by decide) (hts (.fieldLink RX13 932 "ClassMillModel" "inClass" "I") mw_h9_533) (fun _ h9 => h9) hf132 dX13_becomes_6 ?_
  refine lv_iload_n hx hb dX13_becomes_9 rfl (lv_at hl 0 rfl) ?_
  obtain ⟨u1_0, hu_1, hsp⟩ := ox_bind hsp
  try dsimp only at hsp
  have hPc := hP.sub (ws' := [(h0, .inr (13, zs)), (qf100, .inl (cf100, 48000, .inl f100))]) [0, 1] rfl
  have hDc := hD.sub (ws' := [(h0, .inr (13, zs)), (qf100, .inl (cf100, 48000, .inl f100))]) [0, 1] (by decide) rfl
  have hKc := hK.sub (tys' := [(cf100, .int)]) [0] rfl
  have hFc := va_free (wc := [(h0, .inr (13, zs)), (qf100, .inl (cf100, 48000, .inl f100))]) hD hS hA [0, 1] rfl
  refine va_calli (va_runV (As := [.int v132, .int (a1 + 2)]) (rest := []) ⟨hx, hb, hml, hown, hts⟩ (tm_byteAt l dC dI H.size h0 zs v132 ((a1 + 2)) qf100 cf100 f100 nf u1_0 hlen hf100 hu_1) (cwV 2 hts gv_h9_58 rfl rfl rfl (by decide +kernel) ⟨Nat.le_of_ble_eq_true rfl, Nat.le_of_ble_eq_true rfl⟩) ⟨fun a U g mk q => by obtain ⟨q0, q1, qP, qK, qD⟩ := q; exact ⟨q0, q1, qP, va_K.moved (u := U) (U := U.calling g mk a) (Vm.Alike.refl U.vm) qK, qD⟩, va_recv hKc hPc (ci := 13) (q0 := 0) rfl rfl, fun U hU hW => ⟨rfl, by rw [hU], by rw [hU]; exact hPc, va_K.moved hW.alike hKc, hDc.weaken (fun _ _ _ _ => trivial)⟩⟩ rfl rfl hl.1 rfl (lv_room (Nat.le_of_ble_eq_true rfl)) dX13_becomes_10 ⟨Nat.le_of_ble_eq_true rfl, Nat.le_of_ble_eq_true rfl⟩) hS (fun q _ h => hFc q h) hFc ?_
  clear hS
  intro r_1 u t H1 locs ht hvm hw hB hz1 hk1 hS
  obtain ⟨z_1, rfl⟩ : ∃ z, z = u := ⟨_, rfl⟩
  obtain ⟨hP1, hK1, hD1⟩ := hB
  rw [ht] at hP1
  have hK1 := va_K.moved hvm.symm hK1
  try dsimp only at hw
  have hPD := va_join (wr := [(qf102, .inl (cf102, 2048, .inl f102)), (qf104, .inl (cf104, 8, .inl f104)), (qf118, .inl (cf118, 2100, .inl f118)), (qf119, .inl (cf119, 2100, .inl f119)), (qf128, .inl (cf128, 31, .inl f128)), (qf127, .inl (cf127, 30, .inl f127))]) (w1 := [(h0, .inr (13, z_1)), (qf100, .inl (cf100, 48000, .inl f100))]) hP hD [0, 1] [2, 3, 4, 5, 6, 7] rfl rfl (by decide) (by decide) hk1 hFc hP1 hD1
  clear hP hD
  obtain ⟨hP, hD⟩ := hPD
  replace hK := (hK.sub (tys' := [(cf102, .int), (cf104, .int), (cf118, .int), (cf119, .int), (cf128, .int), (cf127, .int)]) [1, 2, 3, 4, 5, 6] rfl).app hK1
  clear hPc hDc hKc hFc hP1 hK1 hD1 hz1 hk1 ht hvm
  generalize H1 = H at hP hS ⊢
  replace hP : va_P (dC, dI) vwCl [(qf102, .inl (cf102, 2048, .inl f102)), (qf104, .inl (cf104, 8, .inl f104)), (qf118, .inl (cf118, 2100, .inl f118)), (qf119, .inl (cf119, 2100, .inl f119)), (qf128, .inl (cf128, 31, .inl f128)), (qf127, .inl (cf127, 30, .inl f127)), (h0, .inr (13, z_1)), (qf100, .inl (cf100, 48000, .inl f100))] H := hP
  replace hD : va_D A [(qf102, .inl (cf102, 2048, .inl f102)), (qf104, .inl (cf104, 8, .inl f104)), (qf118, .inl (cf118, 2100, .inl f118)), (qf119, .inl (cf119, 2100, .inl f119)), (qf128, .inl (cf128, 31, .inl f128)), (qf127, .inl (cf127, 30, .inl f127)), (h0, .inr (13, z_1)), (qf100, .inl (cf100, 48000, .inl f100))] := hD
  replace hK : va_K (dC, dI) vwCl [(cf102, .int), (cf104, .int), (cf118, .int), (cf119, .int), (cf128, .int), (cf127, .int), (cf100, .int)] s := hK
  obtain ⟨hwa_1, hln_1, hre_1⟩ := hw
  have hfk_1_98 : z_1[98]? = some (.int v98) := (hre_1 98 ).trans (hf98)
  have hfk_1_100 : z_1[100]? = some (.ref qf100) := (hre_1 100 ).trans (hf100)
  have hfk_1_102 : z_1[102]? = some (.ref qf102) := (hre_1 102 ).trans (hf102)
  have hfk_1_104 : z_1[104]? = some (.ref qf104) := (hre_1 104 ).trans (hf104)
  have hfk_1_117 : z_1[117]? = some (.int v117) := (hre_1 117 ).trans (hf117)
  have hfk_1_118 : z_1[118]? = some (.ref qf118) := (hre_1 118 ).trans (hf118)
  have hfk_1_119 : z_1[119]? = some (.ref qf119) := (hre_1 119 ).trans (hf119)
  have hfk_1_120 : z_1[120]? = some (.int v120) := (hre_1 120 ).trans (hf120)
  have hfk_1_127 : z_1[127]? = some (.ref qf127) := (hre_1 127 ).trans (hf127)
  have hfk_1_128 : z_1[128]? = some (.ref qf128) := (hre_1 128 ).trans (hf128)
  have hfk_1_129 : z_1[129]? = some (.int v129) := (hre_1 129 ).trans (hf129)
  have hfk_1_131 : z_1[131]? = some (.int v131) := (hre_1 131 ).trans (hf131)
  have hfk_1_132 : z_1[132]? = some (.int v132) := (hre_1 132 ).trans (hf132)
  have hrq_1 : ∀ j : Nat, j ≠ 117 → j ≠ 120 → j ≠ 131 → z_1[j]? = zs[j]? := fun j g117 g120 g131 => (hre_1 j ).trans (hrs0 j g117 g120 g131)
  obtain rfl := hwa_1
  refine lv_istore_n (lv' := [(3, .int u1_0), (2, .int (a1 + 2)), (0, .ref h0), (1, .int a1)]) hx hb dX13_becomes_13 rfl hl (by decide) rfl (fun ls hl => ?_)
  refine lv_iinc (v := ((a1 + 2) + 1)) (lv' := [(2, .int ((a1 + 2) + 1)), (3, .int u1_0), (0, .ref h0), (1, .int a1)]) hx hb dX13_becomes_14 hl (k := 1) rfl rfl (by decide) rfl (fun ls hl => ?_)
  refine lv_iconst (v := 0) hx hb dX13_becomes_17 (by decide) ?_
  refine lv_istore (lv' := [(4, .int 0), (2, .int ((a1 + 2) + 1)), (3, .int u1_0), (0, .ref h0), (1, .int a1)]) hx hb dX13_becomes_18 hl (by decide) rfl (fun ls hl => ?_)
  replace hl : lv_has ls 5 [(4, .int 0), (2, .int ((a1 + 2) + 1)), (3, .int u1_0), (0, .ref h0), (1, .int a1)] := lv_sub hl [0, 1, 2, 3, 4] rfl
  replace hP := hP.sub (ws' := [(h0, .inr (13, z_1)), (qf100, .inl (cf100, 48000, .inl f100)), (qf102, .inl (cf102, 2048, .inl f102)), (qf104, .inl (cf104, 8, .inl f104)), (qf118, .inl (cf118, 2100, .inl f118)), (qf119, .inl (cf119, 2100, .inl f119)), (qf128, .inl (cf128, 31, .inl f128)), (qf127, .inl (cf127, 30, .inl f127))]) [6, 7, 0, 1, 2, 3, 4, 5] rfl
  replace hD := hD.sub (ws' := [(h0, .inr (13, z_1)), (qf100, .inl (cf100, 48000, .inl f100)), (qf102, .inl (cf102, 2048, .inl f102)), (qf104, .inl (cf104, 8, .inl f104)), (qf118, .inl (cf118, 2100, .inl f118)), (qf119, .inl (cf119, 2100, .inl f119)), (qf128, .inl (cf128, 31, .inl f128)), (qf127, .inl (cf127, 30, .inl f127))]) [6, 7, 0, 1, 2, 3, 4, 5] (by decide) rfl
  replace hK := hK.sub (tys' := [(cf100, .int), (cf102, .int), (cf104, .int), (cf118, .int), (cf119, .int), (cf128, .int), (cf127, .int)]) [6, 0, 1, 2, 3, 4, 5] rfl
  obtain ⟨n_20, hn_20⟩ : ∃ z : Nat, z = nf := ⟨_, rfl⟩
  obtain ⟨l1_20, el1_20⟩ : ∃ z : Int32, z = a1 := ⟨_, rfl⟩
  obtain ⟨l2_20, el2_20⟩ : ∃ z : Int32, z = ((a1 + 2) + 1) := ⟨_, rfl⟩
  obtain ⟨l3_20, el3_20⟩ : ∃ z : Int32, z = u1_0 := ⟨_, rfl⟩
  obtain ⟨l4_20, el4_20⟩ : ∃ z : Int32, z = 0 := ⟨_, rfl⟩
  obtain ⟨g118_20, eg118_20⟩ : ∃ z : Nat → Int32, z = f118 := ⟨_, rfl⟩
  obtain ⟨g119_20, eg119_20⟩ : ∃ z : Nat → Int32, z = f119 := ⟨_, rfl⟩
  obtain ⟨g127_20, eg127_20⟩ : ∃ z : Nat → Int32, z = f127 := ⟨_, rfl⟩
  obtain ⟨g128_20, eg128_20⟩ : ∃ z : Nat → Int32, z = f128 := ⟨_, rfl⟩
  obtain ⟨x117_20, ex117_20⟩ : ∃ z : Int32, z = v117 := ⟨_, rfl⟩
  obtain ⟨x120_20, ex120_20⟩ : ∃ z : Int32, z = v120 := ⟨_, rfl⟩
  obtain ⟨x131_20, ex131_20⟩ : ∃ z : Int32, z = v131 := ⟨_, rfl⟩
  replace hsp : lp_vm_becomes_20 nf n_20 a1 v98 v117 v120 v129 v131 v132 f100 f102 f104 f118 f119 f128 f127 nS477 fS477 l1_20 l2_20 l3_20 l4_20 g118_20 g119_20 g127_20 g128_20 x117_20 x120_20 x131_20 = some (o118, o119, o127, o128, w117, w120, w131) := by rw [hn_20, el1_20, el2_20, el3_20, el4_20, eg118_20, eg119_20, eg127_20, eg128_20, ex117_20, ex120_20, ex131_20]; exact hsp
  replace hl : lv_has ls 5 [(4, .int l4_20), (2, .int l2_20), (3, .int l3_20), (0, .ref h0), (1, .int l1_20)] := by rw [el1_20, el2_20, el3_20, el4_20]; exact hl
  obtain ⟨z20, ez20⟩ : ∃ z : List Value, z = z_1 := ⟨_, rfl⟩
  have hfh_20_98 : z20[98]? = some (.int v98) := by rw [ez20]; exact hfk_1_98
  have hfh_20_100 : z20[100]? = some (.ref qf100) := by rw [ez20]; exact hfk_1_100
  have hfh_20_102 : z20[102]? = some (.ref qf102) := by rw [ez20]; exact hfk_1_102
  have hfh_20_104 : z20[104]? = some (.ref qf104) := by rw [ez20]; exact hfk_1_104
  have hfh_20_117 : z20[117]? = some (.int x117_20) := by rw [ez20, ex117_20]; exact hfk_1_117
  have hfh_20_118 : z20[118]? = some (.ref qf118) := by rw [ez20]; exact hfk_1_118
  have hfh_20_119 : z20[119]? = some (.ref qf119) := by rw [ez20]; exact hfk_1_119
  have hfh_20_120 : z20[120]? = some (.int x120_20) := by rw [ez20, ex120_20]; exact hfk_1_120
  have hfh_20_127 : z20[127]? = some (.ref qf127) := by rw [ez20]; exact hfk_1_127
  have hfh_20_128 : z20[128]? = some (.ref qf128) := by rw [ez20]; exact hfk_1_128
  have hfh_20_129 : z20[129]? = some (.int v129) := by rw [ez20]; exact hfk_1_129
  have hfh_20_131 : z20[131]? = some (.int x131_20) := by rw [ez20, ex131_20]; exact hfk_1_131
  have hfh_20_132 : z20[132]? = some (.int v132) := by rw [ez20]; exact hfk_1_132
  have hlh_20 : z20.length = 155 := by rw [ez20]; exact hln_1
  have hrh_20 : ∀ j : Nat, j ≠ 117 → j ≠ 120 → j ≠ 131 → z20[j]? = zs[j]? := by rw [ez20]; exact hrq_1
  replace hP : va_P (dC, dI) vwCl [(h0, .inr (13, z20)), (qf100, .inl (cf100, 48000, .inl f100)), (qf102, .inl (cf102, 2048, .inl f102)), (qf104, .inl (cf104, 8, .inl f104)), (qf118, .inl (cf118, 2100, .inl g118_20)), (qf119, .inl (cf119, 2100, .inl g119_20)), (qf128, .inl (cf128, 31, .inl g128_20)), (qf127, .inl (cf127, 30, .inl g127_20))] H := by rw [ez20, eg118_20, eg119_20, eg127_20, eg128_20]; exact hP
  replace hD : va_D A [(h0, .inr (13, z20)), (qf100, .inl (cf100, 48000, .inl f100)), (qf102, .inl (cf102, 2048, .inl f102)), (qf104, .inl (cf104, 8, .inl f104)), (qf118, .inl (cf118, 2100, .inl g118_20)), (qf119, .inl (cf119, 2100, .inl g119_20)), (qf128, .inl (cf128, 31, .inl g128_20)), (qf127, .inl (cf127, 30, .inl g127_20))] := by rw [ez20, eg118_20, eg119_20, eg127_20, eg128_20]; exact hD
  clear hn_20 ez20 el1_20 el2_20 el3_20 el4_20 eg118_20 eg119_20 eg127_20 eg128_20 ex117_20 ex120_20 ex131_20
  try clear hlo
  try clear hH
  revert hsp
  revert hP
  revert hD
  revert hS
  revert hl
  revert hrh_20
  revert hlh_20
  revert hfh_20_132
  revert hfh_20_131
  revert hfh_20_129
  revert hfh_20_128
  revert hfh_20_127
  revert hfh_20_120
  revert hfh_20_119
  revert hfh_20_118
  revert hfh_20_117
  revert hfh_20_104
  revert hfh_20_102
  revert hfh_20_100
  revert hfh_20_98
  revert x131_20
  revert x120_20
  revert x117_20
  revert g128_20
  revert g127_20
  revert g119_20
  revert g118_20
  revert l4_20
  revert l3_20
  revert l2_20
  revert l1_20
  revert z20
  revert ls
  revert locs
  revert H
  induction n_20 with
  | zero => intro H locs ls z20 l1_20 l2_20 l3_20 l4_20 g118_20 g119_20 g127_20 g128_20 x117_20 x120_20 x131_20 hfh_20_98 hfh_20_100 hfh_20_102 hfh_20_104 hfh_20_117 hfh_20_118 hfh_20_119 hfh_20_120 hfh_20_127 hfh_20_128 hfh_20_129 hfh_20_131 hfh_20_132 hlh_20 hrh_20 hl hS hD hP hsp; unfold lp_vm_becomes_20 at hsp; cases hsp
  | succ n_20 ih_20 =>
    intro H locs ls z20 l1_20 l2_20 l3_20 l4_20 g118_20 g119_20 g127_20 g128_20 x117_20 x120_20 x131_20 hfh_20_98 hfh_20_100 hfh_20_102 hfh_20_104 hfh_20_117 hfh_20_118 hfh_20_119 hfh_20_120 hfh_20_127 hfh_20_128 hfh_20_129 hfh_20_131 hfh_20_132 hlh_20 hrh_20 hl hS hD hP hsp
    unfold lp_vm_becomes_20 at hsp
    try dsimp only at hsp
    refine lv_iload hx hb dX13_becomes_20 (lv_at hl 0 rfl) ?_
    refine lv_aload_n hx hb dX13_becomes_22 rfl (lv_at hl 3 rfl) ?_
    refine va_get (D := (dC, dI)) (ci := 13) (v := .int v129) (C := RX13) (T := TX13) (N := 155) hx hb hts uV_h9_X13 hown hK hP 0 rfl rfl 129 (by decide) (hts (.fieldLink RX13 964 "ClassMillModel" "localMany" "I") mw_h9_545) (fun _ h9 => h9) hfh_20_129 dX13_becomes_23 ?_
    refine lv_icmp_ge (tgt := 85) hx hb dX13_becomes_26 (by decide) (fun c_2 => ?_) (fun c_2 => ?_)
    · rw [if_pos c_2] at hsp
      refine lv_aload_n hx hb dX13_becomes_85 rfl (lv_at hl 3 rfl) ?_
      refine lv_iload_n hx hb dX13_becomes_86 rfl (lv_at hl 4 rfl) ?_
      refine lv_iconst (v := 2) hx hb dX13_becomes_87 (by decide) ?_
      refine lv_iadd hx hb dX13_becomes_88 ?_
      obtain ⟨u2_0, hu_2, hsp⟩ := ox_bind hsp
      try dsimp only at hsp
      have hPc := hP.sub (ws' := [(h0, .inr (13, z20)), (qf100, .inl (cf100, 48000, .inl f100))]) [0, 1] rfl
      have hDc := hD.sub (ws' := [(h0, .inr (13, z20)), (qf100, .inl (cf100, 48000, .inl f100))]) [0, 1] (by decide) rfl
      have hKc := hK.sub (tys' := [(cf100, .int)]) [0] rfl
      have hFc := va_free (wc := [(h0, .inr (13, z20)), (qf100, .inl (cf100, 48000, .inl f100))]) hD hS hA [0, 1] rfl
      refine va_calli (va_runV (As := [.int (l1_20 + 2)]) (rest := []) ⟨hx, hb, hml, hown, hts⟩ (tn_typesEnd l dC dI H.size h0 z20 ((l1_20 + 2)) qf100 v132 cf100 f100 nf u2_0 hlh_20 hfh_20_100 hfh_20_132 hu_2) (cwV 1 hts gv_h9_59 rfl rfl rfl (by decide +kernel) ⟨Nat.le_of_ble_eq_true rfl, Nat.le_of_ble_eq_true rfl⟩) ⟨fun a U g mk q => by obtain ⟨q0, q1, qP, qK, qD⟩ := q; exact ⟨q0, q1, qP, va_K.moved (u := U) (U := U.calling g mk a) (Vm.Alike.refl U.vm) qK, qD⟩, va_recv hKc hPc (ci := 13) (q0 := 0) rfl rfl, fun U hU hW => ⟨rfl, by rw [hU], by rw [hU]; exact hPc, va_K.moved hW.alike hKc, hDc.weaken (fun _ _ _ _ => trivial)⟩⟩ rfl rfl hl.1 rfl (lv_room (Nat.le_of_ble_eq_true rfl)) dX13_becomes_89 ⟨Nat.le_of_ble_eq_true rfl, Nat.le_of_ble_eq_true rfl⟩) hS (fun q _ h => hFc q h) hFc ?_
      clear hS
      intro r_3 u t H1 locs ht hvm hw hB hz1 hk1 hS
      obtain ⟨z_2, rfl⟩ : ∃ z, z = u := ⟨_, rfl⟩
      obtain ⟨hP1, hK1, hD1⟩ := hB
      rw [ht] at hP1
      have hK1 := va_K.moved hvm.symm hK1
      try dsimp only at hw
      have hPD := va_join (wr := [(qf102, .inl (cf102, 2048, .inl f102)), (qf104, .inl (cf104, 8, .inl f104)), (qf118, .inl (cf118, 2100, .inl g118_20)), (qf119, .inl (cf119, 2100, .inl g119_20)), (qf128, .inl (cf128, 31, .inl g128_20)), (qf127, .inl (cf127, 30, .inl g127_20))]) (w1 := [(h0, .inr (13, z_2)), (qf100, .inl (cf100, 48000, .inl f100))]) hP hD [0, 1] [2, 3, 4, 5, 6, 7] rfl rfl (by decide) (by decide) hk1 hFc hP1 hD1
      clear hP hD
      obtain ⟨hP, hD⟩ := hPD
      replace hK := (hK.sub (tys' := [(cf102, .int), (cf104, .int), (cf118, .int), (cf119, .int), (cf128, .int), (cf127, .int)]) [1, 2, 3, 4, 5, 6] rfl).app hK1
      clear hPc hDc hKc hFc hP1 hK1 hD1 hz1 hk1 ht hvm
      generalize H1 = H at hP hS ⊢
      replace hP : va_P (dC, dI) vwCl [(qf102, .inl (cf102, 2048, .inl f102)), (qf104, .inl (cf104, 8, .inl f104)), (qf118, .inl (cf118, 2100, .inl g118_20)), (qf119, .inl (cf119, 2100, .inl g119_20)), (qf128, .inl (cf128, 31, .inl g128_20)), (qf127, .inl (cf127, 30, .inl g127_20)), (h0, .inr (13, z_2)), (qf100, .inl (cf100, 48000, .inl f100))] H := hP
      replace hD : va_D A [(qf102, .inl (cf102, 2048, .inl f102)), (qf104, .inl (cf104, 8, .inl f104)), (qf118, .inl (cf118, 2100, .inl g118_20)), (qf119, .inl (cf119, 2100, .inl g119_20)), (qf128, .inl (cf128, 31, .inl g128_20)), (qf127, .inl (cf127, 30, .inl g127_20)), (h0, .inr (13, z_2)), (qf100, .inl (cf100, 48000, .inl f100))] := hD
      replace hK : va_K (dC, dI) vwCl [(cf102, .int), (cf104, .int), (cf118, .int), (cf119, .int), (cf128, .int), (cf127, .int), (cf100, .int)] s := hK
      obtain ⟨hwa_2, hln_2, hre_2⟩ := hw
      have hfk_2_98 : z_2[98]? = some (.int v98) := (hre_2 98 ).trans (hfh_20_98)
      have hfk_2_100 : z_2[100]? = some (.ref qf100) := (hre_2 100 ).trans (hfh_20_100)
      have hfk_2_102 : z_2[102]? = some (.ref qf102) := (hre_2 102 ).trans (hfh_20_102)
      have hfk_2_104 : z_2[104]? = some (.ref qf104) := (hre_2 104 ).trans (hfh_20_104)
      have hfk_2_117 : z_2[117]? = some (.int x117_20) := (hre_2 117 ).trans (hfh_20_117)
      have hfk_2_118 : z_2[118]? = some (.ref qf118) := (hre_2 118 ).trans (hfh_20_118)
      have hfk_2_119 : z_2[119]? = some (.ref qf119) := (hre_2 119 ).trans (hfh_20_119)
      have hfk_2_120 : z_2[120]? = some (.int x120_20) := (hre_2 120 ).trans (hfh_20_120)
      have hfk_2_127 : z_2[127]? = some (.ref qf127) := (hre_2 127 ).trans (hfh_20_127)
      have hfk_2_128 : z_2[128]? = some (.ref qf128) := (hre_2 128 ).trans (hfh_20_128)
      have hfk_2_129 : z_2[129]? = some (.int v129) := (hre_2 129 ).trans (hfh_20_129)
      have hfk_2_131 : z_2[131]? = some (.int x131_20) := (hre_2 131 ).trans (hfh_20_131)
      have hfk_2_132 : z_2[132]? = some (.int v132) := (hre_2 132 ).trans (hfh_20_132)
      have hrq_2 : ∀ j : Nat, j ≠ 117 → j ≠ 120 → j ≠ 131 → z_2[j]? = zs[j]? := fun j g117 g120 g131 => (hre_2 j ).trans (hrh_20 j g117 g120 g131)
      obtain rfl := hwa_2
      refine lv_istore_n (lv' := [(2, .int u2_0), (4, .int l4_20), (3, .int l3_20), (0, .ref h0), (1, .int l1_20)]) hx hb dX13_becomes_92 rfl hl (by decide) rfl (fun ls hl => ?_)
      refine lv_aload_n hx hb dX13_becomes_93 rfl (lv_at hl 3 rfl) ?_
      refine lv_aload_n hx hb dX13_becomes_94 rfl (lv_at hl 3 rfl) ?_
      refine va_get (D := (dC, dI)) (ci := 13) (v := .int v132) (C := RX13) (T := TX13) (N := 155) hx hb hts uV_h9_X13 hown hK hP 6 rfl rfl 132 (by decide) (hts (.fieldLink RX13 932 "ClassMillModel" "inClass" "I") mw_h9_533) (fun _ h9 => h9) hfk_2_132 dX13_becomes_95 ?_
      refine lv_iload_n hx hb dX13_becomes_98 rfl (lv_at hl 0 rfl) ?_
      obtain ⟨u3_0, hu_3, hsp⟩ := ox_bind hsp
      try dsimp only at hsp
      have hPc := hP.sub (ws' := [(h0, .inr (13, z_2)), (qf100, .inl (cf100, 48000, .inl f100))]) [6, 7] rfl
      have hDc := hD.sub (ws' := [(h0, .inr (13, z_2)), (qf100, .inl (cf100, 48000, .inl f100))]) [6, 7] (by decide) rfl
      have hKc := hK.sub (tys' := [(cf100, .int)]) [6] rfl
      have hFc := va_free (wc := [(h0, .inr (13, z_2)), (qf100, .inl (cf100, 48000, .inl f100))]) hD hS hA [6, 7] rfl
      refine va_calli (va_runV (As := [.int v132, .int u2_0]) (rest := []) ⟨hx, hb, hml, hown, hts⟩ (tm_byteAt l dC dI H.size h0 z_2 v132 u2_0 qf100 cf100 f100 nf u3_0 hln_2 hfk_2_100 hu_3) (cwV 2 hts gv_h9_58 rfl rfl rfl (by decide +kernel) ⟨Nat.le_of_ble_eq_true rfl, Nat.le_of_ble_eq_true rfl⟩) ⟨fun a U g mk q => by obtain ⟨q0, q1, qP, qK, qD⟩ := q; exact ⟨q0, q1, qP, va_K.moved (u := U) (U := U.calling g mk a) (Vm.Alike.refl U.vm) qK, qD⟩, va_recv hKc hPc (ci := 13) (q0 := 0) rfl rfl, fun U hU hW => ⟨rfl, by rw [hU], by rw [hU]; exact hPc, va_K.moved hW.alike hKc, hDc.weaken (fun _ _ _ _ => trivial)⟩⟩ rfl rfl hl.1 rfl (lv_room (Nat.le_of_ble_eq_true rfl)) dX13_becomes_99 ⟨Nat.le_of_ble_eq_true rfl, Nat.le_of_ble_eq_true rfl⟩) hS (fun q _ h => hFc q h) hFc ?_
      clear hS
      intro r_4 u t H1 locs ht hvm hw hB hz1 hk1 hS
      obtain ⟨z_3, rfl⟩ : ∃ z, z = u := ⟨_, rfl⟩
      obtain ⟨hP1, hK1, hD1⟩ := hB
      rw [ht] at hP1
      have hK1 := va_K.moved hvm.symm hK1
      try dsimp only at hw
      have hPD := va_join (wr := [(qf102, .inl (cf102, 2048, .inl f102)), (qf104, .inl (cf104, 8, .inl f104)), (qf118, .inl (cf118, 2100, .inl g118_20)), (qf119, .inl (cf119, 2100, .inl g119_20)), (qf128, .inl (cf128, 31, .inl g128_20)), (qf127, .inl (cf127, 30, .inl g127_20))]) (w1 := [(h0, .inr (13, z_3)), (qf100, .inl (cf100, 48000, .inl f100))]) hP hD [6, 7] [0, 1, 2, 3, 4, 5] rfl rfl (by decide) (by decide) hk1 hFc hP1 hD1
      clear hP hD
      obtain ⟨hP, hD⟩ := hPD
      replace hK := (hK.sub (tys' := [(cf102, .int), (cf104, .int), (cf118, .int), (cf119, .int), (cf128, .int), (cf127, .int)]) [0, 1, 2, 3, 4, 5] rfl).app hK1
      clear hPc hDc hKc hFc hP1 hK1 hD1 hz1 hk1 ht hvm
      generalize H1 = H at hP hS ⊢
      replace hP : va_P (dC, dI) vwCl [(qf102, .inl (cf102, 2048, .inl f102)), (qf104, .inl (cf104, 8, .inl f104)), (qf118, .inl (cf118, 2100, .inl g118_20)), (qf119, .inl (cf119, 2100, .inl g119_20)), (qf128, .inl (cf128, 31, .inl g128_20)), (qf127, .inl (cf127, 30, .inl g127_20)), (h0, .inr (13, z_3)), (qf100, .inl (cf100, 48000, .inl f100))] H := hP
      replace hD : va_D A [(qf102, .inl (cf102, 2048, .inl f102)), (qf104, .inl (cf104, 8, .inl f104)), (qf118, .inl (cf118, 2100, .inl g118_20)), (qf119, .inl (cf119, 2100, .inl g119_20)), (qf128, .inl (cf128, 31, .inl g128_20)), (qf127, .inl (cf127, 30, .inl g127_20)), (h0, .inr (13, z_3)), (qf100, .inl (cf100, 48000, .inl f100))] := hD
      replace hK : va_K (dC, dI) vwCl [(cf102, .int), (cf104, .int), (cf118, .int), (cf119, .int), (cf128, .int), (cf127, .int), (cf100, .int)] s := hK
      obtain ⟨hwa_3, hln_3, hre_3⟩ := hw
      have hfk_3_98 : z_3[98]? = some (.int v98) := (hre_3 98 ).trans (hfk_2_98)
      have hfk_3_100 : z_3[100]? = some (.ref qf100) := (hre_3 100 ).trans (hfk_2_100)
      have hfk_3_102 : z_3[102]? = some (.ref qf102) := (hre_3 102 ).trans (hfk_2_102)
      have hfk_3_104 : z_3[104]? = some (.ref qf104) := (hre_3 104 ).trans (hfk_2_104)
      have hfk_3_117 : z_3[117]? = some (.int x117_20) := (hre_3 117 ).trans (hfk_2_117)
      have hfk_3_118 : z_3[118]? = some (.ref qf118) := (hre_3 118 ).trans (hfk_2_118)
      have hfk_3_119 : z_3[119]? = some (.ref qf119) := (hre_3 119 ).trans (hfk_2_119)
      have hfk_3_120 : z_3[120]? = some (.int x120_20) := (hre_3 120 ).trans (hfk_2_120)
      have hfk_3_127 : z_3[127]? = some (.ref qf127) := (hre_3 127 ).trans (hfk_2_127)
      have hfk_3_128 : z_3[128]? = some (.ref qf128) := (hre_3 128 ).trans (hfk_2_128)
      have hfk_3_129 : z_3[129]? = some (.int v129) := (hre_3 129 ).trans (hfk_2_129)
      have hfk_3_131 : z_3[131]? = some (.int x131_20) := (hre_3 131 ).trans (hfk_2_131)
      have hfk_3_132 : z_3[132]? = some (.int v132) := (hre_3 132 ).trans (hfk_2_132)
      have hrq_3 : ∀ j : Nat, j ≠ 117 → j ≠ 120 → j ≠ 131 → z_3[j]? = zs[j]? := fun j g117 g120 g131 => (hre_3 j ).trans (hrq_2 j g117 g120 g131)
      obtain rfl := hwa_3
      refine lv_istore_n (lv' := [(3, .int u3_0), (2, .int u2_0), (4, .int l4_20), (0, .ref h0), (1, .int l1_20)]) hx hb dX13_becomes_102 rfl hl (by decide) rfl (fun ls hl => ?_)
      refine lv_iinc (v := (u2_0 + 1)) (lv' := [(2, .int (u2_0 + 1)), (3, .int u3_0), (4, .int l4_20), (0, .ref h0), (1, .int l1_20)]) hx hb dX13_becomes_103 hl (k := 1) rfl rfl (by decide) rfl (fun ls hl => ?_)
      refine lv_aload_n hx hb dX13_becomes_106 rfl (lv_at hl 3 rfl) ?_
      refine lv_iload_n hx hb dX13_becomes_107 rfl (lv_at hl 1 rfl) ?_
      refine va_put (D := (dC, dI)) (ci := 13) (v := .int u3_0) (ty := .int) (C := RX13) (T := TX13) (N := 155) hx hb hts uV_h9_X13 tyX13 tyX13_ok nmX13 hown hK hP hD hS 6 rfl rfl 131 (by decide) (hts (.fieldLink RX13 961 "ClassMillModel" "stackMany" "I") mw_h9_543) (fun _ h9 => h9) rfl (by decide +kernel) rfl rfl (by rw [hln_3]; decide) dX13_becomes_108 ?_
      clear hP hD hS
      intro H locs hP hD hS
      obtain ⟨fs_5, efs_5⟩ : ∃ zf : List Value, zf = z_3.set 131 (.int u3_0) := ⟨_, rfl⟩
      rw [← efs_5] at hP hD
      have hlfs_5 : fs_5.length = 155 := by rw [efs_5, List.length_set]; exact hln_3
      have hfs_5_98 : fs_5[98]? = some (.int v98) := by rw [efs_5, List.getElem?_set_ne (by decide)]; exact hfk_3_98
      have hfs_5_100 : fs_5[100]? = some (.ref qf100) := by rw [efs_5, List.getElem?_set_ne (by decide)]; exact hfk_3_100
      have hfs_5_102 : fs_5[102]? = some (.ref qf102) := by rw [efs_5, List.getElem?_set_ne (by decide)]; exact hfk_3_102
      have hfs_5_104 : fs_5[104]? = some (.ref qf104) := by rw [efs_5, List.getElem?_set_ne (by decide)]; exact hfk_3_104
      have hfs_5_117 : fs_5[117]? = some (.int x117_20) := by rw [efs_5, List.getElem?_set_ne (by decide)]; exact hfk_3_117
      have hfs_5_118 : fs_5[118]? = some (.ref qf118) := by rw [efs_5, List.getElem?_set_ne (by decide)]; exact hfk_3_118
      have hfs_5_119 : fs_5[119]? = some (.ref qf119) := by rw [efs_5, List.getElem?_set_ne (by decide)]; exact hfk_3_119
      have hfs_5_120 : fs_5[120]? = some (.int x120_20) := by rw [efs_5, List.getElem?_set_ne (by decide)]; exact hfk_3_120
      have hfs_5_127 : fs_5[127]? = some (.ref qf127) := by rw [efs_5, List.getElem?_set_ne (by decide)]; exact hfk_3_127
      have hfs_5_128 : fs_5[128]? = some (.ref qf128) := by rw [efs_5, List.getElem?_set_ne (by decide)]; exact hfk_3_128
      have hfs_5_129 : fs_5[129]? = some (.int v129) := by rw [efs_5, List.getElem?_set_ne (by decide)]; exact hfk_3_129
      have hfs_5_132 : fs_5[132]? = some (.int v132) := by rw [efs_5, List.getElem?_set_ne (by decide)]; exact hfk_3_132
      have hfs_5_131 : fs_5[131]? = some (.int u3_0) := by rw [efs_5, List.getElem?_set_self (by rw [hln_3]; decide)]
      replace hP : va_P (dC, dI) vwCl [(qf102, .inl (cf102, 2048, .inl f102)), (qf104, .inl (cf104, 8, .inl f104)), (qf118, .inl (cf118, 2100, .inl g118_20)), (qf119, .inl (cf119, 2100, .inl g119_20)), (qf128, .inl (cf128, 31, .inl g128_20)), (qf127, .inl (cf127, 30, .inl g127_20)), (h0, .inr (13, fs_5)), (qf100, .inl (cf100, 48000, .inl f100))] H := hP
      replace hD : va_D A [(qf102, .inl (cf102, 2048, .inl f102)), (qf104, .inl (cf104, 8, .inl f104)), (qf118, .inl (cf118, 2100, .inl g118_20)), (qf119, .inl (cf119, 2100, .inl g119_20)), (qf128, .inl (cf128, 31, .inl g128_20)), (qf127, .inl (cf127, 30, .inl g127_20)), (h0, .inr (13, fs_5)), (qf100, .inl (cf100, 48000, .inl f100))] := hD
      have hrs_6 : ∀ j : Nat, j ≠ 117 → j ≠ 120 → j ≠ 131 → fs_5[j]? = zs[j]? := fun j g117 g120 g131 => ((congrArg (fun z : List Value => z[j]?) efs_5).trans (List.getElem?_set_ne (Ne.symm g131))).trans (hrq_3 j g117 g120 g131)
      refine lv_iconst (v := 0) hx hb dX13_becomes_111 (by decide) ?_
      refine lv_istore (lv' := [(4, .int 0), (2, .int (u2_0 + 1)), (3, .int u3_0), (0, .ref h0), (1, .int l1_20)]) hx hb dX13_becomes_112 hl (by decide) rfl (fun ls hl => ?_)
      replace hl : lv_has ls 5 [(4, .int 0), (2, .int (u2_0 + 1)), (3, .int u3_0), (0, .ref h0)] := lv_sub hl [0, 1, 2, 3] rfl
      replace hP := hP.sub (ws' := [(h0, .inr (13, fs_5)), (qf100, .inl (cf100, 48000, .inl f100)), (qf102, .inl (cf102, 2048, .inl f102)), (qf104, .inl (cf104, 8, .inl f104)), (qf118, .inl (cf118, 2100, .inl g118_20)), (qf119, .inl (cf119, 2100, .inl g119_20)), (qf128, .inl (cf128, 31, .inl g128_20)), (qf127, .inl (cf127, 30, .inl g127_20))]) [6, 7, 0, 1, 2, 3, 4, 5] rfl
      replace hD := hD.sub (ws' := [(h0, .inr (13, fs_5)), (qf100, .inl (cf100, 48000, .inl f100)), (qf102, .inl (cf102, 2048, .inl f102)), (qf104, .inl (cf104, 8, .inl f104)), (qf118, .inl (cf118, 2100, .inl g118_20)), (qf119, .inl (cf119, 2100, .inl g119_20)), (qf128, .inl (cf128, 31, .inl g128_20)), (qf127, .inl (cf127, 30, .inl g127_20))]) [6, 7, 0, 1, 2, 3, 4, 5] (by decide) rfl
      replace hK := hK.sub (tys' := [(cf100, .int), (cf102, .int), (cf104, .int), (cf118, .int), (cf119, .int), (cf128, .int), (cf127, .int)]) [6, 0, 1, 2, 3, 4, 5] rfl
      obtain ⟨n_114, hn_114⟩ : ∃ z : Nat, z = nf := ⟨_, rfl⟩
      obtain ⟨l2_114, el2_114⟩ : ∃ z : Int32, z = (u2_0 + 1) := ⟨_, rfl⟩
      obtain ⟨l3_114, el3_114⟩ : ∃ z : Int32, z = u3_0 := ⟨_, rfl⟩
      obtain ⟨l4_114, el4_114⟩ : ∃ z : Int32, z = 0 := ⟨_, rfl⟩
      obtain ⟨g118_114, eg118_114⟩ : ∃ z : Nat → Int32, z = g118_20 := ⟨_, rfl⟩
      obtain ⟨g119_114, eg119_114⟩ : ∃ z : Nat → Int32, z = g119_20 := ⟨_, rfl⟩
      obtain ⟨g127_114, eg127_114⟩ : ∃ z : Nat → Int32, z = g127_20 := ⟨_, rfl⟩
      obtain ⟨g128_114, eg128_114⟩ : ∃ z : Nat → Int32, z = g128_20 := ⟨_, rfl⟩
      obtain ⟨x117_114, ex117_114⟩ : ∃ z : Int32, z = x117_20 := ⟨_, rfl⟩
      obtain ⟨x120_114, ex120_114⟩ : ∃ z : Int32, z = x120_20 := ⟨_, rfl⟩
      obtain ⟨x131_114, ex131_114⟩ : ∃ z : Int32, z = u3_0 := ⟨_, rfl⟩
      replace hsp : lp_vm_becomes_114 nf n_114 a1 v98 v117 v120 v129 v131 v132 f100 f102 f104 f118 f119 f128 f127 nS477 fS477 l2_114 l3_114 l4_114 g118_114 g119_114 g127_114 g128_114 x117_114 x120_114 x131_114 = some (o118, o119, o127, o128, w117, w120, w131) := by rw [hn_114, el2_114, el3_114, el4_114, eg118_114, eg119_114, eg127_114, eg128_114, ex117_114, ex120_114, ex131_114]; exact hsp
      replace hl : lv_has ls 5 [(4, .int l4_114), (2, .int l2_114), (3, .int l3_114), (0, .ref h0)] := by rw [el2_114, el3_114, el4_114]; exact hl
      obtain ⟨z114, ez114⟩ : ∃ z : List Value, z = fs_5 := ⟨_, rfl⟩
      have hfh_114_98 : z114[98]? = some (.int v98) := by rw [ez114]; exact hfs_5_98
      have hfh_114_100 : z114[100]? = some (.ref qf100) := by rw [ez114]; exact hfs_5_100
      have hfh_114_102 : z114[102]? = some (.ref qf102) := by rw [ez114]; exact hfs_5_102
      have hfh_114_104 : z114[104]? = some (.ref qf104) := by rw [ez114]; exact hfs_5_104
      have hfh_114_117 : z114[117]? = some (.int x117_114) := by rw [ez114, ex117_114]; exact hfs_5_117
      have hfh_114_118 : z114[118]? = some (.ref qf118) := by rw [ez114]; exact hfs_5_118
      have hfh_114_119 : z114[119]? = some (.ref qf119) := by rw [ez114]; exact hfs_5_119
      have hfh_114_120 : z114[120]? = some (.int x120_114) := by rw [ez114, ex120_114]; exact hfs_5_120
      have hfh_114_127 : z114[127]? = some (.ref qf127) := by rw [ez114]; exact hfs_5_127
      have hfh_114_128 : z114[128]? = some (.ref qf128) := by rw [ez114]; exact hfs_5_128
      have hfh_114_129 : z114[129]? = some (.int v129) := by rw [ez114]; exact hfs_5_129
      have hfh_114_131 : z114[131]? = some (.int x131_114) := by rw [ez114, ex131_114]; exact hfs_5_131
      have hfh_114_132 : z114[132]? = some (.int v132) := by rw [ez114]; exact hfs_5_132
      have hlh_114 : z114.length = 155 := by rw [ez114]; exact hlfs_5
      have hrh_114 : ∀ j : Nat, j ≠ 117 → j ≠ 120 → j ≠ 131 → z114[j]? = zs[j]? := by rw [ez114]; exact hrs_6
      replace hP : va_P (dC, dI) vwCl [(h0, .inr (13, z114)), (qf100, .inl (cf100, 48000, .inl f100)), (qf102, .inl (cf102, 2048, .inl f102)), (qf104, .inl (cf104, 8, .inl f104)), (qf118, .inl (cf118, 2100, .inl g118_114)), (qf119, .inl (cf119, 2100, .inl g119_114)), (qf128, .inl (cf128, 31, .inl g128_114)), (qf127, .inl (cf127, 30, .inl g127_114))] H := by rw [ez114, eg118_114, eg119_114, eg127_114, eg128_114]; exact hP
      replace hD : va_D A [(h0, .inr (13, z114)), (qf100, .inl (cf100, 48000, .inl f100)), (qf102, .inl (cf102, 2048, .inl f102)), (qf104, .inl (cf104, 8, .inl f104)), (qf118, .inl (cf118, 2100, .inl g118_114)), (qf119, .inl (cf119, 2100, .inl g119_114)), (qf128, .inl (cf128, 31, .inl g128_114)), (qf127, .inl (cf127, 30, .inl g127_114))] := by rw [ez114, eg118_114, eg119_114, eg127_114, eg128_114]; exact hD
      clear hn_114 ez114 el2_114 el3_114 el4_114 eg118_114 eg119_114 eg127_114 eg128_114 ex117_114 ex120_114 ex131_114
      try clear hlo
      try clear hH
      revert hsp
      revert hP
      revert hD
      revert hS
      revert hl
      revert hrh_114
      revert hlh_114
      revert hfh_114_132
      revert hfh_114_131
      revert hfh_114_129
      revert hfh_114_128
      revert hfh_114_127
      revert hfh_114_120
      revert hfh_114_119
      revert hfh_114_118
      revert hfh_114_117
      revert hfh_114_104
      revert hfh_114_102
      revert hfh_114_100
      revert hfh_114_98
      revert x131_114
      revert x120_114
      revert x117_114
      revert g128_114
      revert g127_114
      revert g119_114
      revert g118_114
      revert l4_114
      revert l3_114
      revert l2_114
      revert z114
      revert ls
      revert locs
      revert H
      induction n_114 with
      | zero => intro H locs ls z114 l2_114 l3_114 l4_114 g118_114 g119_114 g127_114 g128_114 x117_114 x120_114 x131_114 hfh_114_98 hfh_114_100 hfh_114_102 hfh_114_104 hfh_114_117 hfh_114_118 hfh_114_119 hfh_114_120 hfh_114_127 hfh_114_128 hfh_114_129 hfh_114_131 hfh_114_132 hlh_114 hrh_114 hl hS hD hP hsp; unfold lp_vm_becomes_114 at hsp; cases hsp
      | succ n_114 ih_114 =>
        intro H locs ls z114 l2_114 l3_114 l4_114 g118_114 g119_114 g127_114 g128_114 x117_114 x120_114 x131_114 hfh_114_98 hfh_114_100 hfh_114_102 hfh_114_104 hfh_114_117 hfh_114_118 hfh_114_119 hfh_114_120 hfh_114_127 hfh_114_128 hfh_114_129 hfh_114_131 hfh_114_132 hlh_114 hrh_114 hl hS hD hP hsp
        unfold lp_vm_becomes_114 at hsp
        try dsimp only at hsp
        refine lv_iload hx hb dX13_becomes_114 (lv_at hl 0 rfl) ?_
        refine lv_iload_n hx hb dX13_becomes_116 rfl (lv_at hl 2 rfl) ?_
        refine lv_icmp_ge (tgt := 159) hx hb dX13_becomes_117 (by decide) (fun c_7 => ?_) (fun c_7 => ?_)
        · rw [if_pos c_7] at hsp
          have hr0 := Option.some.inj hsp
          clear hsp
          obtain ⟨hq0, hr1⟩ := Prod.mk.inj hr0
          clear hr0
          obtain ⟨hq1, hr2⟩ := Prod.mk.inj hr1
          clear hr1
          obtain ⟨hq2, hr3⟩ := Prod.mk.inj hr2
          clear hr2
          obtain ⟨hq3, hr4⟩ := Prod.mk.inj hr3
          clear hr3
          obtain ⟨hq4, hr5⟩ := Prod.mk.inj hr4
          clear hr4
          obtain ⟨hq5, hr6⟩ := Prod.mk.inj hr5
          clear hr5
          subst hq0
          subst hq1
          subst hq2
          subst hq3
          subst hq4
          subst hq5
          subst hr6
          have hP9 := hP.sub (ws' := [(h0, .inr (13, z114)), (qf100, .inl (cf100, 48000, .inl f100)), (qf102, .inl (cf102, 2048, .inl f102)), (qf104, .inl (cf104, 8, .inl f104)), (qf118, .inl (cf118, 2100, .inl g118_114)), (qf119, .inl (cf119, 2100, .inl g119_114)), (qf128, .inl (cf128, 31, .inl g128_114)), (qf127, .inl (cf127, 30, .inl g127_114))]) [0, 1, 2, 3, 4, 5, 6, 7] rfl
          have hD9 := hD.sub (ws' := [(h0, .inr (13, z114)), (qf100, .inl (cf100, 48000, .inl f100)), (qf102, .inl (cf102, 2048, .inl f102)), (qf104, .inl (cf104, 8, .inl f104)), (qf118, .inl (cf118, 2100, .inl g118_114)), (qf119, .inl (cf119, 2100, .inl g119_114)), (qf128, .inl (cf128, 31, .inl g128_114)), (qf127, .inl (cf127, 30, .inl g127_114))]) [0, 1, 2, 3, 4, 5, 6, 7] (by decide) rfl
          have hK9 := hK.sub (tys' := [(cf100, .int), (cf102, .int), (cf104, .int), (cf118, .int), (cf119, .int), (cf128, .int), (cf127, .int)]) [0, 1, 2, 3, 4, 5, 6] rfl
          exact W.vret hx hb hr (fun t ht hW => ⟨⟨(z114), rfl, ⟨trivial, hlh_114, hrh_114, hfh_114_117, hfh_114_120, hfh_114_131⟩, by rw [ht]; exact hP9, va_K.moved hW.alike hK9, hD9⟩, hS.F ht⟩) hS.2.2 dX13_becomes_159
        · rw [if_neg c_7] at hsp
          refine lv_aload_n hx hb dX13_becomes_120 rfl (lv_at hl 3 rfl) ?_
          refine va_get (D := (dC, dI)) (ci := 13) (v := .ref qf128) (C := RX13) (T := TX13) (N := 155) hx hb hts uV_h9_X13 hown hK hP 0 rfl rfl 128 (by decide) (hts (.fieldLink RX13 273 "ClassMillModel" "stack" "[I") mw_h9_544) (fun _ h9 => h9) hfh_114_128 dX13_becomes_121 ?_
          refine lv_iload hx hb dX13_becomes_124 (lv_at hl 0 rfl) ?_
          refine lv_aload_n hx hb dX13_becomes_126 rfl (lv_at hl 3 rfl) ?_
          refine lv_iload_n hx hb dX13_becomes_127 rfl (lv_at hl 1 rfl) ?_
          obtain ⟨⟨u4_0, g904_1, g904_2, u4_3, u4_4⟩, hu_4, hsp⟩ := ox_bind hsp
          try dsimp only at hsp
          have hPc := hP.sub (ws' := [(h0, .inr (13, z114)), (qf100, .inl (cf100, 48000, .inl f100)), (qf102, .inl (cf102, 2048, .inl f102)), (qf104, .inl (cf104, 8, .inl f104)), (qf118, .inl (cf118, 2100, .inl g118_114)), (qf119, .inl (cf119, 2100, .inl g119_114))]) [0, 1, 2, 3, 4, 5] rfl
          have hDc := hD.sub (ws' := [(h0, .inr (13, z114)), (qf100, .inl (cf100, 48000, .inl f100)), (qf102, .inl (cf102, 2048, .inl f102)), (qf104, .inl (cf104, 8, .inl f104)), (qf118, .inl (cf118, 2100, .inl g118_114)), (qf119, .inl (cf119, 2100, .inl g119_114))]) [0, 1, 2, 3, 4, 5] (by decide) rfl
          have hKc := hK.sub (tys' := [(cf100, .int), (cf102, .int), (cf104, .int), (cf118, .int), (cf119, .int)]) [0, 1, 2, 3, 4] rfl
          have hFc := va_free (wc := [(h0, .inr (13, z114)), (qf100, .inl (cf100, 48000, .inl f100)), (qf102, .inl (cf102, 2048, .inl f102)), (qf104, .inl (cf104, 8, .inl f104)), (qf118, .inl (cf118, 2100, .inl g118_114)), (qf119, .inl (cf119, 2100, .inl g119_114))]) hD hS hA [0, 1, 2, 3, 4, 5] rfl
          refine va_calli (va_runV (As := [.int l2_114]) (rest := [.int l4_114, .ref qf128]) ⟨hx, hb, hml, hown, hts⟩ (vm_framed l dC dI H.size h0 z114 l2_114 v98 qf100 qf102 qf104 x117_114 qf118 qf119 x120_114 v132 cf100 f100 cf102 f102 cf104 f104 cf118 g118_114 cf119 g119_114 nS477 fS477 hS477 qS477 tS477 nf u4_0 g904_1 g904_2 u4_3 u4_4 hlh_114 hfh_114_98 hfh_114_100 hfh_114_102 hfh_114_104 hfh_114_117 hfh_114_118 hfh_114_119 hfh_114_120 hfh_114_132 hu_4) (cwV 1 hts gv_h9_109 rfl rfl rfl (by decide +kernel) ⟨Nat.le_of_ble_eq_true rfl, Nat.le_of_ble_eq_true rfl⟩) ⟨fun a U g mk q => by obtain ⟨q0, q1, qP, qK, qD, qhZWS477, qhZRS477⟩ := q; exact ⟨q0, q1, qP, va_K.moved (u := U) (U := U.calling g mk a) (Vm.Alike.refl U.vm) qK, qD, pz_W.moved (u := U) (U := U.calling g mk a) (Vm.Alike.refl U.vm) qhZWS477, vk_R.same rfl qhZRS477⟩, va_recv hKc hPc (ci := 13) (q0 := 0) rfl rfl, fun U hU hW => ⟨rfl, by rw [hU], by rw [hU]; exact hPc, va_K.moved hW.alike hKc, hDc.weaken (fun _ _ _ _ => trivial), by rw [hU]; exact ((pz_W.moved hW.alike hZWS477).kept hS.2.1).narrow hFc, vk_R.warm hW hZRS477⟩⟩ rfl rfl hl.1 rfl (lv_room (Nat.le_of_ble_eq_true rfl)) dX13_becomes_128 ⟨Nat.le_of_ble_eq_true rfl, Nat.le_of_ble_eq_true rfl⟩) hS (fun q _ h => hFc q h) hFc ?_
          clear hS
          intro r_8 u t H1 locs ht hvm hw hB hz1 hk1 hS
          obtain ⟨z_4, rfl⟩ : ∃ z, z = u := ⟨_, rfl⟩
          obtain ⟨hP1, hK1, hD1⟩ := hB
          rw [ht] at hP1
          have hK1 := va_K.moved hvm.symm hK1
          try dsimp only at hw
          have hPD := va_join (wr := [(qf128, .inl (cf128, 31, .inl g128_114)), (qf127, .inl (cf127, 30, .inl g127_114))]) (w1 := [(h0, .inr (13, z_4)), (qf100, .inl (cf100, 48000, .inl f100)), (qf102, .inl (cf102, 2048, .inl f102)), (qf104, .inl (cf104, 8, .inl f104)), (qf118, .inl (cf118, 2100, .inl g904_1)), (qf119, .inl (cf119, 2100, .inl g904_2))]) hP hD [0, 1, 2, 3, 4, 5] [6, 7] rfl rfl (by decide) (by decide) hk1 hFc hP1 hD1
          clear hP hD
          obtain ⟨hP, hD⟩ := hPD
          replace hK := (hK.sub (tys' := [(cf128, .int), (cf127, .int)]) [5, 6] rfl).app hK1
          clear hPc hDc hKc hFc hP1 hK1 hD1 hz1 hk1 ht hvm
          generalize H1 = H at hP hS ⊢
          replace hP : va_P (dC, dI) vwCl [(qf128, .inl (cf128, 31, .inl g128_114)), (qf127, .inl (cf127, 30, .inl g127_114)), (h0, .inr (13, z_4)), (qf100, .inl (cf100, 48000, .inl f100)), (qf102, .inl (cf102, 2048, .inl f102)), (qf104, .inl (cf104, 8, .inl f104)), (qf118, .inl (cf118, 2100, .inl g904_1)), (qf119, .inl (cf119, 2100, .inl g904_2))] H := hP
          replace hD : va_D A [(qf128, .inl (cf128, 31, .inl g128_114)), (qf127, .inl (cf127, 30, .inl g127_114)), (h0, .inr (13, z_4)), (qf100, .inl (cf100, 48000, .inl f100)), (qf102, .inl (cf102, 2048, .inl f102)), (qf104, .inl (cf104, 8, .inl f104)), (qf118, .inl (cf118, 2100, .inl g904_1)), (qf119, .inl (cf119, 2100, .inl g904_2))] := hD
          replace hK : va_K (dC, dI) vwCl [(cf128, .int), (cf127, .int), (cf100, .int), (cf102, .int), (cf104, .int), (cf118, .int), (cf119, .int)] s := hK
          obtain ⟨hwa_4, hln_4, hre_4, hch_4_117, hch_4_120⟩ := hw
          have hfk_4_98 : z_4[98]? = some (.int v98) := (hre_4 98 (by decide) (by decide)).trans (hfh_114_98)
          have hfk_4_100 : z_4[100]? = some (.ref qf100) := (hre_4 100 (by decide) (by decide)).trans (hfh_114_100)
          have hfk_4_102 : z_4[102]? = some (.ref qf102) := (hre_4 102 (by decide) (by decide)).trans (hfh_114_102)
          have hfk_4_104 : z_4[104]? = some (.ref qf104) := (hre_4 104 (by decide) (by decide)).trans (hfh_114_104)
          have hfk_4_118 : z_4[118]? = some (.ref qf118) := (hre_4 118 (by decide) (by decide)).trans (hfh_114_118)
          have hfk_4_119 : z_4[119]? = some (.ref qf119) := (hre_4 119 (by decide) (by decide)).trans (hfh_114_119)
          have hfk_4_127 : z_4[127]? = some (.ref qf127) := (hre_4 127 (by decide) (by decide)).trans (hfh_114_127)
          have hfk_4_128 : z_4[128]? = some (.ref qf128) := (hre_4 128 (by decide) (by decide)).trans (hfh_114_128)
          have hfk_4_129 : z_4[129]? = some (.int v129) := (hre_4 129 (by decide) (by decide)).trans (hfh_114_129)
          have hfk_4_131 : z_4[131]? = some (.int x131_114) := (hre_4 131 (by decide) (by decide)).trans (hfh_114_131)
          have hfk_4_132 : z_4[132]? = some (.int v132) := (hre_4 132 (by decide) (by decide)).trans (hfh_114_132)
          have hrq_4 : ∀ j : Nat, j ≠ 117 → j ≠ 120 → j ≠ 131 → z_4[j]? = zs[j]? := fun j g117 g120 g131 => (hre_4 j g117 g120).trans (hrh_114 j g117 g120 g131)
          obtain rfl := hwa_4
          obtain ⟨hi_9, hsp⟩ := ox_in hsp
          refine va_iast hx hb hK hP hD hS 0 0 rfl rfl (i := l4_114) (x := u4_0) hi_9 dX13_becomes_131 ?_
          clear hP hD hS
          intro H locs hP hD hS
          replace hP : va_P (dC, dI) vwCl [(qf128, .inl (cf128, 31, .inl (upd g128_114 (l4_114 : Int32).toNatClampNeg u4_0))), (qf127, .inl (cf127, 30, .inl g127_114)), (h0, .inr (13, z_4)), (qf100, .inl (cf100, 48000, .inl f100)), (qf102, .inl (cf102, 2048, .inl f102)), (qf104, .inl (cf104, 8, .inl f104)), (qf118, .inl (cf118, 2100, .inl g904_1)), (qf119, .inl (cf119, 2100, .inl g904_2))] H := hP
          replace hD : va_D A [(qf128, .inl (cf128, 31, .inl (upd g128_114 (l4_114 : Int32).toNatClampNeg u4_0))), (qf127, .inl (cf127, 30, .inl g127_114)), (h0, .inr (13, z_4)), (qf100, .inl (cf100, 48000, .inl f100)), (qf102, .inl (cf102, 2048, .inl f102)), (qf104, .inl (cf104, 8, .inl f104)), (qf118, .inl (cf118, 2100, .inl g904_1)), (qf119, .inl (cf119, 2100, .inl g904_2))] := hD
          refine lv_iload_n hx hb dX13_becomes_132 rfl (lv_at hl 1 rfl) ?_
          refine lv_aload_n hx hb dX13_becomes_133 rfl (lv_at hl 3 rfl) ?_
          refine lv_aload_n hx hb dX13_becomes_134 rfl (lv_at hl 3 rfl) ?_
          refine va_get (D := (dC, dI)) (ci := 13) (v := .int v132) (C := RX13) (T := TX13) (N := 155) hx hb hts uV_h9_X13 hown hK hP 2 rfl rfl 132 (by decide) (hts (.fieldLink RX13 932 "ClassMillModel" "inClass" "I") mw_h9_533) (fun _ h9 => h9) hfk_4_132 dX13_becomes_135 ?_
          refine lv_iload_n hx hb dX13_becomes_138 rfl (lv_at hl 1 rfl) ?_
          obtain ⟨u5_0, hu_5, hsp⟩ := ox_bind hsp
          try dsimp only at hsp
          have hPc := hP.sub (ws' := [(h0, .inr (13, z_4)), (qf100, .inl (cf100, 48000, .inl f100))]) [2, 3] rfl
          have hDc := hD.sub (ws' := [(h0, .inr (13, z_4)), (qf100, .inl (cf100, 48000, .inl f100))]) [2, 3] (by decide) rfl
          have hKc := hK.sub (tys' := [(cf100, .int)]) [2] rfl
          have hFc := va_free (wc := [(h0, .inr (13, z_4)), (qf100, .inl (cf100, 48000, .inl f100))]) hD hS hA [2, 3] rfl
          refine va_calli (va_runV (As := [.int v132, .int l2_114]) (rest := [.int l2_114]) ⟨hx, hb, hml, hown, hts⟩ (tm_byteAt l dC dI H.size h0 z_4 v132 l2_114 qf100 cf100 f100 nf u5_0 hln_4 hfk_4_100 hu_5) (cwV 2 hts gv_h9_58 rfl rfl rfl (by decide +kernel) ⟨Nat.le_of_ble_eq_true rfl, Nat.le_of_ble_eq_true rfl⟩) ⟨fun a U g mk q => by obtain ⟨q0, q1, qP, qK, qD⟩ := q; exact ⟨q0, q1, qP, va_K.moved (u := U) (U := U.calling g mk a) (Vm.Alike.refl U.vm) qK, qD⟩, va_recv hKc hPc (ci := 13) (q0 := 0) rfl rfl, fun U hU hW => ⟨rfl, by rw [hU], by rw [hU]; exact hPc, va_K.moved hW.alike hKc, hDc.weaken (fun _ _ _ _ => trivial)⟩⟩ rfl rfl hl.1 rfl (lv_room (Nat.le_of_ble_eq_true rfl)) dX13_becomes_139 ⟨Nat.le_of_ble_eq_true rfl, Nat.le_of_ble_eq_true rfl⟩) hS (fun q _ h => hFc q h) hFc ?_
          clear hS
          intro r_10 u t H1 locs ht hvm hw hB hz1 hk1 hS
          obtain ⟨z_5, rfl⟩ : ∃ z, z = u := ⟨_, rfl⟩
          obtain ⟨hP1, hK1, hD1⟩ := hB
          rw [ht] at hP1
          have hK1 := va_K.moved hvm.symm hK1
          try dsimp only at hw
          have hPD := va_join (wr := [(qf128, .inl (cf128, 31, .inl (upd g128_114 (l4_114 : Int32).toNatClampNeg u4_0))), (qf127, .inl (cf127, 30, .inl g127_114)), (qf102, .inl (cf102, 2048, .inl f102)), (qf104, .inl (cf104, 8, .inl f104)), (qf118, .inl (cf118, 2100, .inl g904_1)), (qf119, .inl (cf119, 2100, .inl g904_2))]) (w1 := [(h0, .inr (13, z_5)), (qf100, .inl (cf100, 48000, .inl f100))]) hP hD [2, 3] [0, 1, 4, 5, 6, 7] rfl rfl (by decide) (by decide) hk1 hFc hP1 hD1
          clear hP hD
          obtain ⟨hP, hD⟩ := hPD
          replace hK := (hK.sub (tys' := [(cf128, .int), (cf127, .int), (cf102, .int), (cf104, .int), (cf118, .int), (cf119, .int)]) [0, 1, 3, 4, 5, 6] rfl).app hK1
          clear hPc hDc hKc hFc hP1 hK1 hD1 hz1 hk1 ht hvm
          generalize H1 = H at hP hS ⊢
          replace hP : va_P (dC, dI) vwCl [(qf128, .inl (cf128, 31, .inl (upd g128_114 (l4_114 : Int32).toNatClampNeg u4_0))), (qf127, .inl (cf127, 30, .inl g127_114)), (qf102, .inl (cf102, 2048, .inl f102)), (qf104, .inl (cf104, 8, .inl f104)), (qf118, .inl (cf118, 2100, .inl g904_1)), (qf119, .inl (cf119, 2100, .inl g904_2)), (h0, .inr (13, z_5)), (qf100, .inl (cf100, 48000, .inl f100))] H := hP
          replace hD : va_D A [(qf128, .inl (cf128, 31, .inl (upd g128_114 (l4_114 : Int32).toNatClampNeg u4_0))), (qf127, .inl (cf127, 30, .inl g127_114)), (qf102, .inl (cf102, 2048, .inl f102)), (qf104, .inl (cf104, 8, .inl f104)), (qf118, .inl (cf118, 2100, .inl g904_1)), (qf119, .inl (cf119, 2100, .inl g904_2)), (h0, .inr (13, z_5)), (qf100, .inl (cf100, 48000, .inl f100))] := hD
          replace hK : va_K (dC, dI) vwCl [(cf128, .int), (cf127, .int), (cf102, .int), (cf104, .int), (cf118, .int), (cf119, .int), (cf100, .int)] s := hK
          obtain ⟨hwa_5, hln_5, hre_5⟩ := hw
          have hfk_5_98 : z_5[98]? = some (.int v98) := (hre_5 98 ).trans (hfk_4_98)
          have hfk_5_100 : z_5[100]? = some (.ref qf100) := (hre_5 100 ).trans (hfk_4_100)
          have hfk_5_102 : z_5[102]? = some (.ref qf102) := (hre_5 102 ).trans (hfk_4_102)
          have hfk_5_104 : z_5[104]? = some (.ref qf104) := (hre_5 104 ).trans (hfk_4_104)
          have hfk_5_117 : z_5[117]? = some (.int u4_3) := (hre_5 117 ).trans (hch_4_117)
          have hfk_5_118 : z_5[118]? = some (.ref qf118) := (hre_5 118 ).trans (hfk_4_118)
          have hfk_5_119 : z_5[119]? = some (.ref qf119) := (hre_5 119 ).trans (hfk_4_119)
          have hfk_5_120 : z_5[120]? = some (.int u4_4) := (hre_5 120 ).trans (hch_4_120)
          have hfk_5_127 : z_5[127]? = some (.ref qf127) := (hre_5 127 ).trans (hfk_4_127)
          have hfk_5_128 : z_5[128]? = some (.ref qf128) := (hre_5 128 ).trans (hfk_4_128)
          have hfk_5_129 : z_5[129]? = some (.int v129) := (hre_5 129 ).trans (hfk_4_129)
          have hfk_5_131 : z_5[131]? = some (.int x131_114) := (hre_5 131 ).trans (hfk_4_131)
          have hfk_5_132 : z_5[132]? = some (.int v132) := (hre_5 132 ).trans (hfk_4_132)
          have hrq_5 : ∀ j : Nat, j ≠ 117 → j ≠ 120 → j ≠ 131 → z_5[j]? = zs[j]? := fun j g117 g120 g131 => (hre_5 j ).trans (hrq_4 j g117 g120 g131)
          obtain rfl := hwa_5
          refine lv_iconst (v := 3) hx hb dX13_becomes_142 (by decide) ?_
          refine lv_icmp_ne (tgt := 150) hx hb dX13_becomes_143 (by decide) (fun c_11 => ?_) (fun c_11 => ?_)
          · rw [if_neg c_11] at hsp
            refine lv_iconst (v := 1) hx hb dX13_becomes_150 (by decide) ?_
            refine lv_iadd hx hb dX13_becomes_151 ?_
            refine lv_istore_n (lv' := [(2, .int (l2_114 + 1)), (4, .int l4_114), (3, .int l3_114), (0, .ref h0)]) hx hb dX13_becomes_152 rfl hl (by decide) rfl (fun ls hl => ?_)
            refine lv_iinc (v := (l4_114 + 1)) (lv' := [(4, .int (l4_114 + 1)), (2, .int (l2_114 + 1)), (3, .int l3_114), (0, .ref h0)]) hx hb dX13_becomes_153 hl (k := 1) rfl rfl (by decide) rfl (fun ls hl => ?_)
            refine lv_goto (tgt := 114) hx hb dX13_becomes_156 (by decide) ?_
            exact ih_114 H locs ls z_5 (l2_114 + 1) l3_114 (l4_114 + 1) g904_1 g904_2 g127_114 (upd g128_114 (l4_114 : Int32).toNatClampNeg u4_0) u4_3 u4_4 x131_114 (hfk_5_98) (hfk_5_100) (hfk_5_102) (hfk_5_104) (hfk_5_117) (hfk_5_118) (hfk_5_119) (hfk_5_120) (hfk_5_127) (hfk_5_128) (hfk_5_129) (hfk_5_131) (hfk_5_132) hln_5 hrq_5 (lv_sub hl [0, 1, 2, 3] rfl) hS (hD.sub (ws' := [(h0, .inr (13, z_5)), (qf100, .inl (cf100, 48000, .inl f100)), (qf102, .inl (cf102, 2048, .inl f102)), (qf104, .inl (cf104, 8, .inl f104)), (qf118, .inl (cf118, 2100, .inl g904_1)), (qf119, .inl (cf119, 2100, .inl g904_2)), (qf128, .inl (cf128, 31, .inl (upd g128_114 (l4_114 : Int32).toNatClampNeg u4_0))), (qf127, .inl (cf127, 30, .inl g127_114))]) [6, 7, 2, 3, 4, 5, 0, 1] (by decide) rfl) (hP.sub (ws' := [(h0, .inr (13, z_5)), (qf100, .inl (cf100, 48000, .inl f100)), (qf102, .inl (cf102, 2048, .inl f102)), (qf104, .inl (cf104, 8, .inl f104)), (qf118, .inl (cf118, 2100, .inl g904_1)), (qf119, .inl (cf119, 2100, .inl g904_2)), (qf128, .inl (cf128, 31, .inl (upd g128_114 (l4_114 : Int32).toNatClampNeg u4_0))), (qf127, .inl (cf127, 30, .inl g127_114))]) [6, 7, 2, 3, 4, 5, 0, 1] rfl) hsp
          · rw [if_pos c_11] at hsp
            refine lv_iconst (v := 2) hx hb dX13_becomes_146 (by decide) ?_
            refine lv_goto (tgt := 151) hx hb dX13_becomes_147 (by decide) ?_
            refine lv_iadd hx hb dX13_becomes_151 ?_
            refine lv_istore_n (lv' := [(2, .int (l2_114 + 2)), (4, .int l4_114), (3, .int l3_114), (0, .ref h0)]) hx hb dX13_becomes_152 rfl hl (by decide) rfl (fun ls hl => ?_)
            refine lv_iinc (v := (l4_114 + 1)) (lv' := [(4, .int (l4_114 + 1)), (2, .int (l2_114 + 2)), (3, .int l3_114), (0, .ref h0)]) hx hb dX13_becomes_153 hl (k := 1) rfl rfl (by decide) rfl (fun ls hl => ?_)
            refine lv_goto (tgt := 114) hx hb dX13_becomes_156 (by decide) ?_
            exact ih_114 H locs ls z_5 (l2_114 + 2) l3_114 (l4_114 + 1) g904_1 g904_2 g127_114 (upd g128_114 (l4_114 : Int32).toNatClampNeg u4_0) u4_3 u4_4 x131_114 (hfk_5_98) (hfk_5_100) (hfk_5_102) (hfk_5_104) (hfk_5_117) (hfk_5_118) (hfk_5_119) (hfk_5_120) (hfk_5_127) (hfk_5_128) (hfk_5_129) (hfk_5_131) (hfk_5_132) hln_5 hrq_5 (lv_sub hl [0, 1, 2, 3] rfl) hS (hD.sub (ws' := [(h0, .inr (13, z_5)), (qf100, .inl (cf100, 48000, .inl f100)), (qf102, .inl (cf102, 2048, .inl f102)), (qf104, .inl (cf104, 8, .inl f104)), (qf118, .inl (cf118, 2100, .inl g904_1)), (qf119, .inl (cf119, 2100, .inl g904_2)), (qf128, .inl (cf128, 31, .inl (upd g128_114 (l4_114 : Int32).toNatClampNeg u4_0))), (qf127, .inl (cf127, 30, .inl g127_114))]) [6, 7, 2, 3, 4, 5, 0, 1] (by decide) rfl) (hP.sub (ws' := [(h0, .inr (13, z_5)), (qf100, .inl (cf100, 48000, .inl f100)), (qf102, .inl (cf102, 2048, .inl f102)), (qf104, .inl (cf104, 8, .inl f104)), (qf118, .inl (cf118, 2100, .inl g904_1)), (qf119, .inl (cf119, 2100, .inl g904_2)), (qf128, .inl (cf128, 31, .inl (upd g128_114 (l4_114 : Int32).toNatClampNeg u4_0))), (qf127, .inl (cf127, 30, .inl g127_114))]) [6, 7, 2, 3, 4, 5, 0, 1] rfl) hsp
    · rw [if_neg c_2] at hsp
      refine lv_aload_n hx hb dX13_becomes_29 rfl (lv_at hl 3 rfl) ?_
      refine va_get (D := (dC, dI)) (ci := 13) (v := .ref qf127) (C := RX13) (T := TX13) (N := 155) hx hb hts uV_h9_X13 hown hK hP 0 rfl rfl 127 (by decide) (hts (.fieldLink RX13 270 "ClassMillModel" "locals" "[I") mw_h9_542) (fun _ h9 => h9) hfh_20_127 dX13_becomes_30 ?_
      refine lv_iload hx hb dX13_becomes_33 (lv_at hl 0 rfl) ?_
      refine lv_iconst (v := 0) hx hb dX13_becomes_35 (by decide) ?_
      obtain ⟨hi_12, hsp⟩ := ox_in hsp
      refine va_iast hx hb hK hP hD hS 7 6 rfl rfl (i := l4_20) (x := 0) hi_12 dX13_becomes_36 ?_
      clear hP hD hS
      intro H locs hP hD hS
      replace hP : va_P (dC, dI) vwCl [(h0, .inr (13, z20)), (qf100, .inl (cf100, 48000, .inl f100)), (qf102, .inl (cf102, 2048, .inl f102)), (qf104, .inl (cf104, 8, .inl f104)), (qf118, .inl (cf118, 2100, .inl g118_20)), (qf119, .inl (cf119, 2100, .inl g119_20)), (qf128, .inl (cf128, 31, .inl g128_20)), (qf127, .inl (cf127, 30, .inl (upd g127_20 (l4_20 : Int32).toNatClampNeg 0)))] H := hP
      replace hD : va_D A [(h0, .inr (13, z20)), (qf100, .inl (cf100, 48000, .inl f100)), (qf102, .inl (cf102, 2048, .inl f102)), (qf104, .inl (cf104, 8, .inl f104)), (qf118, .inl (cf118, 2100, .inl g118_20)), (qf119, .inl (cf119, 2100, .inl g119_20)), (qf128, .inl (cf128, 31, .inl g128_20)), (qf127, .inl (cf127, 30, .inl (upd g127_20 (l4_20 : Int32).toNatClampNeg 0)))] := hD
      refine lv_iload hx hb dX13_becomes_37 (lv_at hl 0 rfl) ?_
      refine lv_iload_n hx hb dX13_becomes_39 rfl (lv_at hl 2 rfl) ?_
      refine lv_icmp_lt (tgt := 46) hx hb dX13_becomes_40 (by decide) (fun c_13 => ?_) (fun c_13 => ?_)
      · rw [if_pos c_13] at hsp
        refine lv_aload_n hx hb dX13_becomes_46 rfl (lv_at hl 3 rfl) ?_
        refine va_get (D := (dC, dI)) (ci := 13) (v := .ref qf127) (C := RX13) (T := TX13) (N := 155) hx hb hts uV_h9_X13 hown hK hP 0 rfl rfl 127 (by decide) (hts (.fieldLink RX13 270 "ClassMillModel" "locals" "[I") mw_h9_542) (fun _ h9 => h9) hfh_20_127 dX13_becomes_47 ?_
        refine lv_iload hx hb dX13_becomes_50 (lv_at hl 0 rfl) ?_
        refine lv_aload_n hx hb dX13_becomes_52 rfl (lv_at hl 3 rfl) ?_
        refine lv_iload_n hx hb dX13_becomes_53 rfl (lv_at hl 1 rfl) ?_
        obtain ⟨⟨u6_0, g906_1, g906_2, u6_3, u6_4⟩, hu_6, hsp⟩ := ox_bind hsp
        try dsimp only at hsp
        have hPc := hP.sub (ws' := [(h0, .inr (13, z20)), (qf100, .inl (cf100, 48000, .inl f100)), (qf102, .inl (cf102, 2048, .inl f102)), (qf104, .inl (cf104, 8, .inl f104)), (qf118, .inl (cf118, 2100, .inl g118_20)), (qf119, .inl (cf119, 2100, .inl g119_20))]) [0, 1, 2, 3, 4, 5] rfl
        have hDc := hD.sub (ws' := [(h0, .inr (13, z20)), (qf100, .inl (cf100, 48000, .inl f100)), (qf102, .inl (cf102, 2048, .inl f102)), (qf104, .inl (cf104, 8, .inl f104)), (qf118, .inl (cf118, 2100, .inl g118_20)), (qf119, .inl (cf119, 2100, .inl g119_20))]) [0, 1, 2, 3, 4, 5] (by decide) rfl
        have hKc := hK.sub (tys' := [(cf100, .int), (cf102, .int), (cf104, .int), (cf118, .int), (cf119, .int)]) [0, 1, 2, 3, 4] rfl
        have hFc := va_free (wc := [(h0, .inr (13, z20)), (qf100, .inl (cf100, 48000, .inl f100)), (qf102, .inl (cf102, 2048, .inl f102)), (qf104, .inl (cf104, 8, .inl f104)), (qf118, .inl (cf118, 2100, .inl g118_20)), (qf119, .inl (cf119, 2100, .inl g119_20))]) hD hS hA [0, 1, 2, 3, 4, 5] rfl
        refine va_calli (va_runV (As := [.int l2_20]) (rest := [.int l4_20, .ref qf127]) ⟨hx, hb, hml, hown, hts⟩ (vm_framed l dC dI H.size h0 z20 l2_20 v98 qf100 qf102 qf104 x117_20 qf118 qf119 x120_20 v132 cf100 f100 cf102 f102 cf104 f104 cf118 g118_20 cf119 g119_20 nS477 fS477 hS477 qS477 tS477 nf u6_0 g906_1 g906_2 u6_3 u6_4 hlh_20 hfh_20_98 hfh_20_100 hfh_20_102 hfh_20_104 hfh_20_117 hfh_20_118 hfh_20_119 hfh_20_120 hfh_20_132 hu_6) (cwV 1 hts gv_h9_109 rfl rfl rfl (by decide +kernel) ⟨Nat.le_of_ble_eq_true rfl, Nat.le_of_ble_eq_true rfl⟩) ⟨fun a U g mk q => by obtain ⟨q0, q1, qP, qK, qD, qhZWS477, qhZRS477⟩ := q; exact ⟨q0, q1, qP, va_K.moved (u := U) (U := U.calling g mk a) (Vm.Alike.refl U.vm) qK, qD, pz_W.moved (u := U) (U := U.calling g mk a) (Vm.Alike.refl U.vm) qhZWS477, vk_R.same rfl qhZRS477⟩, va_recv hKc hPc (ci := 13) (q0 := 0) rfl rfl, fun U hU hW => ⟨rfl, by rw [hU], by rw [hU]; exact hPc, va_K.moved hW.alike hKc, hDc.weaken (fun _ _ _ _ => trivial), by rw [hU]; exact ((pz_W.moved hW.alike hZWS477).kept hS.2.1).narrow hFc, vk_R.warm hW hZRS477⟩⟩ rfl rfl hl.1 rfl (lv_room (Nat.le_of_ble_eq_true rfl)) dX13_becomes_54 ⟨Nat.le_of_ble_eq_true rfl, Nat.le_of_ble_eq_true rfl⟩) hS (fun q _ h => hFc q h) hFc ?_
        clear hS
        intro r_14 u t H1 locs ht hvm hw hB hz1 hk1 hS
        obtain ⟨z_6, rfl⟩ : ∃ z, z = u := ⟨_, rfl⟩
        obtain ⟨hP1, hK1, hD1⟩ := hB
        rw [ht] at hP1
        have hK1 := va_K.moved hvm.symm hK1
        try dsimp only at hw
        have hPD := va_join (wr := [(qf128, .inl (cf128, 31, .inl g128_20)), (qf127, .inl (cf127, 30, .inl (upd g127_20 (l4_20 : Int32).toNatClampNeg 0)))]) (w1 := [(h0, .inr (13, z_6)), (qf100, .inl (cf100, 48000, .inl f100)), (qf102, .inl (cf102, 2048, .inl f102)), (qf104, .inl (cf104, 8, .inl f104)), (qf118, .inl (cf118, 2100, .inl g906_1)), (qf119, .inl (cf119, 2100, .inl g906_2))]) hP hD [0, 1, 2, 3, 4, 5] [6, 7] rfl rfl (by decide) (by decide) hk1 hFc hP1 hD1
        clear hP hD
        obtain ⟨hP, hD⟩ := hPD
        replace hK := (hK.sub (tys' := [(cf128, .int), (cf127, .int)]) [5, 6] rfl).app hK1
        clear hPc hDc hKc hFc hP1 hK1 hD1 hz1 hk1 ht hvm
        generalize H1 = H at hP hS ⊢
        replace hP : va_P (dC, dI) vwCl [(qf128, .inl (cf128, 31, .inl g128_20)), (qf127, .inl (cf127, 30, .inl (upd g127_20 (l4_20 : Int32).toNatClampNeg 0))), (h0, .inr (13, z_6)), (qf100, .inl (cf100, 48000, .inl f100)), (qf102, .inl (cf102, 2048, .inl f102)), (qf104, .inl (cf104, 8, .inl f104)), (qf118, .inl (cf118, 2100, .inl g906_1)), (qf119, .inl (cf119, 2100, .inl g906_2))] H := hP
        replace hD : va_D A [(qf128, .inl (cf128, 31, .inl g128_20)), (qf127, .inl (cf127, 30, .inl (upd g127_20 (l4_20 : Int32).toNatClampNeg 0))), (h0, .inr (13, z_6)), (qf100, .inl (cf100, 48000, .inl f100)), (qf102, .inl (cf102, 2048, .inl f102)), (qf104, .inl (cf104, 8, .inl f104)), (qf118, .inl (cf118, 2100, .inl g906_1)), (qf119, .inl (cf119, 2100, .inl g906_2))] := hD
        replace hK : va_K (dC, dI) vwCl [(cf128, .int), (cf127, .int), (cf100, .int), (cf102, .int), (cf104, .int), (cf118, .int), (cf119, .int)] s := hK
        obtain ⟨hwa_6, hln_6, hre_6, hch_6_117, hch_6_120⟩ := hw
        have hfk_6_98 : z_6[98]? = some (.int v98) := (hre_6 98 (by decide) (by decide)).trans (hfh_20_98)
        have hfk_6_100 : z_6[100]? = some (.ref qf100) := (hre_6 100 (by decide) (by decide)).trans (hfh_20_100)
        have hfk_6_102 : z_6[102]? = some (.ref qf102) := (hre_6 102 (by decide) (by decide)).trans (hfh_20_102)
        have hfk_6_104 : z_6[104]? = some (.ref qf104) := (hre_6 104 (by decide) (by decide)).trans (hfh_20_104)
        have hfk_6_118 : z_6[118]? = some (.ref qf118) := (hre_6 118 (by decide) (by decide)).trans (hfh_20_118)
        have hfk_6_119 : z_6[119]? = some (.ref qf119) := (hre_6 119 (by decide) (by decide)).trans (hfh_20_119)
        have hfk_6_127 : z_6[127]? = some (.ref qf127) := (hre_6 127 (by decide) (by decide)).trans (hfh_20_127)
        have hfk_6_128 : z_6[128]? = some (.ref qf128) := (hre_6 128 (by decide) (by decide)).trans (hfh_20_128)
        have hfk_6_129 : z_6[129]? = some (.int v129) := (hre_6 129 (by decide) (by decide)).trans (hfh_20_129)
        have hfk_6_131 : z_6[131]? = some (.int x131_20) := (hre_6 131 (by decide) (by decide)).trans (hfh_20_131)
        have hfk_6_132 : z_6[132]? = some (.int v132) := (hre_6 132 (by decide) (by decide)).trans (hfh_20_132)
        have hrq_6 : ∀ j : Nat, j ≠ 117 → j ≠ 120 → j ≠ 131 → z_6[j]? = zs[j]? := fun j g117 g120 g131 => (hre_6 j g117 g120).trans (hrh_20 j g117 g120 g131)
        obtain rfl := hwa_6
        obtain ⟨hi_15, hsp⟩ := ox_in hsp
        refine va_iast hx hb hK hP hD hS 1 1 rfl rfl (i := l4_20) (x := u6_0) hi_15 dX13_becomes_57 ?_
        clear hP hD hS
        intro H locs hP hD hS
        replace hP : va_P (dC, dI) vwCl [(qf128, .inl (cf128, 31, .inl g128_20)), (qf127, .inl (cf127, 30, .inl (upd (upd g127_20 (l4_20 : Int32).toNatClampNeg 0) (l4_20 : Int32).toNatClampNeg u6_0))), (h0, .inr (13, z_6)), (qf100, .inl (cf100, 48000, .inl f100)), (qf102, .inl (cf102, 2048, .inl f102)), (qf104, .inl (cf104, 8, .inl f104)), (qf118, .inl (cf118, 2100, .inl g906_1)), (qf119, .inl (cf119, 2100, .inl g906_2))] H := hP
        replace hD : va_D A [(qf128, .inl (cf128, 31, .inl g128_20)), (qf127, .inl (cf127, 30, .inl (upd (upd g127_20 (l4_20 : Int32).toNatClampNeg 0) (l4_20 : Int32).toNatClampNeg u6_0))), (h0, .inr (13, z_6)), (qf100, .inl (cf100, 48000, .inl f100)), (qf102, .inl (cf102, 2048, .inl f102)), (qf104, .inl (cf104, 8, .inl f104)), (qf118, .inl (cf118, 2100, .inl g906_1)), (qf119, .inl (cf119, 2100, .inl g906_2))] := hD
        refine lv_iload_n hx hb dX13_becomes_58 rfl (lv_at hl 1 rfl) ?_
        refine lv_aload_n hx hb dX13_becomes_59 rfl (lv_at hl 3 rfl) ?_
        refine lv_aload_n hx hb dX13_becomes_60 rfl (lv_at hl 3 rfl) ?_
        refine va_get (D := (dC, dI)) (ci := 13) (v := .int v132) (C := RX13) (T := TX13) (N := 155) hx hb hts uV_h9_X13 hown hK hP 2 rfl rfl 132 (by decide) (hts (.fieldLink RX13 932 "ClassMillModel" "inClass" "I") mw_h9_533) (fun _ h9 => h9) hfk_6_132 dX13_becomes_61 ?_
        refine lv_iload_n hx hb dX13_becomes_64 rfl (lv_at hl 1 rfl) ?_
        obtain ⟨u7_0, hu_7, hsp⟩ := ox_bind hsp
        try dsimp only at hsp
        have hPc := hP.sub (ws' := [(h0, .inr (13, z_6)), (qf100, .inl (cf100, 48000, .inl f100))]) [2, 3] rfl
        have hDc := hD.sub (ws' := [(h0, .inr (13, z_6)), (qf100, .inl (cf100, 48000, .inl f100))]) [2, 3] (by decide) rfl
        have hKc := hK.sub (tys' := [(cf100, .int)]) [2] rfl
        have hFc := va_free (wc := [(h0, .inr (13, z_6)), (qf100, .inl (cf100, 48000, .inl f100))]) hD hS hA [2, 3] rfl
        refine va_calli (va_runV (As := [.int v132, .int l2_20]) (rest := [.int l2_20]) ⟨hx, hb, hml, hown, hts⟩ (tm_byteAt l dC dI H.size h0 z_6 v132 l2_20 qf100 cf100 f100 nf u7_0 hln_6 hfk_6_100 hu_7) (cwV 2 hts gv_h9_58 rfl rfl rfl (by decide +kernel) ⟨Nat.le_of_ble_eq_true rfl, Nat.le_of_ble_eq_true rfl⟩) ⟨fun a U g mk q => by obtain ⟨q0, q1, qP, qK, qD⟩ := q; exact ⟨q0, q1, qP, va_K.moved (u := U) (U := U.calling g mk a) (Vm.Alike.refl U.vm) qK, qD⟩, va_recv hKc hPc (ci := 13) (q0 := 0) rfl rfl, fun U hU hW => ⟨rfl, by rw [hU], by rw [hU]; exact hPc, va_K.moved hW.alike hKc, hDc.weaken (fun _ _ _ _ => trivial)⟩⟩ rfl rfl hl.1 rfl (lv_room (Nat.le_of_ble_eq_true rfl)) dX13_becomes_65 ⟨Nat.le_of_ble_eq_true rfl, Nat.le_of_ble_eq_true rfl⟩) hS (fun q _ h => hFc q h) hFc ?_
        clear hS
        intro r_16 u t H1 locs ht hvm hw hB hz1 hk1 hS
        obtain ⟨z_7, rfl⟩ : ∃ z, z = u := ⟨_, rfl⟩
        obtain ⟨hP1, hK1, hD1⟩ := hB
        rw [ht] at hP1
        have hK1 := va_K.moved hvm.symm hK1
        try dsimp only at hw
        have hPD := va_join (wr := [(qf128, .inl (cf128, 31, .inl g128_20)), (qf127, .inl (cf127, 30, .inl (upd (upd g127_20 (l4_20 : Int32).toNatClampNeg 0) (l4_20 : Int32).toNatClampNeg u6_0))), (qf102, .inl (cf102, 2048, .inl f102)), (qf104, .inl (cf104, 8, .inl f104)), (qf118, .inl (cf118, 2100, .inl g906_1)), (qf119, .inl (cf119, 2100, .inl g906_2))]) (w1 := [(h0, .inr (13, z_7)), (qf100, .inl (cf100, 48000, .inl f100))]) hP hD [2, 3] [0, 1, 4, 5, 6, 7] rfl rfl (by decide) (by decide) hk1 hFc hP1 hD1
        clear hP hD
        obtain ⟨hP, hD⟩ := hPD
        replace hK := (hK.sub (tys' := [(cf128, .int), (cf127, .int), (cf102, .int), (cf104, .int), (cf118, .int), (cf119, .int)]) [0, 1, 3, 4, 5, 6] rfl).app hK1
        clear hPc hDc hKc hFc hP1 hK1 hD1 hz1 hk1 ht hvm
        generalize H1 = H at hP hS ⊢
        replace hP : va_P (dC, dI) vwCl [(qf128, .inl (cf128, 31, .inl g128_20)), (qf127, .inl (cf127, 30, .inl (upd (upd g127_20 (l4_20 : Int32).toNatClampNeg 0) (l4_20 : Int32).toNatClampNeg u6_0))), (qf102, .inl (cf102, 2048, .inl f102)), (qf104, .inl (cf104, 8, .inl f104)), (qf118, .inl (cf118, 2100, .inl g906_1)), (qf119, .inl (cf119, 2100, .inl g906_2)), (h0, .inr (13, z_7)), (qf100, .inl (cf100, 48000, .inl f100))] H := hP
        replace hD : va_D A [(qf128, .inl (cf128, 31, .inl g128_20)), (qf127, .inl (cf127, 30, .inl (upd (upd g127_20 (l4_20 : Int32).toNatClampNeg 0) (l4_20 : Int32).toNatClampNeg u6_0))), (qf102, .inl (cf102, 2048, .inl f102)), (qf104, .inl (cf104, 8, .inl f104)), (qf118, .inl (cf118, 2100, .inl g906_1)), (qf119, .inl (cf119, 2100, .inl g906_2)), (h0, .inr (13, z_7)), (qf100, .inl (cf100, 48000, .inl f100))] := hD
        replace hK : va_K (dC, dI) vwCl [(cf128, .int), (cf127, .int), (cf102, .int), (cf104, .int), (cf118, .int), (cf119, .int), (cf100, .int)] s := hK
        obtain ⟨hwa_7, hln_7, hre_7⟩ := hw
        have hfk_7_98 : z_7[98]? = some (.int v98) := (hre_7 98 ).trans (hfk_6_98)
        have hfk_7_100 : z_7[100]? = some (.ref qf100) := (hre_7 100 ).trans (hfk_6_100)
        have hfk_7_102 : z_7[102]? = some (.ref qf102) := (hre_7 102 ).trans (hfk_6_102)
        have hfk_7_104 : z_7[104]? = some (.ref qf104) := (hre_7 104 ).trans (hfk_6_104)
        have hfk_7_117 : z_7[117]? = some (.int u6_3) := (hre_7 117 ).trans (hch_6_117)
        have hfk_7_118 : z_7[118]? = some (.ref qf118) := (hre_7 118 ).trans (hfk_6_118)
        have hfk_7_119 : z_7[119]? = some (.ref qf119) := (hre_7 119 ).trans (hfk_6_119)
        have hfk_7_120 : z_7[120]? = some (.int u6_4) := (hre_7 120 ).trans (hch_6_120)
        have hfk_7_127 : z_7[127]? = some (.ref qf127) := (hre_7 127 ).trans (hfk_6_127)
        have hfk_7_128 : z_7[128]? = some (.ref qf128) := (hre_7 128 ).trans (hfk_6_128)
        have hfk_7_129 : z_7[129]? = some (.int v129) := (hre_7 129 ).trans (hfk_6_129)
        have hfk_7_131 : z_7[131]? = some (.int x131_20) := (hre_7 131 ).trans (hfk_6_131)
        have hfk_7_132 : z_7[132]? = some (.int v132) := (hre_7 132 ).trans (hfk_6_132)
        have hrq_7 : ∀ j : Nat, j ≠ 117 → j ≠ 120 → j ≠ 131 → z_7[j]? = zs[j]? := fun j g117 g120 g131 => (hre_7 j ).trans (hrq_6 j g117 g120 g131)
        obtain rfl := hwa_7
        refine lv_iconst (v := 3) hx hb dX13_becomes_68 (by decide) ?_
        refine lv_icmp_ne (tgt := 76) hx hb dX13_becomes_69 (by decide) (fun c_17 => ?_) (fun c_17 => ?_)
        · rw [if_neg c_17] at hsp
          refine lv_iconst (v := 1) hx hb dX13_becomes_76 (by decide) ?_
          refine lv_iadd hx hb dX13_becomes_77 ?_
          refine lv_istore_n (lv' := [(2, .int (l2_20 + 1)), (4, .int l4_20), (3, .int l3_20), (0, .ref h0), (1, .int l1_20)]) hx hb dX13_becomes_78 rfl hl (by decide) rfl (fun ls hl => ?_)
          refine lv_iinc (v := (l4_20 + 1)) (lv' := [(4, .int (l4_20 + 1)), (2, .int (l2_20 + 1)), (3, .int l3_20), (0, .ref h0), (1, .int l1_20)]) hx hb dX13_becomes_79 hl (k := 1) rfl rfl (by decide) rfl (fun ls hl => ?_)
          refine lv_goto (tgt := 20) hx hb dX13_becomes_82 (by decide) ?_
          exact ih_20 H locs ls z_7 l1_20 (l2_20 + 1) l3_20 (l4_20 + 1) g906_1 g906_2 (upd (upd g127_20 (l4_20 : Int32).toNatClampNeg 0) (l4_20 : Int32).toNatClampNeg u6_0) g128_20 u6_3 u6_4 x131_20 (hfk_7_98) (hfk_7_100) (hfk_7_102) (hfk_7_104) (hfk_7_117) (hfk_7_118) (hfk_7_119) (hfk_7_120) (hfk_7_127) (hfk_7_128) (hfk_7_129) (hfk_7_131) (hfk_7_132) hln_7 hrq_7 (lv_sub hl [0, 1, 2, 3, 4] rfl) hS (hD.sub (ws' := [(h0, .inr (13, z_7)), (qf100, .inl (cf100, 48000, .inl f100)), (qf102, .inl (cf102, 2048, .inl f102)), (qf104, .inl (cf104, 8, .inl f104)), (qf118, .inl (cf118, 2100, .inl g906_1)), (qf119, .inl (cf119, 2100, .inl g906_2)), (qf128, .inl (cf128, 31, .inl g128_20)), (qf127, .inl (cf127, 30, .inl (upd (upd g127_20 (l4_20 : Int32).toNatClampNeg 0) (l4_20 : Int32).toNatClampNeg u6_0)))]) [6, 7, 2, 3, 4, 5, 0, 1] (by decide) rfl) (hP.sub (ws' := [(h0, .inr (13, z_7)), (qf100, .inl (cf100, 48000, .inl f100)), (qf102, .inl (cf102, 2048, .inl f102)), (qf104, .inl (cf104, 8, .inl f104)), (qf118, .inl (cf118, 2100, .inl g906_1)), (qf119, .inl (cf119, 2100, .inl g906_2)), (qf128, .inl (cf128, 31, .inl g128_20)), (qf127, .inl (cf127, 30, .inl (upd (upd g127_20 (l4_20 : Int32).toNatClampNeg 0) (l4_20 : Int32).toNatClampNeg u6_0)))]) [6, 7, 2, 3, 4, 5, 0, 1] rfl) hsp
        · rw [if_pos c_17] at hsp
          refine lv_iconst (v := 2) hx hb dX13_becomes_72 (by decide) ?_
          refine lv_goto (tgt := 77) hx hb dX13_becomes_73 (by decide) ?_
          refine lv_iadd hx hb dX13_becomes_77 ?_
          refine lv_istore_n (lv' := [(2, .int (l2_20 + 2)), (4, .int l4_20), (3, .int l3_20), (0, .ref h0), (1, .int l1_20)]) hx hb dX13_becomes_78 rfl hl (by decide) rfl (fun ls hl => ?_)
          refine lv_iinc (v := (l4_20 + 1)) (lv' := [(4, .int (l4_20 + 1)), (2, .int (l2_20 + 2)), (3, .int l3_20), (0, .ref h0), (1, .int l1_20)]) hx hb dX13_becomes_79 hl (k := 1) rfl rfl (by decide) rfl (fun ls hl => ?_)
          refine lv_goto (tgt := 20) hx hb dX13_becomes_82 (by decide) ?_
          exact ih_20 H locs ls z_7 l1_20 (l2_20 + 2) l3_20 (l4_20 + 1) g906_1 g906_2 (upd (upd g127_20 (l4_20 : Int32).toNatClampNeg 0) (l4_20 : Int32).toNatClampNeg u6_0) g128_20 u6_3 u6_4 x131_20 (hfk_7_98) (hfk_7_100) (hfk_7_102) (hfk_7_104) (hfk_7_117) (hfk_7_118) (hfk_7_119) (hfk_7_120) (hfk_7_127) (hfk_7_128) (hfk_7_129) (hfk_7_131) (hfk_7_132) hln_7 hrq_7 (lv_sub hl [0, 1, 2, 3, 4] rfl) hS (hD.sub (ws' := [(h0, .inr (13, z_7)), (qf100, .inl (cf100, 48000, .inl f100)), (qf102, .inl (cf102, 2048, .inl f102)), (qf104, .inl (cf104, 8, .inl f104)), (qf118, .inl (cf118, 2100, .inl g906_1)), (qf119, .inl (cf119, 2100, .inl g906_2)), (qf128, .inl (cf128, 31, .inl g128_20)), (qf127, .inl (cf127, 30, .inl (upd (upd g127_20 (l4_20 : Int32).toNatClampNeg 0) (l4_20 : Int32).toNatClampNeg u6_0)))]) [6, 7, 2, 3, 4, 5, 0, 1] (by decide) rfl) (hP.sub (ws' := [(h0, .inr (13, z_7)), (qf100, .inl (cf100, 48000, .inl f100)), (qf102, .inl (cf102, 2048, .inl f102)), (qf104, .inl (cf104, 8, .inl f104)), (qf118, .inl (cf118, 2100, .inl g906_1)), (qf119, .inl (cf119, 2100, .inl g906_2)), (qf128, .inl (cf128, 31, .inl g128_20)), (qf127, .inl (cf127, 30, .inl (upd (upd g127_20 (l4_20 : Int32).toNatClampNeg 0) (l4_20 : Int32).toNatClampNeg u6_0)))]) [6, 7, 2, 3, 4, 5, 0, 1] rfl) hsp
      · rw [if_neg c_13] at hsp
        refine lv_goto (tgt := 79) hx hb dX13_becomes_43 (by decide) ?_
        refine lv_iinc (v := (l4_20 + 1)) (lv' := [(4, .int (l4_20 + 1)), (2, .int l2_20), (3, .int l3_20), (0, .ref h0), (1, .int l1_20)]) hx hb dX13_becomes_79 hl (k := 0) rfl rfl (by decide) rfl (fun ls hl => ?_)
        refine lv_goto (tgt := 20) hx hb dX13_becomes_82 (by decide) ?_
        exact ih_20 H locs ls z20 l1_20 l2_20 l3_20 (l4_20 + 1) g118_20 g119_20 (upd g127_20 (l4_20 : Int32).toNatClampNeg 0) g128_20 x117_20 x120_20 x131_20 (hfh_20_98) (hfh_20_100) (hfh_20_102) (hfh_20_104) (hfh_20_117) (hfh_20_118) (hfh_20_119) (hfh_20_120) (hfh_20_127) (hfh_20_128) (hfh_20_129) (hfh_20_131) (hfh_20_132) hlh_20 hrh_20 (lv_sub hl [0, 1, 2, 3, 4] rfl) hS (hD.sub (ws' := [(h0, .inr (13, z20)), (qf100, .inl (cf100, 48000, .inl f100)), (qf102, .inl (cf102, 2048, .inl f102)), (qf104, .inl (cf104, 8, .inl f104)), (qf118, .inl (cf118, 2100, .inl g118_20)), (qf119, .inl (cf119, 2100, .inl g119_20)), (qf128, .inl (cf128, 31, .inl g128_20)), (qf127, .inl (cf127, 30, .inl (upd g127_20 (l4_20 : Int32).toNatClampNeg 0)))]) [0, 1, 2, 3, 4, 5, 6, 7] (by decide) rfl) (hP.sub (ws' := [(h0, .inr (13, z20)), (qf100, .inl (cf100, 48000, .inl f100)), (qf102, .inl (cf102, 2048, .inl f102)), (qf104, .inl (cf104, 8, .inl f104)), (qf118, .inl (cf118, 2100, .inl g118_20)), (qf119, .inl (cf119, 2100, .inl g119_20)), (qf128, .inl (cf128, 31, .inl g128_20)), (qf127, .inl (cf127, 30, .inl (upd g127_20 (l4_20 : Int32).toNatClampNeg 0)))]) [0, 1, 2, 3, 4, 5, 6, 7] rfl) hsp
def jn_vm_handlerFits_94 (nf : Nat) (a1 : Int32) (v98 : Int32) (v117 : Int32) (v120 : Int32) (v132 : Int32) (v133 : Int32) (v135 : Int32) (f100 : Nat → Int32) (f126 : Nat → Int32) (f102 : Nat → Int32) (f104 : Nat → Int32) (f118 : Nat → Int32) (f119 : Nat → Int32) (f111 : Nat → Int32) (f105 : Nat → Int32) (nS477 : Nat) (fS477 : Nat → Int32)  (l1_94 : Int32) (l4_94 : Int32) (s0_94 : Int32) (g118_94 : Nat → Int32) (g119_94 : Nat → Int32) (x117_94 : Int32) (x120_94 : Int32) : Option (Int32 × (Nat → Int32) × (Nat → Int32) × Int32 × Int32) := ((sp_tm_byteAt nf v132 (l1_94 + 6) f100).bind (fun p1 => ((sp_vm_typeOfClass nf v132 p1 v98 x117_94 x120_94 f102 f100 f104 g118_94 g119_94 nS477 fS477).bind (fun p2 => (if s0_94 = 0 then (some (0, p2.2.1, p2.2.2.1, p2.2.2.2.1, p2.2.2.2.2)) else ((sp_tn_frameFor nf l4_94 v132 v133 f111 f100).bind (fun p3 => (if p3 = (-1) then (some (0, p2.2.1, p2.2.2.1, p2.2.2.2.1, p2.2.2.2.2)) else ((sp_tm_isThere nf p2.1).bind (fun p4 => (if p4 = 0 then (some (0, p2.2.1, p2.2.2.1, p2.2.2.2.1, p2.2.2.2.2)) else ((sp_vm_goes nf p2.1 6 v98 f105 f102 f100 f104 nS477 fS477).bind (fun p5 => (if p5 = 0 then (some (0, p2.2.1, p2.2.2.1, p2.2.2.2.1, p2.2.2.2.2)) else (some (1, p2.2.1, p2.2.2.1, p2.2.2.2.1, p2.2.2.2.2))))))))))))))))
def jn_vm_handlerFits_93 (nf : Nat) (a1 : Int32) (v98 : Int32) (v117 : Int32) (v120 : Int32) (v132 : Int32) (v133 : Int32) (v135 : Int32) (f100 : Nat → Int32) (f126 : Nat → Int32) (f102 : Nat → Int32) (f104 : Nat → Int32) (f118 : Nat → Int32) (f119 : Nat → Int32) (f111 : Nat → Int32) (f105 : Nat → Int32) (nS477 : Nat) (fS477 : Nat → Int32)  (l1_93 : Int32) (l4_93 : Int32) (g118_93 : Nat → Int32) (g119_93 : Nat → Int32) (x117_93 : Int32) (x120_93 : Int32) : Option (Int32 × (Nat → Int32) × (Nat → Int32) × Int32 × Int32) := (jn_vm_handlerFits_94 nf a1 v98 v117 v120 v132 v133 v135 f100 f126 f102 f104 f118 f119 f111 f105 nS477 fS477  l1_93 l4_93 0 g118_93 g119_93 x117_93 x120_93)
def jn_vm_handlerFits_84 (nf : Nat) (a1 : Int32) (v98 : Int32) (v117 : Int32) (v120 : Int32) (v132 : Int32) (v133 : Int32) (v135 : Int32) (f100 : Nat → Int32) (f126 : Nat → Int32) (f102 : Nat → Int32) (f104 : Nat → Int32) (f118 : Nat → Int32) (f119 : Nat → Int32) (f111 : Nat → Int32) (f105 : Nat → Int32) (nS477 : Nat) (fS477 : Nat → Int32)  (l1_84 : Int32) (l2_84 : Int32) (l3_84 : Int32) (l4_84 : Int32) (g118_84 : Nat → Int32) (g119_84 : Nat → Int32) (x117_84 : Int32) (x120_84 : Int32) : Option (Int32 × (Nat → Int32) × (Nat → Int32) × Int32 × Int32) := (if l3_84 ≤ l2_84 then (jn_vm_handlerFits_93 nf a1 v98 v117 v120 v132 v133 v135 f100 f126 f102 f104 f118 f119 f111 f105 nS477 fS477  l1_84 l4_84 g118_84 g119_84 x117_84 x120_84) else (jn_vm_handlerFits_94 nf a1 v98 v117 v120 v132 v133 v135 f100 f126 f102 f104 f118 f119 f111 f105 nS477 fS477  l1_84 l4_84 1 g118_84 g119_84 x117_84 x120_84))
def sp_vm_handlerFits (nf : Nat) (a1 : Int32) (v98 : Int32) (v117 : Int32) (v120 : Int32) (v132 : Int32) (v133 : Int32) (v135 : Int32) (f100 : Nat → Int32) (f126 : Nat → Int32) (f102 : Nat → Int32) (f104 : Nat → Int32) (f118 : Nat → Int32) (f119 : Nat → Int32) (f111 : Nat → Int32) (f105 : Nat → Int32) (nS477 : Nat) (fS477 : Nat → Int32) : Option (Int32 × (Nat → Int32) × (Nat → Int32) × Int32 × Int32) := ((sp_tm_pairIn nf a1 v132 f100).bind (fun p1 => ((sp_tm_pairIn nf (a1 + 2) v132 f100).bind (fun p2 => ((sp_tm_pairIn nf (a1 + 4) v132 f100).bind (fun p3 => (if v135 ≤ p1 then (jn_vm_handlerFits_93 nf a1 v98 v117 v120 v132 v133 v135 f100 f126 f102 f104 f118 f119 f111 f105 nS477 fS477  a1 p3 f118 f119 v117 v120) else (if p1 < 0 then none else if 1501 ≤ (p1 : Int32).toNatClampNeg then none else (if (f126 (p1 : Int32).toNatClampNeg) = 0 then (jn_vm_handlerFits_93 nf a1 v98 v117 v120 v132 v133 v135 f100 f126 f102 f104 f118 f119 f111 f105 nS477 fS477  a1 p3 f118 f119 v117 v120) else (if v135 ≤ p3 then (jn_vm_handlerFits_93 nf a1 v98 v117 v120 v132 v133 v135 f100 f126 f102 f104 f118 f119 f111 f105 nS477 fS477  a1 p3 f118 f119 v117 v120) else (if p3 < 0 then none else if 1501 ≤ (p3 : Int32).toNatClampNeg then none else (if (f126 (p3 : Int32).toNatClampNeg) = 0 then (jn_vm_handlerFits_93 nf a1 v98 v117 v120 v132 v133 v135 f100 f126 f102 f104 f118 f119 f111 f105 nS477 fS477  a1 p3 f118 f119 v117 v120) else (if p2 = v135 then (jn_vm_handlerFits_84 nf a1 v98 v117 v120 v132 v133 v135 f100 f126 f102 f104 f118 f119 f111 f105 nS477 fS477  a1 p1 p2 p3 f118 f119 v117 v120) else (if v135 ≤ p2 then (jn_vm_handlerFits_93 nf a1 v98 v117 v120 v132 v133 v135 f100 f126 f102 f104 f118 f119 f111 f105 nS477 fS477  a1 p3 f118 f119 v117 v120) else (if p2 < 0 then none else if 1501 ≤ (p2 : Int32).toNatClampNeg then none else (if (f126 (p2 : Int32).toNatClampNeg) = 0 then (jn_vm_handlerFits_93 nf a1 v98 v117 v120 v132 v133 v135 f100 f126 f102 f104 f118 f119 f111 f105 nS477 fS477  a1 p3 f118 f119 v117 v120) else (jn_vm_handlerFits_84 nf a1 v98 v117 v120 v132 v133 v135 f100 f126 f102 f104 f118 f119 f111 f105 nS477 fS477  a1 p1 p2 p3 f118 f119 v117 v120)))))))))))))))))
set_option maxHeartbeats 4000000 in
set_option maxRecDepth 100000 in
/-- ClassMillModel.handlerFits -/
theorem vm_handlerFits (l : Launch) (dC : Nat → ClassId) (dI : Nat → Nat → Nat) (sz : Nat) (h0 : Nat) (zs : (List Value)) (a1 : Int32) (v98 : Int32) (qf100 : Nat) (qf102 : Nat) (qf104 : Nat) (qf105 : Nat) (qf111 : Nat) (v117 : Int32) (qf118 : Nat) (qf119 : Nat) (v120 : Int32) (qf126 : Nat) (v132 : Int32) (v133 : Int32) (v135 : Int32) (cf100 : ClassId) (f100 : (Nat → Int32)) (cf126 : ClassId) (f126 : (Nat → Int32)) (cf102 : ClassId) (f102 : (Nat → Int32)) (cf104 : ClassId) (f104 : (Nat → Int32)) (cf118 : ClassId) (f118 : (Nat → Int32)) (cf119 : ClassId) (f119 : (Nat → Int32)) (cf111 : ClassId) (f111 : (Nat → Int32)) (cf105 : ClassId) (f105 : (Nat → Int32)) (nS477 : Nat) (fS477 : (Nat → Int32)) (hS477 : Nat) (qS477 : Nat) (tS477 : String) (nf : Nat) (r0 : Int32) (o118 : (Nat → Int32)) (o119 : (Nat → Int32)) (w117 : Int32) (w120 : Int32) (hlen : zs.length = 155) (hf98 : zs[98]? = some (.int v98)) (hf100 : zs[100]? = some (.ref qf100)) (hf102 : zs[102]? = some (.ref qf102)) (hf104 : zs[104]? = some (.ref qf104)) (hf105 : zs[105]? = some (.ref qf105)) (hf111 : zs[111]? = some (.ref qf111)) (hf117 : zs[117]? = some (.int v117)) (hf118 : zs[118]? = some (.ref qf118)) (hf119 : zs[119]? = some (.ref qf119)) (hf120 : zs[120]? = some (.int v120)) (hf126 : zs[126]? = some (.ref qf126)) (hf132 : zs[132]? = some (.int v132)) (hf133 : zs[133]? = some (.int v133)) (hf135 : zs[135]? = some (.int v135)) (hsp : sp_vm_handlerFits nf a1 v98 v117 v120 v132 v133 v135 f100 f126 f102 f104 f118 f119 f111 f105 nS477 fS477 = some (r0, o118, o119, w117, w120)) : Met l yX13_handlerFits (.code yX13_handlerFits cX13_handlerFits 7 (some .boolean) :: VS_h9) ({ frames := 10, cells := 0, slots := 0, locals := 229 }) (va_Pc [.ref h0, .int a1] (fun U => U.heap.size = sz ∧ va_P (dC, dI) vwCl [(h0, .inr (13, zs)), (qf100, .inl (cf100, 48000, .inl f100)), (qf126, .inl (cf126, 1501, .inl f126)), (qf102, .inl (cf102, 2048, .inl f102)), (qf104, .inl (cf104, 8, .inl f104)), (qf118, .inl (cf118, 2100, .inl f118)), (qf119, .inl (cf119, 2100, .inl f119)), (qf111, .inl (cf111, 96, .inl f111)), (qf105, .inl (cf105, 8, .inl f105))] U.heap ∧ va_K (dC, dI) vwCl [(cf100, .int), (cf126, .boolean), (cf102, .int), (cf104, .int), (cf118, .int), (cf119, .int), (cf111, .int), (cf105, .int)] U ∧ va_D (fun _ => True) [(h0, .inr (13, zs)), (qf100, .inl (cf100, 48000, .inl f100)), (qf126, .inl (cf126, 1501, .inl f126)), (qf102, .inl (cf102, 2048, .inl f102)), (qf104, .inl (cf104, 8, .inl f104)), (qf118, .inl (cf118, 2100, .inl f118)), (qf119, .inl (cf119, 2100, .inl f119)), (qf111, .inl (cf111, 96, .inl f111)), (qf105, .inl (cf105, 8, .inl f105))] ∧ pz_W nS477 fS477 hS477 qS477 (va_A [(h0, .inr (13, zs)), (qf100, .inl (cf100, 48000, .inl f100)), (qf126, .inl (cf126, 1501, .inl f126)), (qf102, .inl (cf102, 2048, .inl f102)), (qf104, .inl (cf104, 8, .inl f104)), (qf118, .inl (cf118, 2100, .inl f118)), (qf119, .inl (cf119, 2100, .inl f119)), (qf111, .inl (cf111, 96, .inl f111)), (qf105, .inl (cf105, 8, .inl f105))] sz) U U.heap ∧ vk_R RX13 477 tS477 hS477 U)) (va_Qi (fun (r : Int32) (u : (List Value)) => match u with | (zo1) => (r0 = r ∧ (r0 = 0 ∨ r0 = 1)) ∧ zo1.length = 155 ∧ (∀ j : Nat, j ≠ 117 → j ≠ 120 → zo1[j]? = zs[j]?) ∧ zo1[117]? = some (.int w117) ∧ zo1[120]? = some (.int w120)) (fun (u : (List Value)) (t : State) => match u with | (zo1) => va_P (dC, dI) vwCl [(h0, .inr (13, zo1)), (qf100, .inl (cf100, 48000, .inl f100)), (qf126, .inl (cf126, 1501, .inl f126)), (qf102, .inl (cf102, 2048, .inl f102)), (qf104, .inl (cf104, 8, .inl f104)), (qf118, .inl (cf118, 2100, .inl o118)), (qf119, .inl (cf119, 2100, .inl o119)), (qf111, .inl (cf111, 96, .inl f111)), (qf105, .inl (cf105, 8, .inl f105))] t.heap ∧ va_K (dC, dI) vwCl [(cf100, .int), (cf126, .boolean), (cf102, .int), (cf104, .int), (cf118, .int), (cf119, .int), (cf111, .int), (cf105, .int)] t ∧ va_D (va_A [(h0, .inr (13, zs)), (qf100, .inl (cf100, 48000, .inl f100)), (qf126, .inl (cf126, 1501, .inl f126)), (qf102, .inl (cf102, 2048, .inl f102)), (qf104, .inl (cf104, 8, .inl f104)), (qf118, .inl (cf118, 2100, .inl f118)), (qf119, .inl (cf119, 2100, .inl f119)), (qf111, .inl (cf111, 96, .inl f111)), (qf105, .inl (cf105, 8, .inl f105))] sz) [(h0, .inr (13, zo1)), (qf100, .inl (cf100, 48000, .inl f100)), (qf126, .inl (cf126, 1501, .inl f126)), (qf102, .inl (cf102, 2048, .inl f102)), (qf104, .inl (cf104, 8, .inl f104)), (qf118, .inl (cf118, 2100, .inl o118)), (qf119, .inl (cf119, 2100, .inl o119)), (qf111, .inl (cf111, 96, .inl f111)), (qf105, .inl (cf105, 8, .inl f105))]) (va_A [(h0, .inr (13, zs)), (qf100, .inl (cf100, 48000, .inl f100)), (qf126, .inl (cf126, 1501, .inl f126)), (qf102, .inl (cf102, 2048, .inl f102)), (qf104, .inl (cf104, 8, .inl f104)), (qf118, .inl (cf118, 2100, .inl f118)), (qf119, .inl (cf119, 2100, .inl f119)), (qf111, .inl (cf111, 96, .inl f111)), (qf105, .inl (cf105, 8, .inl f105))] sz)) 0 0 (va_A [(h0, .inr (13, zs)), (qf100, .inl (cf100, 48000, .inl f100)), (qf126, .inl (cf126, 1501, .inl f126)), (qf102, .inl (cf102, 2048, .inl f102)), (qf104, .inl (cf104, 8, .inl f104)), (qf118, .inl (cf118, 2100, .inl f118)), (qf119, .inl (cf119, 2100, .inl f119)), (qf111, .inl (cf111, 96, .inl f111)), (qf105, .inl (cf105, 8, .inl f105))] sz) := by
  refine Met.ofW (cc := cX13_handlerFits) (maxL := 7) (ret := (some .boolean)) (by decide) rfl ?_
  intro p e s m args below meth c s₁ B hml hv
  obtain ⟨rfl, hsz, hP, hK, hD0, hZWS477, hZRS477⟩ := hv
  have hx := B.exec
  have hb := B.bytes
  have hr := B.returns
  have hts := atoms_spec (ws := (.code yX13_handlerFits cX13_handlerFits 7 (some .boolean) :: VS_h9)) B.pre
  replace hts := fun w (h : w ∈ VS_h9) => hts w (List.mem_cons_of_mem _ h)
  have hown : s.vm.findClass RX13 = some m.cls := findClass_of_methodNamed B.named
  have hlocks := B.notSynchronized
  subst hsz
  have hD := hD0.self (sz := s.heap.size)
  generalize hAe : va_A [(h0, .inr (13, zs)), (qf100, .inl (cf100, 48000, .inl f100)), (qf126, .inl (cf126, 1501, .inl f126)), (qf102, .inl (cf102, 2048, .inl f102)), (qf104, .inl (cf104, 8, .inl f104)), (qf118, .inl (cf118, 2100, .inl f118)), (qf119, .inl (cf119, 2100, .inl f119)), (qf111, .inl (cf111, 96, .inl f111)), (qf105, .inl (cf105, 8, .inl f105))] s.heap.size = A at hD hZWS477 ⊢
  have hA : ∀ q : Nat, s.heap.size ≤ q → A q := fun q h => by rw [← hAe]; exact Or.inr h
  have hP : va_P (dC, dI) vwCl [(h0, .inr (13, zs)), (qf100, .inl (cf100, 48000, .inl f100)), (qf126, .inl (cf126, 1501, .inl f126)), (qf102, .inl (cf102, 2048, .inl f102)), (qf104, .inl (cf104, 8, .inl f104)), (qf118, .inl (cf118, 2100, .inl f118)), (qf119, .inl (cf119, 2100, .inl f119)), (qf111, .inl (cf111, 96, .inl f111)), (qf105, .inl (cf105, 8, .inl f105))] s.heap := hP
  have hl := lv_entry ([.ref h0, .int a1]) (n := 7) (Nat.le_of_ble_eq_true rfl)
  rw [lg_entry_eq]
  generalize (lg_sl ([.ref h0, .int a1]) ++ List.replicate (7 - (lg_sl ([.ref h0, .int a1])).length) Slot.unset).toArray = ls at hl ⊢
  have hl : lv_has ls 7 [(0, .ref h0), (1, .int a1)] := hl
  obtain ⟨H, hH⟩ : ∃ H : Heap, s.heap = H := ⟨_, rfl⟩
  rw [hH] at hP ⊢
  have hS : va_S A s.heap H [] := by rw [← hH]; exact va_S.rf
  obtain ⟨locs, hlo⟩ : ∃ locs : List Loc, locs = [] := ⟨_, rfl⟩
  rw [← hlo] at hS ⊢
  have hrs0 : ∀ j : Nat, j ≠ 117 → j ≠ 120 → zs[j]? = zs[j]? := fun _ _ _  => rfl
  unfold sp_vm_handlerFits at hsp
  refine jn_use (α := Heap × List Loc × Array Slot × List Value × Int32 × Int32 × Int32 × (Nat → Int32) × (Nat → Int32) × Int32 × Int32) (fun x9 => x9.1) (fun x9 => x9.2.1) (fun x9 => F0 m 94 x9.2.2.1 [.int (x9.2.2.2.2.2.2.1)]) (fun x9 => match x9 with | (H, locs, ls, z94, l1_94, l4_94, s0_94, g118_94, g119_94, x117_94, x120_94) => lv_has ls 7 [(0, .ref h0), (1, .int l1_94), (4, .int l4_94)] ∧ va_S A s.heap H locs ∧ va_D A [(h0, .inr (13, z94)), (qf100, .inl (cf100, 48000, .inl f100)), (qf126, .inl (cf126, 1501, .inl f126)), (qf102, .inl (cf102, 2048, .inl f102)), (qf104, .inl (cf104, 8, .inl f104)), (qf118, .inl (cf118, 2100, .inl g118_94)), (qf119, .inl (cf119, 2100, .inl g119_94)), (qf111, .inl (cf111, 96, .inl f111)), (qf105, .inl (cf105, 8, .inl f105))] ∧ va_P (dC, dI) vwCl [(h0, .inr (13, z94)), (qf100, .inl (cf100, 48000, .inl f100)), (qf126, .inl (cf126, 1501, .inl f126)), (qf102, .inl (cf102, 2048, .inl f102)), (qf104, .inl (cf104, 8, .inl f104)), (qf118, .inl (cf118, 2100, .inl g118_94)), (qf119, .inl (cf119, 2100, .inl g119_94)), (qf111, .inl (cf111, 96, .inl f111)), (qf105, .inl (cf105, 8, .inl f105))] H ∧ z94[98]? = some (.int v98) ∧ z94[100]? = some (.ref qf100) ∧ z94[102]? = some (.ref qf102) ∧ z94[104]? = some (.ref qf104) ∧ z94[105]? = some (.ref qf105) ∧ z94[111]? = some (.ref qf111) ∧ z94[117]? = some (.int x117_94) ∧ z94[118]? = some (.ref qf118) ∧ z94[119]? = some (.ref qf119) ∧ z94[120]? = some (.int x120_94) ∧ z94[126]? = some (.ref qf126) ∧ z94[132]? = some (.int v132) ∧ z94[133]? = some (.int v133) ∧ z94[135]? = some (.int v135) ∧ z94.length = 155 ∧ (∀ j : Nat, j ≠ 117 → j ≠ 120 → z94[j]? = zs[j]?) ∧ jn_vm_handlerFits_94 nf a1 v98 v117 v120 v132 v133 v135 f100 f126 f102 f104 f118 f119 f111 f105 nS477 fS477 l1_94 l4_94 s0_94 g118_94 g119_94 x117_94 x120_94 = some (r0, o118, o119, w117, w120)) ?_ ?_
  · intro x9 hJ9
    obtain ⟨H, locs, ls, z94, l1_94, l4_94, s0_94, g118_94, g119_94, x117_94, x120_94⟩ := x9
    obtain ⟨hl, hS, hD, hP, hfh_94_98, hfh_94_100, hfh_94_102, hfh_94_104, hfh_94_105, hfh_94_111, hfh_94_117, hfh_94_118, hfh_94_119, hfh_94_120, hfh_94_126, hfh_94_132, hfh_94_133, hfh_94_135, hlh_94, hrh_94, hsp⟩ := hJ9
    replace hl : lv_has ls 7 [(0, .ref h0), (1, .int l1_94), (4, .int l4_94)] := hl
    replace hS : va_S A s.heap H locs := hS
    replace hD : va_D A [(h0, .inr (13, z94)), (qf100, .inl (cf100, 48000, .inl f100)), (qf126, .inl (cf126, 1501, .inl f126)), (qf102, .inl (cf102, 2048, .inl f102)), (qf104, .inl (cf104, 8, .inl f104)), (qf118, .inl (cf118, 2100, .inl g118_94)), (qf119, .inl (cf119, 2100, .inl g119_94)), (qf111, .inl (cf111, 96, .inl f111)), (qf105, .inl (cf105, 8, .inl f105))] := hD
    replace hP : va_P (dC, dI) vwCl [(h0, .inr (13, z94)), (qf100, .inl (cf100, 48000, .inl f100)), (qf126, .inl (cf126, 1501, .inl f126)), (qf102, .inl (cf102, 2048, .inl f102)), (qf104, .inl (cf104, 8, .inl f104)), (qf118, .inl (cf118, 2100, .inl g118_94)), (qf119, .inl (cf119, 2100, .inl g119_94)), (qf111, .inl (cf111, 96, .inl f111)), (qf105, .inl (cf105, 8, .inl f105))] H := hP
    replace hsp : jn_vm_handlerFits_94 nf a1 v98 v117 v120 v132 v133 v135 f100 f126 f102 f104 f118 f119 f111 f105 nS477 fS477 l1_94 l4_94 s0_94 g118_94 g119_94 x117_94 x120_94 = some (r0, o118, o119, w117, w120) := hsp
    show W _ _ _ _ _ _ _ _ _ _ H locs _ _ _ (F0 m 94 ls [.int s0_94])
    unfold jn_vm_handlerFits_94 at hsp
    try dsimp only at hsp
    refine lv_istore (lv' := [(5, .int s0_94), (0, .ref h0), (1, .int l1_94), (4, .int l4_94)]) hx hb dX13_handlerFits_94 hl (by decide) rfl (fun ls hl => ?_)
    refine lv_aload_n hx hb dX13_handlerFits_96 rfl (lv_at hl 1 rfl) ?_
    refine lv_aload_n hx hb dX13_handlerFits_97 rfl (lv_at hl 1 rfl) ?_
    refine va_get (D := (dC, dI)) (ci := 13) (v := .int v132) (C := RX13) (T := TX13) (N := 155) hx hb hts uV_h9_X13 hown hK hP 0 rfl rfl 132 (by decide) (hts (.fieldLink RX13 932 "ClassMillModel" "inClass" "I") mw_h9_533) (fun _ h9 => h9) hfh_94_132 dX13_handlerFits_98 ?_
    refine lv_aload_n hx hb dX13_handlerFits_101 rfl (lv_at hl 1 rfl) ?_
    refine lv_aload_n hx hb dX13_handlerFits_102 rfl (lv_at hl 1 rfl) ?_
    refine va_get (D := (dC, dI)) (ci := 13) (v := .int v132) (C := RX13) (T := TX13) (N := 155) hx hb hts uV_h9_X13 hown hK hP 0 rfl rfl 132 (by decide) (hts (.fieldLink RX13 932 "ClassMillModel" "inClass" "I") mw_h9_533) (fun _ h9 => h9) hfh_94_132 dX13_handlerFits_103 ?_
    refine lv_iload_n hx hb dX13_handlerFits_106 rfl (lv_at hl 2 rfl) ?_
    refine lv_bipush (v := 6) hx hb dX13_handlerFits_107 (by decide) ?_
    refine lv_iadd hx hb dX13_handlerFits_109 ?_
    obtain ⟨u4_0, hu_4, hsp⟩ := ox_bind hsp
    try dsimp only at hsp
    have hPc := hP.sub (ws' := [(h0, .inr (13, z94)), (qf100, .inl (cf100, 48000, .inl f100))]) [0, 1] rfl
    have hDc := hD.sub (ws' := [(h0, .inr (13, z94)), (qf100, .inl (cf100, 48000, .inl f100))]) [0, 1] (by decide) rfl
    have hKc := hK.sub (tys' := [(cf100, .int)]) [0] rfl
    have hFc := va_free (wc := [(h0, .inr (13, z94)), (qf100, .inl (cf100, 48000, .inl f100))]) hD hS hA [0, 1] rfl
    refine va_calli (va_runV (As := [.int v132, .int (l1_94 + 6)]) (rest := [.int v132, .ref h0]) ⟨hx, hb, hml, hown, hts⟩ (tm_byteAt l dC dI H.size h0 z94 v132 ((l1_94 + 6)) qf100 cf100 f100 nf u4_0 hlh_94 hfh_94_100 hu_4) (cwV 2 hts gv_h9_58 rfl rfl rfl (by decide +kernel) ⟨Nat.le_of_ble_eq_true rfl, Nat.le_of_ble_eq_true rfl⟩) ⟨fun a U g mk q => by obtain ⟨q0, q1, qP, qK, qD⟩ := q; exact ⟨q0, q1, qP, va_K.moved (u := U) (U := U.calling g mk a) (Vm.Alike.refl U.vm) qK, qD⟩, va_recv hKc hPc (ci := 13) (q0 := 0) rfl rfl, fun U hU hW => ⟨rfl, by rw [hU], by rw [hU]; exact hPc, va_K.moved hW.alike hKc, hDc.weaken (fun _ _ _ _ => trivial)⟩⟩ rfl rfl hl.1 rfl (lv_room (Nat.le_of_ble_eq_true rfl)) dX13_handlerFits_110 ⟨Nat.le_of_ble_eq_true rfl, Nat.le_of_ble_eq_true rfl⟩) hS (fun q _ h => hFc q h) hFc ?_
    clear hS
    intro r_15 u t H1 locs ht hvm hw hB hz1 hk1 hS
    obtain ⟨z_4, rfl⟩ : ∃ z, z = u := ⟨_, rfl⟩
    obtain ⟨hP1, hK1, hD1⟩ := hB
    rw [ht] at hP1
    have hK1 := va_K.moved hvm.symm hK1
    try dsimp only at hw
    have hPD := va_join (wr := [(qf126, .inl (cf126, 1501, .inl f126)), (qf102, .inl (cf102, 2048, .inl f102)), (qf104, .inl (cf104, 8, .inl f104)), (qf118, .inl (cf118, 2100, .inl g118_94)), (qf119, .inl (cf119, 2100, .inl g119_94)), (qf111, .inl (cf111, 96, .inl f111)), (qf105, .inl (cf105, 8, .inl f105))]) (w1 := [(h0, .inr (13, z_4)), (qf100, .inl (cf100, 48000, .inl f100))]) hP hD [0, 1] [2, 3, 4, 5, 6, 7, 8] rfl rfl (by decide) (by decide) hk1 hFc hP1 hD1
    clear hP hD
    obtain ⟨hP, hD⟩ := hPD
    replace hK := (hK.sub (tys' := [(cf126, .boolean), (cf102, .int), (cf104, .int), (cf118, .int), (cf119, .int), (cf111, .int), (cf105, .int)]) [1, 2, 3, 4, 5, 6, 7] rfl).app hK1
    clear hPc hDc hKc hFc hP1 hK1 hD1 hz1 hk1 ht hvm
    generalize H1 = H at hP hS ⊢
    replace hP : va_P (dC, dI) vwCl [(qf126, .inl (cf126, 1501, .inl f126)), (qf102, .inl (cf102, 2048, .inl f102)), (qf104, .inl (cf104, 8, .inl f104)), (qf118, .inl (cf118, 2100, .inl g118_94)), (qf119, .inl (cf119, 2100, .inl g119_94)), (qf111, .inl (cf111, 96, .inl f111)), (qf105, .inl (cf105, 8, .inl f105)), (h0, .inr (13, z_4)), (qf100, .inl (cf100, 48000, .inl f100))] H := hP
    replace hD : va_D A [(qf126, .inl (cf126, 1501, .inl f126)), (qf102, .inl (cf102, 2048, .inl f102)), (qf104, .inl (cf104, 8, .inl f104)), (qf118, .inl (cf118, 2100, .inl g118_94)), (qf119, .inl (cf119, 2100, .inl g119_94)), (qf111, .inl (cf111, 96, .inl f111)), (qf105, .inl (cf105, 8, .inl f105)), (h0, .inr (13, z_4)), (qf100, .inl (cf100, 48000, .inl f100))] := hD
    replace hK : va_K (dC, dI) vwCl [(cf126, .boolean), (cf102, .int), (cf104, .int), (cf118, .int), (cf119, .int), (cf111, .int), (cf105, .int), (cf100, .int)] s := hK
    obtain ⟨hwa_4, hln_4, hre_4⟩ := hw
    have hfk_4_98 : z_4[98]? = some (.int v98) := (hre_4 98 ).trans (hfh_94_98)
    have hfk_4_100 : z_4[100]? = some (.ref qf100) := (hre_4 100 ).trans (hfh_94_100)
    have hfk_4_102 : z_4[102]? = some (.ref qf102) := (hre_4 102 ).trans (hfh_94_102)
    have hfk_4_104 : z_4[104]? = some (.ref qf104) := (hre_4 104 ).trans (hfh_94_104)
    have hfk_4_105 : z_4[105]? = some (.ref qf105) := (hre_4 105 ).trans (hfh_94_105)
    have hfk_4_111 : z_4[111]? = some (.ref qf111) := (hre_4 111 ).trans (hfh_94_111)
    have hfk_4_117 : z_4[117]? = some (.int x117_94) := (hre_4 117 ).trans (hfh_94_117)
    have hfk_4_118 : z_4[118]? = some (.ref qf118) := (hre_4 118 ).trans (hfh_94_118)
    have hfk_4_119 : z_4[119]? = some (.ref qf119) := (hre_4 119 ).trans (hfh_94_119)
    have hfk_4_120 : z_4[120]? = some (.int x120_94) := (hre_4 120 ).trans (hfh_94_120)
    have hfk_4_126 : z_4[126]? = some (.ref qf126) := (hre_4 126 ).trans (hfh_94_126)
    have hfk_4_132 : z_4[132]? = some (.int v132) := (hre_4 132 ).trans (hfh_94_132)
    have hfk_4_133 : z_4[133]? = some (.int v133) := (hre_4 133 ).trans (hfh_94_133)
    have hfk_4_135 : z_4[135]? = some (.int v135) := (hre_4 135 ).trans (hfh_94_135)
    have hrq_4 : ∀ j : Nat, j ≠ 117 → j ≠ 120 → z_4[j]? = zs[j]? := fun j g117 g120 => (hre_4 j ).trans (hrh_94 j g117 g120)
    obtain rfl := hwa_4
    obtain ⟨⟨u5_0, g905_1, g905_2, u5_3, u5_4⟩, hu_5, hsp⟩ := ox_bind hsp
    try dsimp only at hsp
    have hPc := hP.sub (ws' := [(h0, .inr (13, z_4)), (qf102, .inl (cf102, 2048, .inl f102)), (qf100, .inl (cf100, 48000, .inl f100)), (qf104, .inl (cf104, 8, .inl f104)), (qf118, .inl (cf118, 2100, .inl g118_94)), (qf119, .inl (cf119, 2100, .inl g119_94))]) [7, 1, 8, 2, 3, 4] rfl
    have hDc := hD.sub (ws' := [(h0, .inr (13, z_4)), (qf102, .inl (cf102, 2048, .inl f102)), (qf100, .inl (cf100, 48000, .inl f100)), (qf104, .inl (cf104, 8, .inl f104)), (qf118, .inl (cf118, 2100, .inl g118_94)), (qf119, .inl (cf119, 2100, .inl g119_94))]) [7, 1, 8, 2, 3, 4] (by decide) rfl
    have hKc := hK.sub (tys' := [(cf102, .int), (cf100, .int), (cf104, .int), (cf118, .int), (cf119, .int)]) [1, 7, 2, 3, 4] rfl
    have hFc := va_free (wc := [(h0, .inr (13, z_4)), (qf102, .inl (cf102, 2048, .inl f102)), (qf100, .inl (cf100, 48000, .inl f100)), (qf104, .inl (cf104, 8, .inl f104)), (qf118, .inl (cf118, 2100, .inl g118_94)), (qf119, .inl (cf119, 2100, .inl g119_94))]) hD hS hA [7, 1, 8, 2, 3, 4] rfl
    refine va_calli (va_runV (As := [.int v132, .int u4_0]) (rest := []) ⟨hx, hb, hml, hown, hts⟩ (vm_typeOfClass l dC dI H.size h0 z_4 v132 u4_0 v98 qf100 qf102 qf104 x117_94 qf118 qf119 x120_94 cf102 f102 cf100 f100 cf104 f104 cf118 g118_94 cf119 g119_94 nS477 fS477 hS477 qS477 tS477 nf u5_0 g905_1 g905_2 u5_3 u5_4 hln_4 hfk_4_98 hfk_4_100 hfk_4_102 hfk_4_104 hfk_4_117 hfk_4_118 hfk_4_119 hfk_4_120 hu_5) (cwV 2 hts gv_h9_108 rfl rfl rfl (by decide +kernel) ⟨Nat.le_of_ble_eq_true rfl, Nat.le_of_ble_eq_true rfl⟩) ⟨fun a U g mk q => by obtain ⟨q0, q1, qP, qK, qD, qhZWS477, qhZRS477⟩ := q; exact ⟨q0, q1, qP, va_K.moved (u := U) (U := U.calling g mk a) (Vm.Alike.refl U.vm) qK, qD, pz_W.moved (u := U) (U := U.calling g mk a) (Vm.Alike.refl U.vm) qhZWS477, vk_R.same rfl qhZRS477⟩, va_recv hKc hPc (ci := 13) (q0 := 0) rfl rfl, fun U hU hW => ⟨rfl, by rw [hU], by rw [hU]; exact hPc, va_K.moved hW.alike hKc, hDc.weaken (fun _ _ _ _ => trivial), by rw [hU]; exact ((pz_W.moved hW.alike hZWS477).kept hS.2.1).narrow hFc, vk_R.warm hW hZRS477⟩⟩ rfl rfl hl.1 rfl (lv_room (Nat.le_of_ble_eq_true rfl)) dX13_handlerFits_113 ⟨Nat.le_of_ble_eq_true rfl, Nat.le_of_ble_eq_true rfl⟩) hS (fun q _ h => hFc q h) hFc ?_
    clear hS
    intro r_16 u t H1 locs ht hvm hw hB hz1 hk1 hS
    obtain ⟨z_5, rfl⟩ : ∃ z, z = u := ⟨_, rfl⟩
    obtain ⟨hP1, hK1, hD1⟩ := hB
    rw [ht] at hP1
    have hK1 := va_K.moved hvm.symm hK1
    try dsimp only at hw
    have hPD := va_join (wr := [(qf126, .inl (cf126, 1501, .inl f126)), (qf111, .inl (cf111, 96, .inl f111)), (qf105, .inl (cf105, 8, .inl f105))]) (w1 := [(h0, .inr (13, z_5)), (qf102, .inl (cf102, 2048, .inl f102)), (qf100, .inl (cf100, 48000, .inl f100)), (qf104, .inl (cf104, 8, .inl f104)), (qf118, .inl (cf118, 2100, .inl g905_1)), (qf119, .inl (cf119, 2100, .inl g905_2))]) hP hD [7, 1, 8, 2, 3, 4] [0, 5, 6] rfl rfl (by decide) (by decide) hk1 hFc hP1 hD1
    clear hP hD
    obtain ⟨hP, hD⟩ := hPD
    replace hK := (hK.sub (tys' := [(cf126, .boolean), (cf111, .int), (cf105, .int)]) [0, 5, 6] rfl).app hK1
    clear hPc hDc hKc hFc hP1 hK1 hD1 hz1 hk1 ht hvm
    generalize H1 = H at hP hS ⊢
    replace hP : va_P (dC, dI) vwCl [(qf126, .inl (cf126, 1501, .inl f126)), (qf111, .inl (cf111, 96, .inl f111)), (qf105, .inl (cf105, 8, .inl f105)), (h0, .inr (13, z_5)), (qf102, .inl (cf102, 2048, .inl f102)), (qf100, .inl (cf100, 48000, .inl f100)), (qf104, .inl (cf104, 8, .inl f104)), (qf118, .inl (cf118, 2100, .inl g905_1)), (qf119, .inl (cf119, 2100, .inl g905_2))] H := hP
    replace hD : va_D A [(qf126, .inl (cf126, 1501, .inl f126)), (qf111, .inl (cf111, 96, .inl f111)), (qf105, .inl (cf105, 8, .inl f105)), (h0, .inr (13, z_5)), (qf102, .inl (cf102, 2048, .inl f102)), (qf100, .inl (cf100, 48000, .inl f100)), (qf104, .inl (cf104, 8, .inl f104)), (qf118, .inl (cf118, 2100, .inl g905_1)), (qf119, .inl (cf119, 2100, .inl g905_2))] := hD
    replace hK : va_K (dC, dI) vwCl [(cf126, .boolean), (cf111, .int), (cf105, .int), (cf102, .int), (cf100, .int), (cf104, .int), (cf118, .int), (cf119, .int)] s := hK
    obtain ⟨hwa_5, hln_5, hre_5, hch_5_117, hch_5_120⟩ := hw
    have hfk_5_98 : z_5[98]? = some (.int v98) := (hre_5 98 (by decide) (by decide)).trans (hfk_4_98)
    have hfk_5_100 : z_5[100]? = some (.ref qf100) := (hre_5 100 (by decide) (by decide)).trans (hfk_4_100)
    have hfk_5_102 : z_5[102]? = some (.ref qf102) := (hre_5 102 (by decide) (by decide)).trans (hfk_4_102)
    have hfk_5_104 : z_5[104]? = some (.ref qf104) := (hre_5 104 (by decide) (by decide)).trans (hfk_4_104)
    have hfk_5_105 : z_5[105]? = some (.ref qf105) := (hre_5 105 (by decide) (by decide)).trans (hfk_4_105)
    have hfk_5_111 : z_5[111]? = some (.ref qf111) := (hre_5 111 (by decide) (by decide)).trans (hfk_4_111)
    have hfk_5_118 : z_5[118]? = some (.ref qf118) := (hre_5 118 (by decide) (by decide)).trans (hfk_4_118)
    have hfk_5_119 : z_5[119]? = some (.ref qf119) := (hre_5 119 (by decide) (by decide)).trans (hfk_4_119)
    have hfk_5_126 : z_5[126]? = some (.ref qf126) := (hre_5 126 (by decide) (by decide)).trans (hfk_4_126)
    have hfk_5_132 : z_5[132]? = some (.int v132) := (hre_5 132 (by decide) (by decide)).trans (hfk_4_132)
    have hfk_5_133 : z_5[133]? = some (.int v133) := (hre_5 133 (by decide) (by decide)).trans (hfk_4_133)
    have hfk_5_135 : z_5[135]? = some (.int v135) := (hre_5 135 (by decide) (by decide)).trans (hfk_4_135)
    have hrq_5 : ∀ j : Nat, j ≠ 117 → j ≠ 120 → z_5[j]? = zs[j]? := fun j g117 g120 => (hre_5 j g117 g120).trans (hrq_4 j g117 g120)
    obtain rfl := hwa_5
    refine lv_istore (lv' := [(6, .int u5_0), (5, .int s0_94), (0, .ref h0), (1, .int l1_94), (4, .int l4_94)]) hx hb dX13_handlerFits_116 hl (by decide) rfl (fun ls hl => ?_)
    refine lv_iload hx hb dX13_handlerFits_118 (lv_at hl 1 rfl) ?_
    refine lv_if_eq (tgt := 156) hx hb dX13_handlerFits_120 (by decide) (fun c_17 => ?_) (fun c_17 => ?_)
    · rw [if_pos c_17] at hsp
      refine lv_iconst (v := 0) hx hb dX13_handlerFits_156 (by decide) ?_
      have hr0 := Option.some.inj hsp
      clear hsp
      obtain ⟨hq0, hr1⟩ := Prod.mk.inj hr0
      clear hr0
      obtain ⟨hq1, hr2⟩ := Prod.mk.inj hr1
      clear hr1
      obtain ⟨hq2, hr3⟩ := Prod.mk.inj hr2
      clear hr2
      obtain ⟨hq3, hr4⟩ := Prod.mk.inj hr3
      clear hr3
      subst hq0
      subst hq1
      subst hq2
      subst hq3
      subst hr4
      have hP9 := hP.sub (ws' := [(h0, .inr (13, z_5)), (qf100, .inl (cf100, 48000, .inl f100)), (qf126, .inl (cf126, 1501, .inl f126)), (qf102, .inl (cf102, 2048, .inl f102)), (qf104, .inl (cf104, 8, .inl f104)), (qf118, .inl (cf118, 2100, .inl g905_1)), (qf119, .inl (cf119, 2100, .inl g905_2)), (qf111, .inl (cf111, 96, .inl f111)), (qf105, .inl (cf105, 8, .inl f105))]) [3, 5, 0, 4, 6, 7, 8, 1, 2] rfl
      have hD9 := hD.sub (ws' := [(h0, .inr (13, z_5)), (qf100, .inl (cf100, 48000, .inl f100)), (qf126, .inl (cf126, 1501, .inl f126)), (qf102, .inl (cf102, 2048, .inl f102)), (qf104, .inl (cf104, 8, .inl f104)), (qf118, .inl (cf118, 2100, .inl g905_1)), (qf119, .inl (cf119, 2100, .inl g905_2)), (qf111, .inl (cf111, 96, .inl f111)), (qf105, .inl (cf105, 8, .inl f105))]) [3, 5, 0, 4, 6, 7, 8, 1, 2] (by decide) rfl
      have hK9 := hK.sub (tys' := [(cf100, .int), (cf126, .boolean), (cf102, .int), (cf104, .int), (cf118, .int), (cf119, .int), (cf111, .int), (cf105, .int)]) [4, 0, 3, 5, 6, 7, 1, 2] rfl
      exact W.zret hx hb hr (by decide) (fun t ht hW => ⟨⟨(0), (z_5), rfl, ⟨⟨rfl, Or.inl rfl⟩, hln_5, hrq_5, hch_5_117, hch_5_120⟩, by rw [ht]; exact hP9, va_K.moved hW.alike hK9, hD9⟩, hS.F ht⟩) hS.2.2 dX13_handlerFits_157
    · rw [if_neg c_17] at hsp
      refine lv_aload_n hx hb dX13_handlerFits_123 rfl (lv_at hl 2 rfl) ?_
      refine lv_iload hx hb dX13_handlerFits_124 (lv_at hl 4 rfl) ?_
      obtain ⟨u6_0, hu_6, hsp⟩ := ox_bind hsp
      try dsimp only at hsp
      have hPc := hP.sub (ws' := [(h0, .inr (13, z_5)), (qf111, .inl (cf111, 96, .inl f111)), (qf100, .inl (cf100, 48000, .inl f100))]) [3, 1, 5] rfl
      have hDc := hD.sub (ws' := [(h0, .inr (13, z_5)), (qf111, .inl (cf111, 96, .inl f111)), (qf100, .inl (cf100, 48000, .inl f100))]) [3, 1, 5] (by decide) rfl
      have hKc := hK.sub (tys' := [(cf111, .int), (cf100, .int)]) [1, 4] rfl
      have hFc := va_free (wc := [(h0, .inr (13, z_5)), (qf111, .inl (cf111, 96, .inl f111)), (qf100, .inl (cf100, 48000, .inl f100))]) hD hS hA [3, 1, 5] rfl
      refine va_calli (va_runV (As := [.int l4_94]) (rest := []) ⟨hx, hb, hml, hown, hts⟩ (tn_frameFor l dC dI H.size h0 z_5 l4_94 qf100 qf111 v132 v133 cf111 f111 cf100 f100 nf u6_0 hln_5 hfk_5_100 hfk_5_111 hfk_5_132 hfk_5_133 hu_6) (cwV 1 hts gv_h9_64 rfl rfl rfl (by decide +kernel) ⟨Nat.le_of_ble_eq_true rfl, Nat.le_of_ble_eq_true rfl⟩) ⟨fun a U g mk q => by obtain ⟨q0, q1, qP, qK, qD⟩ := q; exact ⟨q0, q1, qP, va_K.moved (u := U) (U := U.calling g mk a) (Vm.Alike.refl U.vm) qK, qD⟩, va_recv hKc hPc (ci := 13) (q0 := 0) rfl rfl, fun U hU hW => ⟨rfl, by rw [hU], by rw [hU]; exact hPc, va_K.moved hW.alike hKc, hDc.weaken (fun _ _ _ _ => trivial)⟩⟩ rfl rfl hl.1 rfl (lv_room (Nat.le_of_ble_eq_true rfl)) dX13_handlerFits_126 ⟨Nat.le_of_ble_eq_true rfl, Nat.le_of_ble_eq_true rfl⟩) hS (fun q _ h => hFc q h) hFc ?_
      clear hS
      intro r_18 u t H1 locs ht hvm hw hB hz1 hk1 hS
      obtain ⟨z_6, rfl⟩ : ∃ z, z = u := ⟨_, rfl⟩
      obtain ⟨hP1, hK1, hD1⟩ := hB
      rw [ht] at hP1
      have hK1 := va_K.moved hvm.symm hK1
      try dsimp only at hw
      have hPD := va_join (wr := [(qf126, .inl (cf126, 1501, .inl f126)), (qf105, .inl (cf105, 8, .inl f105)), (qf102, .inl (cf102, 2048, .inl f102)), (qf104, .inl (cf104, 8, .inl f104)), (qf118, .inl (cf118, 2100, .inl g905_1)), (qf119, .inl (cf119, 2100, .inl g905_2))]) (w1 := [(h0, .inr (13, z_6)), (qf111, .inl (cf111, 96, .inl f111)), (qf100, .inl (cf100, 48000, .inl f100))]) hP hD [3, 1, 5] [0, 2, 4, 6, 7, 8] rfl rfl (by decide) (by decide) hk1 hFc hP1 hD1
      clear hP hD
      obtain ⟨hP, hD⟩ := hPD
      replace hK := (hK.sub (tys' := [(cf126, .boolean), (cf105, .int), (cf102, .int), (cf104, .int), (cf118, .int), (cf119, .int)]) [0, 2, 3, 5, 6, 7] rfl).app hK1
      clear hPc hDc hKc hFc hP1 hK1 hD1 hz1 hk1 ht hvm
      generalize H1 = H at hP hS ⊢
      replace hP : va_P (dC, dI) vwCl [(qf126, .inl (cf126, 1501, .inl f126)), (qf105, .inl (cf105, 8, .inl f105)), (qf102, .inl (cf102, 2048, .inl f102)), (qf104, .inl (cf104, 8, .inl f104)), (qf118, .inl (cf118, 2100, .inl g905_1)), (qf119, .inl (cf119, 2100, .inl g905_2)), (h0, .inr (13, z_6)), (qf111, .inl (cf111, 96, .inl f111)), (qf100, .inl (cf100, 48000, .inl f100))] H := hP
      replace hD : va_D A [(qf126, .inl (cf126, 1501, .inl f126)), (qf105, .inl (cf105, 8, .inl f105)), (qf102, .inl (cf102, 2048, .inl f102)), (qf104, .inl (cf104, 8, .inl f104)), (qf118, .inl (cf118, 2100, .inl g905_1)), (qf119, .inl (cf119, 2100, .inl g905_2)), (h0, .inr (13, z_6)), (qf111, .inl (cf111, 96, .inl f111)), (qf100, .inl (cf100, 48000, .inl f100))] := hD
      replace hK : va_K (dC, dI) vwCl [(cf126, .boolean), (cf105, .int), (cf102, .int), (cf104, .int), (cf118, .int), (cf119, .int), (cf111, .int), (cf100, .int)] s := hK
      obtain ⟨hwa_6, hln_6, hre_6⟩ := hw
      have hfk_6_98 : z_6[98]? = some (.int v98) := (hre_6 98 ).trans (hfk_5_98)
      have hfk_6_100 : z_6[100]? = some (.ref qf100) := (hre_6 100 ).trans (hfk_5_100)
      have hfk_6_102 : z_6[102]? = some (.ref qf102) := (hre_6 102 ).trans (hfk_5_102)
      have hfk_6_104 : z_6[104]? = some (.ref qf104) := (hre_6 104 ).trans (hfk_5_104)
      have hfk_6_105 : z_6[105]? = some (.ref qf105) := (hre_6 105 ).trans (hfk_5_105)
      have hfk_6_111 : z_6[111]? = some (.ref qf111) := (hre_6 111 ).trans (hfk_5_111)
      have hfk_6_117 : z_6[117]? = some (.int u5_3) := (hre_6 117 ).trans (hch_5_117)
      have hfk_6_118 : z_6[118]? = some (.ref qf118) := (hre_6 118 ).trans (hfk_5_118)
      have hfk_6_119 : z_6[119]? = some (.ref qf119) := (hre_6 119 ).trans (hfk_5_119)
      have hfk_6_120 : z_6[120]? = some (.int u5_4) := (hre_6 120 ).trans (hch_5_120)
      have hfk_6_126 : z_6[126]? = some (.ref qf126) := (hre_6 126 ).trans (hfk_5_126)
      have hfk_6_132 : z_6[132]? = some (.int v132) := (hre_6 132 ).trans (hfk_5_132)
      have hfk_6_133 : z_6[133]? = some (.int v133) := (hre_6 133 ).trans (hfk_5_133)
      have hfk_6_135 : z_6[135]? = some (.int v135) := (hre_6 135 ).trans (hfk_5_135)
      have hrq_6 : ∀ j : Nat, j ≠ 117 → j ≠ 120 → z_6[j]? = zs[j]? := fun j g117 g120 => (hre_6 j ).trans (hrq_5 j g117 g120)
      obtain rfl := hwa_6
      refine lv_iconst (v := (-1)) hx hb dX13_handlerFits_129 (by decide) ?_
      refine lv_icmp_eq (tgt := 156) hx hb dX13_handlerFits_130 (by decide) (fun c_19 => ?_) (fun c_19 => ?_)
      · rw [if_pos c_19] at hsp
        refine lv_iconst (v := 0) hx hb dX13_handlerFits_156 (by decide) ?_
        have hr0 := Option.some.inj hsp
        clear hsp
        obtain ⟨hq0, hr1⟩ := Prod.mk.inj hr0
        clear hr0
        obtain ⟨hq1, hr2⟩ := Prod.mk.inj hr1
        clear hr1
        obtain ⟨hq2, hr3⟩ := Prod.mk.inj hr2
        clear hr2
        obtain ⟨hq3, hr4⟩ := Prod.mk.inj hr3
        clear hr3
        subst hq0
        subst hq1
        subst hq2
        subst hq3
        subst hr4
        have hP9 := hP.sub (ws' := [(h0, .inr (13, z_6)), (qf100, .inl (cf100, 48000, .inl f100)), (qf126, .inl (cf126, 1501, .inl f126)), (qf102, .inl (cf102, 2048, .inl f102)), (qf104, .inl (cf104, 8, .inl f104)), (qf118, .inl (cf118, 2100, .inl g905_1)), (qf119, .inl (cf119, 2100, .inl g905_2)), (qf111, .inl (cf111, 96, .inl f111)), (qf105, .inl (cf105, 8, .inl f105))]) [6, 8, 0, 2, 3, 4, 5, 7, 1] rfl
        have hD9 := hD.sub (ws' := [(h0, .inr (13, z_6)), (qf100, .inl (cf100, 48000, .inl f100)), (qf126, .inl (cf126, 1501, .inl f126)), (qf102, .inl (cf102, 2048, .inl f102)), (qf104, .inl (cf104, 8, .inl f104)), (qf118, .inl (cf118, 2100, .inl g905_1)), (qf119, .inl (cf119, 2100, .inl g905_2)), (qf111, .inl (cf111, 96, .inl f111)), (qf105, .inl (cf105, 8, .inl f105))]) [6, 8, 0, 2, 3, 4, 5, 7, 1] (by decide) rfl
        have hK9 := hK.sub (tys' := [(cf100, .int), (cf126, .boolean), (cf102, .int), (cf104, .int), (cf118, .int), (cf119, .int), (cf111, .int), (cf105, .int)]) [7, 0, 2, 3, 4, 5, 6, 1] rfl
        exact W.zret hx hb hr (by decide) (fun t ht hW => ⟨⟨(0), (z_6), rfl, ⟨⟨rfl, Or.inl rfl⟩, hln_6, hrq_6, hfk_6_117, hfk_6_120⟩, by rw [ht]; exact hP9, va_K.moved hW.alike hK9, hD9⟩, hS.F ht⟩) hS.2.2 dX13_handlerFits_157
      · rw [if_neg c_19] at hsp
        refine lv_iload hx hb dX13_handlerFits_133 (lv_at hl 0 rfl) ?_
        obtain ⟨u7_0, hu_7, hsp⟩ := ox_bind hsp
        try dsimp only at hsp
        have hPc := hP.sub (ws' := []) [] rfl
        have hDc := hD.sub (ws' := []) [] (by decide) rfl
        have hKc := hK.sub (tys' := []) [] rfl
        have hFc := va_free (wc := []) hD hS hA [] rfl
        refine va_calli (va_runS (As := [.int u5_0]) (rest := []) ⟨hx, hb, hml, hown, hts⟩ (tm_isThere l dC dI H.size u5_0 nf u7_0 hu_7) (va_cwS 1 hts gv_h9_104 rfl rfl rfl (by decide +kernel) ⟨Nat.le_of_ble_eq_true rfl, Nat.le_of_ble_eq_true rfl⟩) ⟨fun a U g mk q => by obtain ⟨q0, q1, qP, qK, qD⟩ := q; exact ⟨q0, q1, qP, va_K.moved (u := U) (U := U.calling g mk a) (Vm.Alike.refl U.vm) qK, qD⟩, fun U hU hW => ⟨rfl, by rw [hU], by rw [hU]; exact hPc, va_K.moved hW.alike hKc, hDc.weaken (fun _ _ _ _ => trivial)⟩⟩ rfl rfl hl.1 rfl (lv_room (Nat.le_of_ble_eq_true rfl)) dX13_handlerFits_135 ⟨Nat.le_of_ble_eq_true rfl, Nat.le_of_ble_eq_true rfl⟩) hS (fun q _ h => hFc q h) hFc ?_
        clear hS
        intro r_20 u t H1 locs ht hvm hw hB hz1 hk1 hS
        obtain ⟨⟩ := u
        obtain ⟨hP1, hK1, hD1⟩ := hB
        rw [ht] at hP1
        have hK1 := va_K.moved hvm.symm hK1
        try dsimp only at hw
        have hPD := va_join (wr := [(qf126, .inl (cf126, 1501, .inl f126)), (qf105, .inl (cf105, 8, .inl f105)), (qf102, .inl (cf102, 2048, .inl f102)), (qf104, .inl (cf104, 8, .inl f104)), (qf118, .inl (cf118, 2100, .inl g905_1)), (qf119, .inl (cf119, 2100, .inl g905_2)), (h0, .inr (13, z_6)), (qf111, .inl (cf111, 96, .inl f111)), (qf100, .inl (cf100, 48000, .inl f100))]) (w1 := []) hP hD [] [0, 1, 2, 3, 4, 5, 6, 7, 8] rfl rfl (by decide) (by decide) hk1 hFc hP1 hD1
        clear hP hD
        obtain ⟨hP, hD⟩ := hPD
        replace hK := (hK.sub (tys' := [(cf126, .boolean), (cf105, .int), (cf102, .int), (cf104, .int), (cf118, .int), (cf119, .int), (cf111, .int), (cf100, .int)]) [0, 1, 2, 3, 4, 5, 6, 7] rfl).app hK1
        clear hPc hDc hKc hFc hP1 hK1 hD1 hz1 hk1 ht hvm
        generalize H1 = H at hP hS ⊢
        replace hP : va_P (dC, dI) vwCl [(qf126, .inl (cf126, 1501, .inl f126)), (qf105, .inl (cf105, 8, .inl f105)), (qf102, .inl (cf102, 2048, .inl f102)), (qf104, .inl (cf104, 8, .inl f104)), (qf118, .inl (cf118, 2100, .inl g905_1)), (qf119, .inl (cf119, 2100, .inl g905_2)), (h0, .inr (13, z_6)), (qf111, .inl (cf111, 96, .inl f111)), (qf100, .inl (cf100, 48000, .inl f100))] H := hP
        replace hD : va_D A [(qf126, .inl (cf126, 1501, .inl f126)), (qf105, .inl (cf105, 8, .inl f105)), (qf102, .inl (cf102, 2048, .inl f102)), (qf104, .inl (cf104, 8, .inl f104)), (qf118, .inl (cf118, 2100, .inl g905_1)), (qf119, .inl (cf119, 2100, .inl g905_2)), (h0, .inr (13, z_6)), (qf111, .inl (cf111, 96, .inl f111)), (qf100, .inl (cf100, 48000, .inl f100))] := hD
        replace hK : va_K (dC, dI) vwCl [(cf126, .boolean), (cf105, .int), (cf102, .int), (cf104, .int), (cf118, .int), (cf119, .int), (cf111, .int), (cf100, .int)] s := hK
        obtain ⟨rfl, hz_7⟩ := hw
        rcases hz_7 with rfl | rfl
        · rw [if_pos rfl] at hsp
          refine lv_if_eq (tgt := 156) hx hb dX13_handlerFits_138 (by decide) (fun c_21 => ?_) (fun c_21 => (show False by revert c_21; decide).elim)
          refine lv_iconst (v := 0) hx hb dX13_handlerFits_156 (by decide) ?_
          have hr0 := Option.some.inj hsp
          clear hsp
          obtain ⟨hq0, hr1⟩ := Prod.mk.inj hr0
          clear hr0
          obtain ⟨hq1, hr2⟩ := Prod.mk.inj hr1
          clear hr1
          obtain ⟨hq2, hr3⟩ := Prod.mk.inj hr2
          clear hr2
          obtain ⟨hq3, hr4⟩ := Prod.mk.inj hr3
          clear hr3
          subst hq0
          subst hq1
          subst hq2
          subst hq3
          subst hr4
          have hP9 := hP.sub (ws' := [(h0, .inr (13, z_6)), (qf100, .inl (cf100, 48000, .inl f100)), (qf126, .inl (cf126, 1501, .inl f126)), (qf102, .inl (cf102, 2048, .inl f102)), (qf104, .inl (cf104, 8, .inl f104)), (qf118, .inl (cf118, 2100, .inl g905_1)), (qf119, .inl (cf119, 2100, .inl g905_2)), (qf111, .inl (cf111, 96, .inl f111)), (qf105, .inl (cf105, 8, .inl f105))]) [6, 8, 0, 2, 3, 4, 5, 7, 1] rfl
          have hD9 := hD.sub (ws' := [(h0, .inr (13, z_6)), (qf100, .inl (cf100, 48000, .inl f100)), (qf126, .inl (cf126, 1501, .inl f126)), (qf102, .inl (cf102, 2048, .inl f102)), (qf104, .inl (cf104, 8, .inl f104)), (qf118, .inl (cf118, 2100, .inl g905_1)), (qf119, .inl (cf119, 2100, .inl g905_2)), (qf111, .inl (cf111, 96, .inl f111)), (qf105, .inl (cf105, 8, .inl f105))]) [6, 8, 0, 2, 3, 4, 5, 7, 1] (by decide) rfl
          have hK9 := hK.sub (tys' := [(cf100, .int), (cf126, .boolean), (cf102, .int), (cf104, .int), (cf118, .int), (cf119, .int), (cf111, .int), (cf105, .int)]) [7, 0, 2, 3, 4, 5, 6, 1] rfl
          exact W.zret hx hb hr (by decide) (fun t ht hW => ⟨⟨(0), (z_6), rfl, ⟨⟨rfl, Or.inl rfl⟩, hln_6, hrq_6, hfk_6_117, hfk_6_120⟩, by rw [ht]; exact hP9, va_K.moved hW.alike hK9, hD9⟩, hS.F ht⟩) hS.2.2 dX13_handlerFits_157
        · rw [if_neg (by decide)] at hsp
          refine lv_if_eq (tgt := 156) hx hb dX13_handlerFits_138 (by decide) (fun c_22 => (show False by revert c_22; decide).elim) (fun c_22 => ?_)
          refine lv_aload_n hx hb dX13_handlerFits_141 rfl (lv_at hl 2 rfl) ?_
          refine lv_iload hx hb dX13_handlerFits_142 (lv_at hl 0 rfl) ?_
          refine lv_bipush (v := 6) hx hb dX13_handlerFits_144 (by decide) ?_
          obtain ⟨u8_0, hu_8, hsp⟩ := ox_bind hsp
          try dsimp only at hsp
          have hPc := hP.sub (ws' := [(h0, .inr (13, z_6)), (qf105, .inl (cf105, 8, .inl f105)), (qf102, .inl (cf102, 2048, .inl f102)), (qf100, .inl (cf100, 48000, .inl f100)), (qf104, .inl (cf104, 8, .inl f104))]) [6, 1, 2, 8, 3] rfl
          have hDc := hD.sub (ws' := [(h0, .inr (13, z_6)), (qf105, .inl (cf105, 8, .inl f105)), (qf102, .inl (cf102, 2048, .inl f102)), (qf100, .inl (cf100, 48000, .inl f100)), (qf104, .inl (cf104, 8, .inl f104))]) [6, 1, 2, 8, 3] (by decide) rfl
          have hKc := hK.sub (tys' := [(cf105, .int), (cf102, .int), (cf100, .int), (cf104, .int)]) [1, 2, 7, 3] rfl
          have hFc := va_free (wc := [(h0, .inr (13, z_6)), (qf105, .inl (cf105, 8, .inl f105)), (qf102, .inl (cf102, 2048, .inl f102)), (qf100, .inl (cf100, 48000, .inl f100)), (qf104, .inl (cf104, 8, .inl f104))]) hD hS hA [6, 1, 2, 8, 3] rfl
          refine va_calli (va_runV (As := [.int u5_0, .int 6]) (rest := []) ⟨hx, hb, hml, hown, hts⟩ (vm_goes l dC dI H.size h0 z_6 u5_0 6 v98 qf100 qf102 qf104 qf105 cf105 f105 cf102 f102 cf100 f100 cf104 f104 nS477 fS477 hS477 qS477 tS477 nf u8_0 hln_6 hfk_6_98 hfk_6_100 hfk_6_102 hfk_6_104 hfk_6_105 hu_8) (cwV 2 hts gv_h9_110 rfl rfl rfl (by decide +kernel) ⟨Nat.le_of_ble_eq_true rfl, Nat.le_of_ble_eq_true rfl⟩) ⟨fun a U g mk q => by obtain ⟨q0, q1, qP, qK, qD, qhZWS477, qhZRS477⟩ := q; exact ⟨q0, q1, qP, va_K.moved (u := U) (U := U.calling g mk a) (Vm.Alike.refl U.vm) qK, qD, pz_W.moved (u := U) (U := U.calling g mk a) (Vm.Alike.refl U.vm) qhZWS477, vk_R.same rfl qhZRS477⟩, va_recv hKc hPc (ci := 13) (q0 := 0) rfl rfl, fun U hU hW => ⟨rfl, by rw [hU], by rw [hU]; exact hPc, va_K.moved hW.alike hKc, hDc.weaken (fun _ _ _ _ => trivial), by rw [hU]; exact ((pz_W.moved hW.alike hZWS477).kept hS.2.1).narrow hFc, vk_R.warm hW hZRS477⟩⟩ rfl rfl hl.1 rfl (lv_room (Nat.le_of_ble_eq_true rfl)) dX13_handlerFits_146 ⟨Nat.le_of_ble_eq_true rfl, Nat.le_of_ble_eq_true rfl⟩) hS (fun q _ h => hFc q h) hFc ?_
          clear hS
          intro r_23 u t H1 locs ht hvm hw hB hz1 hk1 hS
          obtain ⟨z_8, rfl⟩ : ∃ z, z = u := ⟨_, rfl⟩
          obtain ⟨hP1, hK1, hD1⟩ := hB
          rw [ht] at hP1
          have hK1 := va_K.moved hvm.symm hK1
          try dsimp only at hw
          have hPD := va_join (wr := [(qf126, .inl (cf126, 1501, .inl f126)), (qf118, .inl (cf118, 2100, .inl g905_1)), (qf119, .inl (cf119, 2100, .inl g905_2)), (qf111, .inl (cf111, 96, .inl f111))]) (w1 := [(h0, .inr (13, z_8)), (qf105, .inl (cf105, 8, .inl f105)), (qf102, .inl (cf102, 2048, .inl f102)), (qf100, .inl (cf100, 48000, .inl f100)), (qf104, .inl (cf104, 8, .inl f104))]) hP hD [6, 1, 2, 8, 3] [0, 4, 5, 7] rfl rfl (by decide) (by decide) hk1 hFc hP1 hD1
          clear hP hD
          obtain ⟨hP, hD⟩ := hPD
          replace hK := (hK.sub (tys' := [(cf126, .boolean), (cf118, .int), (cf119, .int), (cf111, .int)]) [0, 4, 5, 6] rfl).app hK1
          clear hPc hDc hKc hFc hP1 hK1 hD1 hz1 hk1 ht hvm
          generalize H1 = H at hP hS ⊢
          replace hP : va_P (dC, dI) vwCl [(qf126, .inl (cf126, 1501, .inl f126)), (qf118, .inl (cf118, 2100, .inl g905_1)), (qf119, .inl (cf119, 2100, .inl g905_2)), (qf111, .inl (cf111, 96, .inl f111)), (h0, .inr (13, z_8)), (qf105, .inl (cf105, 8, .inl f105)), (qf102, .inl (cf102, 2048, .inl f102)), (qf100, .inl (cf100, 48000, .inl f100)), (qf104, .inl (cf104, 8, .inl f104))] H := hP
          replace hD : va_D A [(qf126, .inl (cf126, 1501, .inl f126)), (qf118, .inl (cf118, 2100, .inl g905_1)), (qf119, .inl (cf119, 2100, .inl g905_2)), (qf111, .inl (cf111, 96, .inl f111)), (h0, .inr (13, z_8)), (qf105, .inl (cf105, 8, .inl f105)), (qf102, .inl (cf102, 2048, .inl f102)), (qf100, .inl (cf100, 48000, .inl f100)), (qf104, .inl (cf104, 8, .inl f104))] := hD
          replace hK : va_K (dC, dI) vwCl [(cf126, .boolean), (cf118, .int), (cf119, .int), (cf111, .int), (cf105, .int), (cf102, .int), (cf100, .int), (cf104, .int)] s := hK
          obtain ⟨hwa_8, hln_8, hre_8⟩ := hw
          have hfk_8_98 : z_8[98]? = some (.int v98) := (hre_8 98 ).trans (hfk_6_98)
          have hfk_8_100 : z_8[100]? = some (.ref qf100) := (hre_8 100 ).trans (hfk_6_100)
          have hfk_8_102 : z_8[102]? = some (.ref qf102) := (hre_8 102 ).trans (hfk_6_102)
          have hfk_8_104 : z_8[104]? = some (.ref qf104) := (hre_8 104 ).trans (hfk_6_104)
          have hfk_8_105 : z_8[105]? = some (.ref qf105) := (hre_8 105 ).trans (hfk_6_105)
          have hfk_8_111 : z_8[111]? = some (.ref qf111) := (hre_8 111 ).trans (hfk_6_111)
          have hfk_8_117 : z_8[117]? = some (.int u5_3) := (hre_8 117 ).trans (hfk_6_117)
          have hfk_8_118 : z_8[118]? = some (.ref qf118) := (hre_8 118 ).trans (hfk_6_118)
          have hfk_8_119 : z_8[119]? = some (.ref qf119) := (hre_8 119 ).trans (hfk_6_119)
          have hfk_8_120 : z_8[120]? = some (.int u5_4) := (hre_8 120 ).trans (hfk_6_120)
          have hfk_8_126 : z_8[126]? = some (.ref qf126) := (hre_8 126 ).trans (hfk_6_126)
          have hfk_8_132 : z_8[132]? = some (.int v132) := (hre_8 132 ).trans (hfk_6_132)
          have hfk_8_133 : z_8[133]? = some (.int v133) := (hre_8 133 ).trans (hfk_6_133)
          have hfk_8_135 : z_8[135]? = some (.int v135) := (hre_8 135 ).trans (hfk_6_135)
          have hrq_8 : ∀ j : Nat, j ≠ 117 → j ≠ 120 → z_8[j]? = zs[j]? := fun j g117 g120 => (hre_8 j ).trans (hrq_6 j g117 g120)
          obtain ⟨rfl, hz_8⟩ := hwa_8
          rcases hz_8 with rfl | rfl
          · rw [if_pos rfl] at hsp
            refine lv_if_eq (tgt := 156) hx hb dX13_handlerFits_149 (by decide) (fun c_24 => ?_) (fun c_24 => (show False by revert c_24; decide).elim)
            refine lv_iconst (v := 0) hx hb dX13_handlerFits_156 (by decide) ?_
            have hr0 := Option.some.inj hsp
            clear hsp
            obtain ⟨hq0, hr1⟩ := Prod.mk.inj hr0
            clear hr0
            obtain ⟨hq1, hr2⟩ := Prod.mk.inj hr1
            clear hr1
            obtain ⟨hq2, hr3⟩ := Prod.mk.inj hr2
            clear hr2
            obtain ⟨hq3, hr4⟩ := Prod.mk.inj hr3
            clear hr3
            subst hq0
            subst hq1
            subst hq2
            subst hq3
            subst hr4
            have hP9 := hP.sub (ws' := [(h0, .inr (13, z_8)), (qf100, .inl (cf100, 48000, .inl f100)), (qf126, .inl (cf126, 1501, .inl f126)), (qf102, .inl (cf102, 2048, .inl f102)), (qf104, .inl (cf104, 8, .inl f104)), (qf118, .inl (cf118, 2100, .inl g905_1)), (qf119, .inl (cf119, 2100, .inl g905_2)), (qf111, .inl (cf111, 96, .inl f111)), (qf105, .inl (cf105, 8, .inl f105))]) [4, 7, 0, 6, 8, 1, 2, 3, 5] rfl
            have hD9 := hD.sub (ws' := [(h0, .inr (13, z_8)), (qf100, .inl (cf100, 48000, .inl f100)), (qf126, .inl (cf126, 1501, .inl f126)), (qf102, .inl (cf102, 2048, .inl f102)), (qf104, .inl (cf104, 8, .inl f104)), (qf118, .inl (cf118, 2100, .inl g905_1)), (qf119, .inl (cf119, 2100, .inl g905_2)), (qf111, .inl (cf111, 96, .inl f111)), (qf105, .inl (cf105, 8, .inl f105))]) [4, 7, 0, 6, 8, 1, 2, 3, 5] (by decide) rfl
            have hK9 := hK.sub (tys' := [(cf100, .int), (cf126, .boolean), (cf102, .int), (cf104, .int), (cf118, .int), (cf119, .int), (cf111, .int), (cf105, .int)]) [6, 0, 5, 7, 1, 2, 3, 4] rfl
            exact W.zret hx hb hr (by decide) (fun t ht hW => ⟨⟨(0), (z_8), rfl, ⟨⟨rfl, Or.inl rfl⟩, hln_8, hrq_8, hfk_8_117, hfk_8_120⟩, by rw [ht]; exact hP9, va_K.moved hW.alike hK9, hD9⟩, hS.F ht⟩) hS.2.2 dX13_handlerFits_157
          · rw [if_neg (by decide)] at hsp
            refine lv_if_eq (tgt := 156) hx hb dX13_handlerFits_149 (by decide) (fun c_25 => (show False by revert c_25; decide).elim) (fun c_25 => ?_)
            refine lv_iconst (v := 1) hx hb dX13_handlerFits_152 (by decide) ?_
            refine lv_goto (tgt := 157) hx hb dX13_handlerFits_153 (by decide) ?_
            have hr0 := Option.some.inj hsp
            clear hsp
            obtain ⟨hq0, hr1⟩ := Prod.mk.inj hr0
            clear hr0
            obtain ⟨hq1, hr2⟩ := Prod.mk.inj hr1
            clear hr1
            obtain ⟨hq2, hr3⟩ := Prod.mk.inj hr2
            clear hr2
            obtain ⟨hq3, hr4⟩ := Prod.mk.inj hr3
            clear hr3
            subst hq0
            subst hq1
            subst hq2
            subst hq3
            subst hr4
            have hP9 := hP.sub (ws' := [(h0, .inr (13, z_8)), (qf100, .inl (cf100, 48000, .inl f100)), (qf126, .inl (cf126, 1501, .inl f126)), (qf102, .inl (cf102, 2048, .inl f102)), (qf104, .inl (cf104, 8, .inl f104)), (qf118, .inl (cf118, 2100, .inl g905_1)), (qf119, .inl (cf119, 2100, .inl g905_2)), (qf111, .inl (cf111, 96, .inl f111)), (qf105, .inl (cf105, 8, .inl f105))]) [4, 7, 0, 6, 8, 1, 2, 3, 5] rfl
            have hD9 := hD.sub (ws' := [(h0, .inr (13, z_8)), (qf100, .inl (cf100, 48000, .inl f100)), (qf126, .inl (cf126, 1501, .inl f126)), (qf102, .inl (cf102, 2048, .inl f102)), (qf104, .inl (cf104, 8, .inl f104)), (qf118, .inl (cf118, 2100, .inl g905_1)), (qf119, .inl (cf119, 2100, .inl g905_2)), (qf111, .inl (cf111, 96, .inl f111)), (qf105, .inl (cf105, 8, .inl f105))]) [4, 7, 0, 6, 8, 1, 2, 3, 5] (by decide) rfl
            have hK9 := hK.sub (tys' := [(cf100, .int), (cf126, .boolean), (cf102, .int), (cf104, .int), (cf118, .int), (cf119, .int), (cf111, .int), (cf105, .int)]) [6, 0, 5, 7, 1, 2, 3, 4] rfl
            exact W.zret hx hb hr (by decide) (fun t ht hW => ⟨⟨(1), (z_8), rfl, ⟨⟨rfl, Or.inr rfl⟩, hln_8, hrq_8, hfk_8_117, hfk_8_120⟩, by rw [ht]; exact hP9, va_K.moved hW.alike hK9, hD9⟩, hS.F ht⟩) hS.2.2 dX13_handlerFits_157
  intro hj_94
  refine jn_use (α := Heap × List Loc × Array Slot × List Value × Int32 × Int32 × (Nat → Int32) × (Nat → Int32) × Int32 × Int32) (fun x9 => x9.1) (fun x9 => x9.2.1) (fun x9 => F0 m 93 x9.2.2.1 []) (fun x9 => match x9 with | (H, locs, ls, z93, l1_93, l4_93, g118_93, g119_93, x117_93, x120_93) => lv_has ls 7 [(0, .ref h0), (1, .int l1_93), (4, .int l4_93)] ∧ va_S A s.heap H locs ∧ va_D A [(h0, .inr (13, z93)), (qf100, .inl (cf100, 48000, .inl f100)), (qf126, .inl (cf126, 1501, .inl f126)), (qf102, .inl (cf102, 2048, .inl f102)), (qf104, .inl (cf104, 8, .inl f104)), (qf118, .inl (cf118, 2100, .inl g118_93)), (qf119, .inl (cf119, 2100, .inl g119_93)), (qf111, .inl (cf111, 96, .inl f111)), (qf105, .inl (cf105, 8, .inl f105))] ∧ va_P (dC, dI) vwCl [(h0, .inr (13, z93)), (qf100, .inl (cf100, 48000, .inl f100)), (qf126, .inl (cf126, 1501, .inl f126)), (qf102, .inl (cf102, 2048, .inl f102)), (qf104, .inl (cf104, 8, .inl f104)), (qf118, .inl (cf118, 2100, .inl g118_93)), (qf119, .inl (cf119, 2100, .inl g119_93)), (qf111, .inl (cf111, 96, .inl f111)), (qf105, .inl (cf105, 8, .inl f105))] H ∧ z93[98]? = some (.int v98) ∧ z93[100]? = some (.ref qf100) ∧ z93[102]? = some (.ref qf102) ∧ z93[104]? = some (.ref qf104) ∧ z93[105]? = some (.ref qf105) ∧ z93[111]? = some (.ref qf111) ∧ z93[117]? = some (.int x117_93) ∧ z93[118]? = some (.ref qf118) ∧ z93[119]? = some (.ref qf119) ∧ z93[120]? = some (.int x120_93) ∧ z93[126]? = some (.ref qf126) ∧ z93[132]? = some (.int v132) ∧ z93[133]? = some (.int v133) ∧ z93[135]? = some (.int v135) ∧ z93.length = 155 ∧ (∀ j : Nat, j ≠ 117 → j ≠ 120 → z93[j]? = zs[j]?) ∧ jn_vm_handlerFits_93 nf a1 v98 v117 v120 v132 v133 v135 f100 f126 f102 f104 f118 f119 f111 f105 nS477 fS477 l1_93 l4_93 g118_93 g119_93 x117_93 x120_93 = some (r0, o118, o119, w117, w120)) ?_ ?_
  · intro x9 hJ9
    obtain ⟨H, locs, ls, z93, l1_93, l4_93, g118_93, g119_93, x117_93, x120_93⟩ := x9
    obtain ⟨hl, hS, hD, hP, hfh_93_98, hfh_93_100, hfh_93_102, hfh_93_104, hfh_93_105, hfh_93_111, hfh_93_117, hfh_93_118, hfh_93_119, hfh_93_120, hfh_93_126, hfh_93_132, hfh_93_133, hfh_93_135, hlh_93, hrh_93, hsp⟩ := hJ9
    replace hl : lv_has ls 7 [(0, .ref h0), (1, .int l1_93), (4, .int l4_93)] := hl
    replace hS : va_S A s.heap H locs := hS
    replace hD : va_D A [(h0, .inr (13, z93)), (qf100, .inl (cf100, 48000, .inl f100)), (qf126, .inl (cf126, 1501, .inl f126)), (qf102, .inl (cf102, 2048, .inl f102)), (qf104, .inl (cf104, 8, .inl f104)), (qf118, .inl (cf118, 2100, .inl g118_93)), (qf119, .inl (cf119, 2100, .inl g119_93)), (qf111, .inl (cf111, 96, .inl f111)), (qf105, .inl (cf105, 8, .inl f105))] := hD
    replace hP : va_P (dC, dI) vwCl [(h0, .inr (13, z93)), (qf100, .inl (cf100, 48000, .inl f100)), (qf126, .inl (cf126, 1501, .inl f126)), (qf102, .inl (cf102, 2048, .inl f102)), (qf104, .inl (cf104, 8, .inl f104)), (qf118, .inl (cf118, 2100, .inl g118_93)), (qf119, .inl (cf119, 2100, .inl g119_93)), (qf111, .inl (cf111, 96, .inl f111)), (qf105, .inl (cf105, 8, .inl f105))] H := hP
    replace hsp : jn_vm_handlerFits_93 nf a1 v98 v117 v120 v132 v133 v135 f100 f126 f102 f104 f118 f119 f111 f105 nS477 fS477 l1_93 l4_93 g118_93 g119_93 x117_93 x120_93 = some (r0, o118, o119, w117, w120) := hsp
    show W _ _ _ _ _ _ _ _ _ _ H locs _ _ _ (F0 m 93 ls [])
    unfold jn_vm_handlerFits_93 at hsp
    try dsimp only at hsp
    refine lv_iconst (v := 0) hx hb dX13_handlerFits_93 (by decide) ?_
    exact hj_94 (H, locs, ls, z93, l1_93, l4_93, 0, g118_93, g119_93, x117_93, x120_93) ⟨lv_sub hl [0, 1, 2] rfl, hS, hD.sub (ws' := [(h0, .inr (13, z93)), (qf100, .inl (cf100, 48000, .inl f100)), (qf126, .inl (cf126, 1501, .inl f126)), (qf102, .inl (cf102, 2048, .inl f102)), (qf104, .inl (cf104, 8, .inl f104)), (qf118, .inl (cf118, 2100, .inl g118_93)), (qf119, .inl (cf119, 2100, .inl g119_93)), (qf111, .inl (cf111, 96, .inl f111)), (qf105, .inl (cf105, 8, .inl f105))]) [0, 1, 2, 3, 4, 5, 6, 7, 8] (by decide) rfl, hP.sub (ws' := [(h0, .inr (13, z93)), (qf100, .inl (cf100, 48000, .inl f100)), (qf126, .inl (cf126, 1501, .inl f126)), (qf102, .inl (cf102, 2048, .inl f102)), (qf104, .inl (cf104, 8, .inl f104)), (qf118, .inl (cf118, 2100, .inl g118_93)), (qf119, .inl (cf119, 2100, .inl g119_93)), (qf111, .inl (cf111, 96, .inl f111)), (qf105, .inl (cf105, 8, .inl f105))]) [0, 1, 2, 3, 4, 5, 6, 7, 8] rfl, hfh_93_98, hfh_93_100, hfh_93_102, hfh_93_104, hfh_93_105, hfh_93_111, hfh_93_117, hfh_93_118, hfh_93_119, hfh_93_120, hfh_93_126, hfh_93_132, hfh_93_133, hfh_93_135, hlh_93, hrh_93, hsp⟩
  intro hj_93
  refine jn_use (α := Heap × List Loc × Array Slot × List Value × Int32 × Int32 × Int32 × Int32 × (Nat → Int32) × (Nat → Int32) × Int32 × Int32) (fun x9 => x9.1) (fun x9 => x9.2.1) (fun x9 => F0 m 84 x9.2.2.1 []) (fun x9 => match x9 with | (H, locs, ls, z84, l1_84, l2_84, l3_84, l4_84, g118_84, g119_84, x117_84, x120_84) => lv_has ls 7 [(0, .ref h0), (1, .int l1_84), (2, .int l2_84), (3, .int l3_84), (4, .int l4_84)] ∧ va_S A s.heap H locs ∧ va_D A [(h0, .inr (13, z84)), (qf100, .inl (cf100, 48000, .inl f100)), (qf126, .inl (cf126, 1501, .inl f126)), (qf102, .inl (cf102, 2048, .inl f102)), (qf104, .inl (cf104, 8, .inl f104)), (qf118, .inl (cf118, 2100, .inl g118_84)), (qf119, .inl (cf119, 2100, .inl g119_84)), (qf111, .inl (cf111, 96, .inl f111)), (qf105, .inl (cf105, 8, .inl f105))] ∧ va_P (dC, dI) vwCl [(h0, .inr (13, z84)), (qf100, .inl (cf100, 48000, .inl f100)), (qf126, .inl (cf126, 1501, .inl f126)), (qf102, .inl (cf102, 2048, .inl f102)), (qf104, .inl (cf104, 8, .inl f104)), (qf118, .inl (cf118, 2100, .inl g118_84)), (qf119, .inl (cf119, 2100, .inl g119_84)), (qf111, .inl (cf111, 96, .inl f111)), (qf105, .inl (cf105, 8, .inl f105))] H ∧ z84[98]? = some (.int v98) ∧ z84[100]? = some (.ref qf100) ∧ z84[102]? = some (.ref qf102) ∧ z84[104]? = some (.ref qf104) ∧ z84[105]? = some (.ref qf105) ∧ z84[111]? = some (.ref qf111) ∧ z84[117]? = some (.int x117_84) ∧ z84[118]? = some (.ref qf118) ∧ z84[119]? = some (.ref qf119) ∧ z84[120]? = some (.int x120_84) ∧ z84[126]? = some (.ref qf126) ∧ z84[132]? = some (.int v132) ∧ z84[133]? = some (.int v133) ∧ z84[135]? = some (.int v135) ∧ z84.length = 155 ∧ (∀ j : Nat, j ≠ 117 → j ≠ 120 → z84[j]? = zs[j]?) ∧ jn_vm_handlerFits_84 nf a1 v98 v117 v120 v132 v133 v135 f100 f126 f102 f104 f118 f119 f111 f105 nS477 fS477 l1_84 l2_84 l3_84 l4_84 g118_84 g119_84 x117_84 x120_84 = some (r0, o118, o119, w117, w120)) ?_ ?_
  · intro x9 hJ9
    obtain ⟨H, locs, ls, z84, l1_84, l2_84, l3_84, l4_84, g118_84, g119_84, x117_84, x120_84⟩ := x9
    obtain ⟨hl, hS, hD, hP, hfh_84_98, hfh_84_100, hfh_84_102, hfh_84_104, hfh_84_105, hfh_84_111, hfh_84_117, hfh_84_118, hfh_84_119, hfh_84_120, hfh_84_126, hfh_84_132, hfh_84_133, hfh_84_135, hlh_84, hrh_84, hsp⟩ := hJ9
    replace hl : lv_has ls 7 [(0, .ref h0), (1, .int l1_84), (2, .int l2_84), (3, .int l3_84), (4, .int l4_84)] := hl
    replace hS : va_S A s.heap H locs := hS
    replace hD : va_D A [(h0, .inr (13, z84)), (qf100, .inl (cf100, 48000, .inl f100)), (qf126, .inl (cf126, 1501, .inl f126)), (qf102, .inl (cf102, 2048, .inl f102)), (qf104, .inl (cf104, 8, .inl f104)), (qf118, .inl (cf118, 2100, .inl g118_84)), (qf119, .inl (cf119, 2100, .inl g119_84)), (qf111, .inl (cf111, 96, .inl f111)), (qf105, .inl (cf105, 8, .inl f105))] := hD
    replace hP : va_P (dC, dI) vwCl [(h0, .inr (13, z84)), (qf100, .inl (cf100, 48000, .inl f100)), (qf126, .inl (cf126, 1501, .inl f126)), (qf102, .inl (cf102, 2048, .inl f102)), (qf104, .inl (cf104, 8, .inl f104)), (qf118, .inl (cf118, 2100, .inl g118_84)), (qf119, .inl (cf119, 2100, .inl g119_84)), (qf111, .inl (cf111, 96, .inl f111)), (qf105, .inl (cf105, 8, .inl f105))] H := hP
    replace hsp : jn_vm_handlerFits_84 nf a1 v98 v117 v120 v132 v133 v135 f100 f126 f102 f104 f118 f119 f111 f105 nS477 fS477 l1_84 l2_84 l3_84 l4_84 g118_84 g119_84 x117_84 x120_84 = some (r0, o118, o119, w117, w120) := hsp
    show W _ _ _ _ _ _ _ _ _ _ H locs _ _ _ (F0 m 84 ls [])
    unfold jn_vm_handlerFits_84 at hsp
    try dsimp only at hsp
    refine lv_iload_n hx hb dX13_handlerFits_84 rfl (lv_at hl 2 rfl) ?_
    refine lv_iload_n hx hb dX13_handlerFits_85 rfl (lv_at hl 3 rfl) ?_
    refine lv_icmp_ge (tgt := 93) hx hb dX13_handlerFits_86 (by decide) (fun c_14 => ?_) (fun c_14 => ?_)
    · rw [if_pos c_14] at hsp
      exact hj_93 (H, locs, ls, z84, l1_84, l4_84, g118_84, g119_84, x117_84, x120_84) ⟨lv_sub hl [0, 1, 4] rfl, hS, hD.sub (ws' := [(h0, .inr (13, z84)), (qf100, .inl (cf100, 48000, .inl f100)), (qf126, .inl (cf126, 1501, .inl f126)), (qf102, .inl (cf102, 2048, .inl f102)), (qf104, .inl (cf104, 8, .inl f104)), (qf118, .inl (cf118, 2100, .inl g118_84)), (qf119, .inl (cf119, 2100, .inl g119_84)), (qf111, .inl (cf111, 96, .inl f111)), (qf105, .inl (cf105, 8, .inl f105))]) [0, 1, 2, 3, 4, 5, 6, 7, 8] (by decide) rfl, hP.sub (ws' := [(h0, .inr (13, z84)), (qf100, .inl (cf100, 48000, .inl f100)), (qf126, .inl (cf126, 1501, .inl f126)), (qf102, .inl (cf102, 2048, .inl f102)), (qf104, .inl (cf104, 8, .inl f104)), (qf118, .inl (cf118, 2100, .inl g118_84)), (qf119, .inl (cf119, 2100, .inl g119_84)), (qf111, .inl (cf111, 96, .inl f111)), (qf105, .inl (cf105, 8, .inl f105))]) [0, 1, 2, 3, 4, 5, 6, 7, 8] rfl, hfh_84_98, hfh_84_100, hfh_84_102, hfh_84_104, hfh_84_105, hfh_84_111, hfh_84_117, hfh_84_118, hfh_84_119, hfh_84_120, hfh_84_126, hfh_84_132, hfh_84_133, hfh_84_135, hlh_84, hrh_84, hsp⟩
    · rw [if_neg c_14] at hsp
      refine lv_iconst (v := 1) hx hb dX13_handlerFits_89 (by decide) ?_
      refine lv_goto (tgt := 94) hx hb dX13_handlerFits_90 (by decide) ?_
      exact hj_94 (H, locs, ls, z84, l1_84, l4_84, 1, g118_84, g119_84, x117_84, x120_84) ⟨lv_sub hl [0, 1, 4] rfl, hS, hD.sub (ws' := [(h0, .inr (13, z84)), (qf100, .inl (cf100, 48000, .inl f100)), (qf126, .inl (cf126, 1501, .inl f126)), (qf102, .inl (cf102, 2048, .inl f102)), (qf104, .inl (cf104, 8, .inl f104)), (qf118, .inl (cf118, 2100, .inl g118_84)), (qf119, .inl (cf119, 2100, .inl g119_84)), (qf111, .inl (cf111, 96, .inl f111)), (qf105, .inl (cf105, 8, .inl f105))]) [0, 1, 2, 3, 4, 5, 6, 7, 8] (by decide) rfl, hP.sub (ws' := [(h0, .inr (13, z84)), (qf100, .inl (cf100, 48000, .inl f100)), (qf126, .inl (cf126, 1501, .inl f126)), (qf102, .inl (cf102, 2048, .inl f102)), (qf104, .inl (cf104, 8, .inl f104)), (qf118, .inl (cf118, 2100, .inl g118_84)), (qf119, .inl (cf119, 2100, .inl g119_84)), (qf111, .inl (cf111, 96, .inl f111)), (qf105, .inl (cf105, 8, .inl f105))]) [0, 1, 2, 3, 4, 5, 6, 7, 8] rfl, hfh_84_98, hfh_84_100, hfh_84_102, hfh_84_104, hfh_84_105, hfh_84_111, hfh_84_117, hfh_84_118, hfh_84_119, hfh_84_120, hfh_84_126, hfh_84_132, hfh_84_133, hfh_84_135, hlh_84, hrh_84, hsp⟩
  intro hj_84
  refine lv_aload_n hx hb dX13_handlerFits_0 rfl (lv_at hl 0 rfl) ?_
  refine lv_iload_n hx hb dX13_handlerFits_1 rfl (lv_at hl 1 rfl) ?_
  obtain ⟨u1_0, hu_1, hsp⟩ := ox_bind hsp
  try dsimp only at hsp
  have hPc := hP.sub (ws' := [(h0, .inr (13, zs)), (qf100, .inl (cf100, 48000, .inl f100))]) [0, 1] rfl
  have hDc := hD.sub (ws' := [(h0, .inr (13, zs)), (qf100, .inl (cf100, 48000, .inl f100))]) [0, 1] (by decide) rfl
  have hKc := hK.sub (tys' := [(cf100, .int)]) [0] rfl
  have hFc := va_free (wc := [(h0, .inr (13, zs)), (qf100, .inl (cf100, 48000, .inl f100))]) hD hS hA [0, 1] rfl
  refine va_calli (va_runV (As := [.int a1]) (rest := []) ⟨hx, hb, hml, hown, hts⟩ (tm_pairIn l dC dI H.size h0 zs a1 qf100 v132 cf100 f100 nf u1_0 hlen hf100 hf132 hu_1) (cwV 1 hts gv_h9_62 rfl rfl rfl (by decide +kernel) ⟨Nat.le_of_ble_eq_true rfl, Nat.le_of_ble_eq_true rfl⟩) ⟨fun a U g mk q => by obtain ⟨q0, q1, qP, qK, qD⟩ := q; exact ⟨q0, q1, qP, va_K.moved (u := U) (U := U.calling g mk a) (Vm.Alike.refl U.vm) qK, qD⟩, va_recv hKc hPc (ci := 13) (q0 := 0) rfl rfl, fun U hU hW => ⟨rfl, by rw [hU], by rw [hU]; exact hPc, va_K.moved hW.alike hKc, hDc.weaken (fun _ _ _ _ => trivial)⟩⟩ rfl rfl hl.1 rfl (lv_room (Nat.le_of_ble_eq_true rfl)) dX13_handlerFits_2 ⟨Nat.le_of_ble_eq_true rfl, Nat.le_of_ble_eq_true rfl⟩) hS (fun q _ h => hFc q h) hFc ?_
  clear hS
  intro r_1 u t H1 locs ht hvm hw hB hz1 hk1 hS
  obtain ⟨z_1, rfl⟩ : ∃ z, z = u := ⟨_, rfl⟩
  obtain ⟨hP1, hK1, hD1⟩ := hB
  rw [ht] at hP1
  have hK1 := va_K.moved hvm.symm hK1
  try dsimp only at hw
  have hPD := va_join (wr := [(qf126, .inl (cf126, 1501, .inl f126)), (qf102, .inl (cf102, 2048, .inl f102)), (qf104, .inl (cf104, 8, .inl f104)), (qf118, .inl (cf118, 2100, .inl f118)), (qf119, .inl (cf119, 2100, .inl f119)), (qf111, .inl (cf111, 96, .inl f111)), (qf105, .inl (cf105, 8, .inl f105))]) (w1 := [(h0, .inr (13, z_1)), (qf100, .inl (cf100, 48000, .inl f100))]) hP hD [0, 1] [2, 3, 4, 5, 6, 7, 8] rfl rfl (by decide) (by decide) hk1 hFc hP1 hD1
  clear hP hD
  obtain ⟨hP, hD⟩ := hPD
  replace hK := (hK.sub (tys' := [(cf126, .boolean), (cf102, .int), (cf104, .int), (cf118, .int), (cf119, .int), (cf111, .int), (cf105, .int)]) [1, 2, 3, 4, 5, 6, 7] rfl).app hK1
  clear hPc hDc hKc hFc hP1 hK1 hD1 hz1 hk1 ht hvm
  generalize H1 = H at hP hS ⊢
  replace hP : va_P (dC, dI) vwCl [(qf126, .inl (cf126, 1501, .inl f126)), (qf102, .inl (cf102, 2048, .inl f102)), (qf104, .inl (cf104, 8, .inl f104)), (qf118, .inl (cf118, 2100, .inl f118)), (qf119, .inl (cf119, 2100, .inl f119)), (qf111, .inl (cf111, 96, .inl f111)), (qf105, .inl (cf105, 8, .inl f105)), (h0, .inr (13, z_1)), (qf100, .inl (cf100, 48000, .inl f100))] H := hP
  replace hD : va_D A [(qf126, .inl (cf126, 1501, .inl f126)), (qf102, .inl (cf102, 2048, .inl f102)), (qf104, .inl (cf104, 8, .inl f104)), (qf118, .inl (cf118, 2100, .inl f118)), (qf119, .inl (cf119, 2100, .inl f119)), (qf111, .inl (cf111, 96, .inl f111)), (qf105, .inl (cf105, 8, .inl f105)), (h0, .inr (13, z_1)), (qf100, .inl (cf100, 48000, .inl f100))] := hD
  replace hK : va_K (dC, dI) vwCl [(cf126, .boolean), (cf102, .int), (cf104, .int), (cf118, .int), (cf119, .int), (cf111, .int), (cf105, .int), (cf100, .int)] s := hK
  obtain ⟨hwa_1, hln_1, hre_1⟩ := hw
  have hfk_1_98 : z_1[98]? = some (.int v98) := (hre_1 98 ).trans (hf98)
  have hfk_1_100 : z_1[100]? = some (.ref qf100) := (hre_1 100 ).trans (hf100)
  have hfk_1_102 : z_1[102]? = some (.ref qf102) := (hre_1 102 ).trans (hf102)
  have hfk_1_104 : z_1[104]? = some (.ref qf104) := (hre_1 104 ).trans (hf104)
  have hfk_1_105 : z_1[105]? = some (.ref qf105) := (hre_1 105 ).trans (hf105)
  have hfk_1_111 : z_1[111]? = some (.ref qf111) := (hre_1 111 ).trans (hf111)
  have hfk_1_117 : z_1[117]? = some (.int v117) := (hre_1 117 ).trans (hf117)
  have hfk_1_118 : z_1[118]? = some (.ref qf118) := (hre_1 118 ).trans (hf118)
  have hfk_1_119 : z_1[119]? = some (.ref qf119) := (hre_1 119 ).trans (hf119)
  have hfk_1_120 : z_1[120]? = some (.int v120) := (hre_1 120 ).trans (hf120)
  have hfk_1_126 : z_1[126]? = some (.ref qf126) := (hre_1 126 ).trans (hf126)
  have hfk_1_132 : z_1[132]? = some (.int v132) := (hre_1 132 ).trans (hf132)
  have hfk_1_133 : z_1[133]? = some (.int v133) := (hre_1 133 ).trans (hf133)
  have hfk_1_135 : z_1[135]? = some (.int v135) := (hre_1 135 ).trans (hf135)
  have hrq_1 : ∀ j : Nat, j ≠ 117 → j ≠ 120 → z_1[j]? = zs[j]? := fun j g117 g120 => (hre_1 j ).trans (hrs0 j g117 g120)
  obtain rfl := hwa_1
  refine lv_istore_n (lv' := [(2, .int u1_0), (0, .ref h0), (1, .int a1)]) hx hb dX13_handlerFits_5 rfl hl (by decide) rfl (fun ls hl => ?_)
  refine lv_aload_n hx hb dX13_handlerFits_6 rfl (lv_at hl 1 rfl) ?_
  refine lv_iload_n hx hb dX13_handlerFits_7 rfl (lv_at hl 2 rfl) ?_
  refine lv_iconst (v := 2) hx hb dX13_handlerFits_8 (by decide) ?_
  refine lv_iadd hx hb dX13_handlerFits_9 ?_
  obtain ⟨u2_0, hu_2, hsp⟩ := ox_bind hsp
  try dsimp only at hsp
  have hPc := hP.sub (ws' := [(h0, .inr (13, z_1)), (qf100, .inl (cf100, 48000, .inl f100))]) [7, 8] rfl
  have hDc := hD.sub (ws' := [(h0, .inr (13, z_1)), (qf100, .inl (cf100, 48000, .inl f100))]) [7, 8] (by decide) rfl
  have hKc := hK.sub (tys' := [(cf100, .int)]) [7] rfl
  have hFc := va_free (wc := [(h0, .inr (13, z_1)), (qf100, .inl (cf100, 48000, .inl f100))]) hD hS hA [7, 8] rfl
  refine va_calli (va_runV (As := [.int (a1 + 2)]) (rest := []) ⟨hx, hb, hml, hown, hts⟩ (tm_pairIn l dC dI H.size h0 z_1 ((a1 + 2)) qf100 v132 cf100 f100 nf u2_0 hln_1 hfk_1_100 hfk_1_132 hu_2) (cwV 1 hts gv_h9_62 rfl rfl rfl (by decide +kernel) ⟨Nat.le_of_ble_eq_true rfl, Nat.le_of_ble_eq_true rfl⟩) ⟨fun a U g mk q => by obtain ⟨q0, q1, qP, qK, qD⟩ := q; exact ⟨q0, q1, qP, va_K.moved (u := U) (U := U.calling g mk a) (Vm.Alike.refl U.vm) qK, qD⟩, va_recv hKc hPc (ci := 13) (q0 := 0) rfl rfl, fun U hU hW => ⟨rfl, by rw [hU], by rw [hU]; exact hPc, va_K.moved hW.alike hKc, hDc.weaken (fun _ _ _ _ => trivial)⟩⟩ rfl rfl hl.1 rfl (lv_room (Nat.le_of_ble_eq_true rfl)) dX13_handlerFits_10 ⟨Nat.le_of_ble_eq_true rfl, Nat.le_of_ble_eq_true rfl⟩) hS (fun q _ h => hFc q h) hFc ?_
  clear hS
  intro r_2 u t H1 locs ht hvm hw hB hz1 hk1 hS
  obtain ⟨z_2, rfl⟩ : ∃ z, z = u := ⟨_, rfl⟩
  obtain ⟨hP1, hK1, hD1⟩ := hB
  rw [ht] at hP1
  have hK1 := va_K.moved hvm.symm hK1
  try dsimp only at hw
  have hPD := va_join (wr := [(qf126, .inl (cf126, 1501, .inl f126)), (qf102, .inl (cf102, 2048, .inl f102)), (qf104, .inl (cf104, 8, .inl f104)), (qf118, .inl (cf118, 2100, .inl f118)), (qf119, .inl (cf119, 2100, .inl f119)), (qf111, .inl (cf111, 96, .inl f111)), (qf105, .inl (cf105, 8, .inl f105))]) (w1 := [(h0, .inr (13, z_2)), (qf100, .inl (cf100, 48000, .inl f100))]) hP hD [7, 8] [0, 1, 2, 3, 4, 5, 6] rfl rfl (by decide) (by decide) hk1 hFc hP1 hD1
  clear hP hD
  obtain ⟨hP, hD⟩ := hPD
  replace hK := (hK.sub (tys' := [(cf126, .boolean), (cf102, .int), (cf104, .int), (cf118, .int), (cf119, .int), (cf111, .int), (cf105, .int)]) [0, 1, 2, 3, 4, 5, 6] rfl).app hK1
  clear hPc hDc hKc hFc hP1 hK1 hD1 hz1 hk1 ht hvm
  generalize H1 = H at hP hS ⊢
  replace hP : va_P (dC, dI) vwCl [(qf126, .inl (cf126, 1501, .inl f126)), (qf102, .inl (cf102, 2048, .inl f102)), (qf104, .inl (cf104, 8, .inl f104)), (qf118, .inl (cf118, 2100, .inl f118)), (qf119, .inl (cf119, 2100, .inl f119)), (qf111, .inl (cf111, 96, .inl f111)), (qf105, .inl (cf105, 8, .inl f105)), (h0, .inr (13, z_2)), (qf100, .inl (cf100, 48000, .inl f100))] H := hP
  replace hD : va_D A [(qf126, .inl (cf126, 1501, .inl f126)), (qf102, .inl (cf102, 2048, .inl f102)), (qf104, .inl (cf104, 8, .inl f104)), (qf118, .inl (cf118, 2100, .inl f118)), (qf119, .inl (cf119, 2100, .inl f119)), (qf111, .inl (cf111, 96, .inl f111)), (qf105, .inl (cf105, 8, .inl f105)), (h0, .inr (13, z_2)), (qf100, .inl (cf100, 48000, .inl f100))] := hD
  replace hK : va_K (dC, dI) vwCl [(cf126, .boolean), (cf102, .int), (cf104, .int), (cf118, .int), (cf119, .int), (cf111, .int), (cf105, .int), (cf100, .int)] s := hK
  obtain ⟨hwa_2, hln_2, hre_2⟩ := hw
  have hfk_2_98 : z_2[98]? = some (.int v98) := (hre_2 98 ).trans (hfk_1_98)
  have hfk_2_100 : z_2[100]? = some (.ref qf100) := (hre_2 100 ).trans (hfk_1_100)
  have hfk_2_102 : z_2[102]? = some (.ref qf102) := (hre_2 102 ).trans (hfk_1_102)
  have hfk_2_104 : z_2[104]? = some (.ref qf104) := (hre_2 104 ).trans (hfk_1_104)
  have hfk_2_105 : z_2[105]? = some (.ref qf105) := (hre_2 105 ).trans (hfk_1_105)
  have hfk_2_111 : z_2[111]? = some (.ref qf111) := (hre_2 111 ).trans (hfk_1_111)
  have hfk_2_117 : z_2[117]? = some (.int v117) := (hre_2 117 ).trans (hfk_1_117)
  have hfk_2_118 : z_2[118]? = some (.ref qf118) := (hre_2 118 ).trans (hfk_1_118)
  have hfk_2_119 : z_2[119]? = some (.ref qf119) := (hre_2 119 ).trans (hfk_1_119)
  have hfk_2_120 : z_2[120]? = some (.int v120) := (hre_2 120 ).trans (hfk_1_120)
  have hfk_2_126 : z_2[126]? = some (.ref qf126) := (hre_2 126 ).trans (hfk_1_126)
  have hfk_2_132 : z_2[132]? = some (.int v132) := (hre_2 132 ).trans (hfk_1_132)
  have hfk_2_133 : z_2[133]? = some (.int v133) := (hre_2 133 ).trans (hfk_1_133)
  have hfk_2_135 : z_2[135]? = some (.int v135) := (hre_2 135 ).trans (hfk_1_135)
  have hrq_2 : ∀ j : Nat, j ≠ 117 → j ≠ 120 → z_2[j]? = zs[j]? := fun j g117 g120 => (hre_2 j ).trans (hrq_1 j g117 g120)
  obtain rfl := hwa_2
  refine lv_istore_n (lv' := [(3, .int u2_0), (2, .int u1_0), (0, .ref h0), (1, .int a1)]) hx hb dX13_handlerFits_13 rfl hl (by decide) rfl (fun ls hl => ?_)
  refine lv_aload_n hx hb dX13_handlerFits_14 rfl (lv_at hl 2 rfl) ?_
  refine lv_iload_n hx hb dX13_handlerFits_15 rfl (lv_at hl 3 rfl) ?_
  refine lv_iconst (v := 4) hx hb dX13_handlerFits_16 (by decide) ?_
  refine lv_iadd hx hb dX13_handlerFits_17 ?_
  obtain ⟨u3_0, hu_3, hsp⟩ := ox_bind hsp
  try dsimp only at hsp
  have hPc := hP.sub (ws' := [(h0, .inr (13, z_2)), (qf100, .inl (cf100, 48000, .inl f100))]) [7, 8] rfl
  have hDc := hD.sub (ws' := [(h0, .inr (13, z_2)), (qf100, .inl (cf100, 48000, .inl f100))]) [7, 8] (by decide) rfl
  have hKc := hK.sub (tys' := [(cf100, .int)]) [7] rfl
  have hFc := va_free (wc := [(h0, .inr (13, z_2)), (qf100, .inl (cf100, 48000, .inl f100))]) hD hS hA [7, 8] rfl
  refine va_calli (va_runV (As := [.int (a1 + 4)]) (rest := []) ⟨hx, hb, hml, hown, hts⟩ (tm_pairIn l dC dI H.size h0 z_2 ((a1 + 4)) qf100 v132 cf100 f100 nf u3_0 hln_2 hfk_2_100 hfk_2_132 hu_3) (cwV 1 hts gv_h9_62 rfl rfl rfl (by decide +kernel) ⟨Nat.le_of_ble_eq_true rfl, Nat.le_of_ble_eq_true rfl⟩) ⟨fun a U g mk q => by obtain ⟨q0, q1, qP, qK, qD⟩ := q; exact ⟨q0, q1, qP, va_K.moved (u := U) (U := U.calling g mk a) (Vm.Alike.refl U.vm) qK, qD⟩, va_recv hKc hPc (ci := 13) (q0 := 0) rfl rfl, fun U hU hW => ⟨rfl, by rw [hU], by rw [hU]; exact hPc, va_K.moved hW.alike hKc, hDc.weaken (fun _ _ _ _ => trivial)⟩⟩ rfl rfl hl.1 rfl (lv_room (Nat.le_of_ble_eq_true rfl)) dX13_handlerFits_18 ⟨Nat.le_of_ble_eq_true rfl, Nat.le_of_ble_eq_true rfl⟩) hS (fun q _ h => hFc q h) hFc ?_
  clear hS
  intro r_3 u t H1 locs ht hvm hw hB hz1 hk1 hS
  obtain ⟨z_3, rfl⟩ : ∃ z, z = u := ⟨_, rfl⟩
  obtain ⟨hP1, hK1, hD1⟩ := hB
  rw [ht] at hP1
  have hK1 := va_K.moved hvm.symm hK1
  try dsimp only at hw
  have hPD := va_join (wr := [(qf126, .inl (cf126, 1501, .inl f126)), (qf102, .inl (cf102, 2048, .inl f102)), (qf104, .inl (cf104, 8, .inl f104)), (qf118, .inl (cf118, 2100, .inl f118)), (qf119, .inl (cf119, 2100, .inl f119)), (qf111, .inl (cf111, 96, .inl f111)), (qf105, .inl (cf105, 8, .inl f105))]) (w1 := [(h0, .inr (13, z_3)), (qf100, .inl (cf100, 48000, .inl f100))]) hP hD [7, 8] [0, 1, 2, 3, 4, 5, 6] rfl rfl (by decide) (by decide) hk1 hFc hP1 hD1
  clear hP hD
  obtain ⟨hP, hD⟩ := hPD
  replace hK := (hK.sub (tys' := [(cf126, .boolean), (cf102, .int), (cf104, .int), (cf118, .int), (cf119, .int), (cf111, .int), (cf105, .int)]) [0, 1, 2, 3, 4, 5, 6] rfl).app hK1
  clear hPc hDc hKc hFc hP1 hK1 hD1 hz1 hk1 ht hvm
  generalize H1 = H at hP hS ⊢
  replace hP : va_P (dC, dI) vwCl [(qf126, .inl (cf126, 1501, .inl f126)), (qf102, .inl (cf102, 2048, .inl f102)), (qf104, .inl (cf104, 8, .inl f104)), (qf118, .inl (cf118, 2100, .inl f118)), (qf119, .inl (cf119, 2100, .inl f119)), (qf111, .inl (cf111, 96, .inl f111)), (qf105, .inl (cf105, 8, .inl f105)), (h0, .inr (13, z_3)), (qf100, .inl (cf100, 48000, .inl f100))] H := hP
  replace hD : va_D A [(qf126, .inl (cf126, 1501, .inl f126)), (qf102, .inl (cf102, 2048, .inl f102)), (qf104, .inl (cf104, 8, .inl f104)), (qf118, .inl (cf118, 2100, .inl f118)), (qf119, .inl (cf119, 2100, .inl f119)), (qf111, .inl (cf111, 96, .inl f111)), (qf105, .inl (cf105, 8, .inl f105)), (h0, .inr (13, z_3)), (qf100, .inl (cf100, 48000, .inl f100))] := hD
  replace hK : va_K (dC, dI) vwCl [(cf126, .boolean), (cf102, .int), (cf104, .int), (cf118, .int), (cf119, .int), (cf111, .int), (cf105, .int), (cf100, .int)] s := hK
  obtain ⟨hwa_3, hln_3, hre_3⟩ := hw
  have hfk_3_98 : z_3[98]? = some (.int v98) := (hre_3 98 ).trans (hfk_2_98)
  have hfk_3_100 : z_3[100]? = some (.ref qf100) := (hre_3 100 ).trans (hfk_2_100)
  have hfk_3_102 : z_3[102]? = some (.ref qf102) := (hre_3 102 ).trans (hfk_2_102)
  have hfk_3_104 : z_3[104]? = some (.ref qf104) := (hre_3 104 ).trans (hfk_2_104)
  have hfk_3_105 : z_3[105]? = some (.ref qf105) := (hre_3 105 ).trans (hfk_2_105)
  have hfk_3_111 : z_3[111]? = some (.ref qf111) := (hre_3 111 ).trans (hfk_2_111)
  have hfk_3_117 : z_3[117]? = some (.int v117) := (hre_3 117 ).trans (hfk_2_117)
  have hfk_3_118 : z_3[118]? = some (.ref qf118) := (hre_3 118 ).trans (hfk_2_118)
  have hfk_3_119 : z_3[119]? = some (.ref qf119) := (hre_3 119 ).trans (hfk_2_119)
  have hfk_3_120 : z_3[120]? = some (.int v120) := (hre_3 120 ).trans (hfk_2_120)
  have hfk_3_126 : z_3[126]? = some (.ref qf126) := (hre_3 126 ).trans (hfk_2_126)
  have hfk_3_132 : z_3[132]? = some (.int v132) := (hre_3 132 ).trans (hfk_2_132)
  have hfk_3_133 : z_3[133]? = some (.int v133) := (hre_3 133 ).trans (hfk_2_133)
  have hfk_3_135 : z_3[135]? = some (.int v135) := (hre_3 135 ).trans (hfk_2_135)
  have hrq_3 : ∀ j : Nat, j ≠ 117 → j ≠ 120 → z_3[j]? = zs[j]? := fun j g117 g120 => (hre_3 j ).trans (hrq_2 j g117 g120)
  obtain rfl := hwa_3
  refine lv_istore (lv' := [(4, .int u3_0), (3, .int u2_0), (2, .int u1_0), (0, .ref h0), (1, .int a1)]) hx hb dX13_handlerFits_21 hl (by decide) rfl (fun ls hl => ?_)
  refine lv_iload_n hx hb dX13_handlerFits_23 rfl (lv_at hl 2 rfl) ?_
  refine lv_aload_n hx hb dX13_handlerFits_24 rfl (lv_at hl 3 rfl) ?_
  refine va_get (D := (dC, dI)) (ci := 13) (v := .int v135) (C := RX13) (T := TX13) (N := 155) hx hb hts uV_h9_X13 hown hK hP 7 rfl rfl 135 (by decide) (hts (.fieldLink RX13 970 "ClassMillModel" "codeSize" "I") mw_h9_546) (fun _ h9 => h9) hfk_3_135 dX13_handlerFits_25 ?_
  refine lv_icmp_ge (tgt := 93) hx hb dX13_handlerFits_28 (by decide) (fun c_4 => ?_) (fun c_4 => ?_)
  · rw [if_pos c_4] at hsp
    exact hj_93 (H, locs, ls, z_3, a1, u3_0, f118, f119, v117, v120) ⟨lv_sub hl [3, 4, 0] rfl, hS, hD.sub (ws' := [(h0, .inr (13, z_3)), (qf100, .inl (cf100, 48000, .inl f100)), (qf126, .inl (cf126, 1501, .inl f126)), (qf102, .inl (cf102, 2048, .inl f102)), (qf104, .inl (cf104, 8, .inl f104)), (qf118, .inl (cf118, 2100, .inl f118)), (qf119, .inl (cf119, 2100, .inl f119)), (qf111, .inl (cf111, 96, .inl f111)), (qf105, .inl (cf105, 8, .inl f105))]) [7, 8, 0, 1, 2, 3, 4, 5, 6] (by decide) rfl, hP.sub (ws' := [(h0, .inr (13, z_3)), (qf100, .inl (cf100, 48000, .inl f100)), (qf126, .inl (cf126, 1501, .inl f126)), (qf102, .inl (cf102, 2048, .inl f102)), (qf104, .inl (cf104, 8, .inl f104)), (qf118, .inl (cf118, 2100, .inl f118)), (qf119, .inl (cf119, 2100, .inl f119)), (qf111, .inl (cf111, 96, .inl f111)), (qf105, .inl (cf105, 8, .inl f105))]) [7, 8, 0, 1, 2, 3, 4, 5, 6] rfl, hfk_3_98, hfk_3_100, hfk_3_102, hfk_3_104, hfk_3_105, hfk_3_111, hfk_3_117, hfk_3_118, hfk_3_119, hfk_3_120, hfk_3_126, hfk_3_132, hfk_3_133, hfk_3_135, hln_3, hrq_3, hsp⟩
  · rw [if_neg c_4] at hsp
    refine lv_aload_n hx hb dX13_handlerFits_31 rfl (lv_at hl 3 rfl) ?_
    refine va_get (D := (dC, dI)) (ci := 13) (v := .ref qf126) (C := RX13) (T := TX13) (N := 155) hx hb hts uV_h9_X13 hown hK hP 7 rfl rfl 126 (by decide) (hts (.fieldLink RX13 267 "ClassMillModel" "begins" "[Z") mw_h9_547) (fun _ h9 => h9) hfk_3_126 dX13_handlerFits_32 ?_
    refine lv_iload_n hx hb dX13_handlerFits_35 rfl (lv_at hl 2 rfl) ?_
    obtain ⟨hi_5, hsp⟩ := ox_in hsp
    refine va_zald hx hb hK hP 0 0 rfl rfl (i := u1_0) hi_5 dX13_handlerFits_36 ?_
    refine lv_if_eq (tgt := 93) hx hb dX13_handlerFits_37 (by decide) (fun c_6 => ?_) (fun c_6 => ?_)
    · rw [if_pos c_6] at hsp
      exact hj_93 (H, locs, ls, z_3, a1, u3_0, f118, f119, v117, v120) ⟨lv_sub hl [3, 4, 0] rfl, hS, hD.sub (ws' := [(h0, .inr (13, z_3)), (qf100, .inl (cf100, 48000, .inl f100)), (qf126, .inl (cf126, 1501, .inl f126)), (qf102, .inl (cf102, 2048, .inl f102)), (qf104, .inl (cf104, 8, .inl f104)), (qf118, .inl (cf118, 2100, .inl f118)), (qf119, .inl (cf119, 2100, .inl f119)), (qf111, .inl (cf111, 96, .inl f111)), (qf105, .inl (cf105, 8, .inl f105))]) [7, 8, 0, 1, 2, 3, 4, 5, 6] (by decide) rfl, hP.sub (ws' := [(h0, .inr (13, z_3)), (qf100, .inl (cf100, 48000, .inl f100)), (qf126, .inl (cf126, 1501, .inl f126)), (qf102, .inl (cf102, 2048, .inl f102)), (qf104, .inl (cf104, 8, .inl f104)), (qf118, .inl (cf118, 2100, .inl f118)), (qf119, .inl (cf119, 2100, .inl f119)), (qf111, .inl (cf111, 96, .inl f111)), (qf105, .inl (cf105, 8, .inl f105))]) [7, 8, 0, 1, 2, 3, 4, 5, 6] rfl, hfk_3_98, hfk_3_100, hfk_3_102, hfk_3_104, hfk_3_105, hfk_3_111, hfk_3_117, hfk_3_118, hfk_3_119, hfk_3_120, hfk_3_126, hfk_3_132, hfk_3_133, hfk_3_135, hln_3, hrq_3, hsp⟩
    · rw [if_neg c_6] at hsp
      refine lv_iload hx hb dX13_handlerFits_40 (lv_at hl 0 rfl) ?_
      refine lv_aload_n hx hb dX13_handlerFits_42 rfl (lv_at hl 3 rfl) ?_
      refine va_get (D := (dC, dI)) (ci := 13) (v := .int v135) (C := RX13) (T := TX13) (N := 155) hx hb hts uV_h9_X13 hown hK hP 7 rfl rfl 135 (by decide) (hts (.fieldLink RX13 970 "ClassMillModel" "codeSize" "I") mw_h9_546) (fun _ h9 => h9) hfk_3_135 dX13_handlerFits_43 ?_
      refine lv_icmp_ge (tgt := 93) hx hb dX13_handlerFits_46 (by decide) (fun c_7 => ?_) (fun c_7 => ?_)
      · rw [if_pos c_7] at hsp
        exact hj_93 (H, locs, ls, z_3, a1, u3_0, f118, f119, v117, v120) ⟨lv_sub hl [3, 4, 0] rfl, hS, hD.sub (ws' := [(h0, .inr (13, z_3)), (qf100, .inl (cf100, 48000, .inl f100)), (qf126, .inl (cf126, 1501, .inl f126)), (qf102, .inl (cf102, 2048, .inl f102)), (qf104, .inl (cf104, 8, .inl f104)), (qf118, .inl (cf118, 2100, .inl f118)), (qf119, .inl (cf119, 2100, .inl f119)), (qf111, .inl (cf111, 96, .inl f111)), (qf105, .inl (cf105, 8, .inl f105))]) [7, 8, 0, 1, 2, 3, 4, 5, 6] (by decide) rfl, hP.sub (ws' := [(h0, .inr (13, z_3)), (qf100, .inl (cf100, 48000, .inl f100)), (qf126, .inl (cf126, 1501, .inl f126)), (qf102, .inl (cf102, 2048, .inl f102)), (qf104, .inl (cf104, 8, .inl f104)), (qf118, .inl (cf118, 2100, .inl f118)), (qf119, .inl (cf119, 2100, .inl f119)), (qf111, .inl (cf111, 96, .inl f111)), (qf105, .inl (cf105, 8, .inl f105))]) [7, 8, 0, 1, 2, 3, 4, 5, 6] rfl, hfk_3_98, hfk_3_100, hfk_3_102, hfk_3_104, hfk_3_105, hfk_3_111, hfk_3_117, hfk_3_118, hfk_3_119, hfk_3_120, hfk_3_126, hfk_3_132, hfk_3_133, hfk_3_135, hln_3, hrq_3, hsp⟩
      · rw [if_neg c_7] at hsp
        refine lv_aload_n hx hb dX13_handlerFits_49 rfl (lv_at hl 3 rfl) ?_
        refine va_get (D := (dC, dI)) (ci := 13) (v := .ref qf126) (C := RX13) (T := TX13) (N := 155) hx hb hts uV_h9_X13 hown hK hP 7 rfl rfl 126 (by decide) (hts (.fieldLink RX13 267 "ClassMillModel" "begins" "[Z") mw_h9_547) (fun _ h9 => h9) hfk_3_126 dX13_handlerFits_50 ?_
        refine lv_iload hx hb dX13_handlerFits_53 (lv_at hl 0 rfl) ?_
        obtain ⟨hi_8, hsp⟩ := ox_in hsp
        refine va_zald hx hb hK hP 0 0 rfl rfl (i := u3_0) hi_8 dX13_handlerFits_55 ?_
        refine lv_if_eq (tgt := 93) hx hb dX13_handlerFits_56 (by decide) (fun c_9 => ?_) (fun c_9 => ?_)
        · rw [if_pos c_9] at hsp
          exact hj_93 (H, locs, ls, z_3, a1, u3_0, f118, f119, v117, v120) ⟨lv_sub hl [3, 4, 0] rfl, hS, hD.sub (ws' := [(h0, .inr (13, z_3)), (qf100, .inl (cf100, 48000, .inl f100)), (qf126, .inl (cf126, 1501, .inl f126)), (qf102, .inl (cf102, 2048, .inl f102)), (qf104, .inl (cf104, 8, .inl f104)), (qf118, .inl (cf118, 2100, .inl f118)), (qf119, .inl (cf119, 2100, .inl f119)), (qf111, .inl (cf111, 96, .inl f111)), (qf105, .inl (cf105, 8, .inl f105))]) [7, 8, 0, 1, 2, 3, 4, 5, 6] (by decide) rfl, hP.sub (ws' := [(h0, .inr (13, z_3)), (qf100, .inl (cf100, 48000, .inl f100)), (qf126, .inl (cf126, 1501, .inl f126)), (qf102, .inl (cf102, 2048, .inl f102)), (qf104, .inl (cf104, 8, .inl f104)), (qf118, .inl (cf118, 2100, .inl f118)), (qf119, .inl (cf119, 2100, .inl f119)), (qf111, .inl (cf111, 96, .inl f111)), (qf105, .inl (cf105, 8, .inl f105))]) [7, 8, 0, 1, 2, 3, 4, 5, 6] rfl, hfk_3_98, hfk_3_100, hfk_3_102, hfk_3_104, hfk_3_105, hfk_3_111, hfk_3_117, hfk_3_118, hfk_3_119, hfk_3_120, hfk_3_126, hfk_3_132, hfk_3_133, hfk_3_135, hln_3, hrq_3, hsp⟩
        · rw [if_neg c_9] at hsp
          refine lv_iload_n hx hb dX13_handlerFits_59 rfl (lv_at hl 1 rfl) ?_
          refine lv_aload_n hx hb dX13_handlerFits_60 rfl (lv_at hl 3 rfl) ?_
          refine va_get (D := (dC, dI)) (ci := 13) (v := .int v135) (C := RX13) (T := TX13) (N := 155) hx hb hts uV_h9_X13 hown hK hP 7 rfl rfl 135 (by decide) (hts (.fieldLink RX13 970 "ClassMillModel" "codeSize" "I") mw_h9_546) (fun _ h9 => h9) hfk_3_135 dX13_handlerFits_61 ?_
          refine lv_icmp_eq (tgt := 84) hx hb dX13_handlerFits_64 (by decide) (fun c_10 => ?_) (fun c_10 => ?_)
          · rw [if_pos c_10] at hsp
            exact hj_84 (H, locs, ls, z_3, a1, u1_0, u2_0, u3_0, f118, f119, v117, v120) ⟨lv_sub hl [3, 4, 2, 1, 0] rfl, hS, hD.sub (ws' := [(h0, .inr (13, z_3)), (qf100, .inl (cf100, 48000, .inl f100)), (qf126, .inl (cf126, 1501, .inl f126)), (qf102, .inl (cf102, 2048, .inl f102)), (qf104, .inl (cf104, 8, .inl f104)), (qf118, .inl (cf118, 2100, .inl f118)), (qf119, .inl (cf119, 2100, .inl f119)), (qf111, .inl (cf111, 96, .inl f111)), (qf105, .inl (cf105, 8, .inl f105))]) [7, 8, 0, 1, 2, 3, 4, 5, 6] (by decide) rfl, hP.sub (ws' := [(h0, .inr (13, z_3)), (qf100, .inl (cf100, 48000, .inl f100)), (qf126, .inl (cf126, 1501, .inl f126)), (qf102, .inl (cf102, 2048, .inl f102)), (qf104, .inl (cf104, 8, .inl f104)), (qf118, .inl (cf118, 2100, .inl f118)), (qf119, .inl (cf119, 2100, .inl f119)), (qf111, .inl (cf111, 96, .inl f111)), (qf105, .inl (cf105, 8, .inl f105))]) [7, 8, 0, 1, 2, 3, 4, 5, 6] rfl, hfk_3_98, hfk_3_100, hfk_3_102, hfk_3_104, hfk_3_105, hfk_3_111, hfk_3_117, hfk_3_118, hfk_3_119, hfk_3_120, hfk_3_126, hfk_3_132, hfk_3_133, hfk_3_135, hln_3, hrq_3, hsp⟩
          · rw [if_neg c_10] at hsp
            refine lv_iload_n hx hb dX13_handlerFits_67 rfl (lv_at hl 1 rfl) ?_
            refine lv_aload_n hx hb dX13_handlerFits_68 rfl (lv_at hl 3 rfl) ?_
            refine va_get (D := (dC, dI)) (ci := 13) (v := .int v135) (C := RX13) (T := TX13) (N := 155) hx hb hts uV_h9_X13 hown hK hP 7 rfl rfl 135 (by decide) (hts (.fieldLink RX13 970 "ClassMillModel" "codeSize" "I") mw_h9_546) (fun _ h9 => h9) hfk_3_135 dX13_handlerFits_69 ?_
            refine lv_icmp_ge (tgt := 93) hx hb dX13_handlerFits_72 (by decide) (fun c_11 => ?_) (fun c_11 => ?_)
            · rw [if_pos c_11] at hsp
              exact hj_93 (H, locs, ls, z_3, a1, u3_0, f118, f119, v117, v120) ⟨lv_sub hl [3, 4, 0] rfl, hS, hD.sub (ws' := [(h0, .inr (13, z_3)), (qf100, .inl (cf100, 48000, .inl f100)), (qf126, .inl (cf126, 1501, .inl f126)), (qf102, .inl (cf102, 2048, .inl f102)), (qf104, .inl (cf104, 8, .inl f104)), (qf118, .inl (cf118, 2100, .inl f118)), (qf119, .inl (cf119, 2100, .inl f119)), (qf111, .inl (cf111, 96, .inl f111)), (qf105, .inl (cf105, 8, .inl f105))]) [7, 8, 0, 1, 2, 3, 4, 5, 6] (by decide) rfl, hP.sub (ws' := [(h0, .inr (13, z_3)), (qf100, .inl (cf100, 48000, .inl f100)), (qf126, .inl (cf126, 1501, .inl f126)), (qf102, .inl (cf102, 2048, .inl f102)), (qf104, .inl (cf104, 8, .inl f104)), (qf118, .inl (cf118, 2100, .inl f118)), (qf119, .inl (cf119, 2100, .inl f119)), (qf111, .inl (cf111, 96, .inl f111)), (qf105, .inl (cf105, 8, .inl f105))]) [7, 8, 0, 1, 2, 3, 4, 5, 6] rfl, hfk_3_98, hfk_3_100, hfk_3_102, hfk_3_104, hfk_3_105, hfk_3_111, hfk_3_117, hfk_3_118, hfk_3_119, hfk_3_120, hfk_3_126, hfk_3_132, hfk_3_133, hfk_3_135, hln_3, hrq_3, hsp⟩
            · rw [if_neg c_11] at hsp
              refine lv_aload_n hx hb dX13_handlerFits_75 rfl (lv_at hl 3 rfl) ?_
              refine va_get (D := (dC, dI)) (ci := 13) (v := .ref qf126) (C := RX13) (T := TX13) (N := 155) hx hb hts uV_h9_X13 hown hK hP 7 rfl rfl 126 (by decide) (hts (.fieldLink RX13 267 "ClassMillModel" "begins" "[Z") mw_h9_547) (fun _ h9 => h9) hfk_3_126 dX13_handlerFits_76 ?_
              refine lv_iload_n hx hb dX13_handlerFits_79 rfl (lv_at hl 1 rfl) ?_
              obtain ⟨hi_12, hsp⟩ := ox_in hsp
              refine va_zald hx hb hK hP 0 0 rfl rfl (i := u2_0) hi_12 dX13_handlerFits_80 ?_
              refine lv_if_eq (tgt := 93) hx hb dX13_handlerFits_81 (by decide) (fun c_13 => ?_) (fun c_13 => ?_)
              · rw [if_pos c_13] at hsp
                exact hj_93 (H, locs, ls, z_3, a1, u3_0, f118, f119, v117, v120) ⟨lv_sub hl [3, 4, 0] rfl, hS, hD.sub (ws' := [(h0, .inr (13, z_3)), (qf100, .inl (cf100, 48000, .inl f100)), (qf126, .inl (cf126, 1501, .inl f126)), (qf102, .inl (cf102, 2048, .inl f102)), (qf104, .inl (cf104, 8, .inl f104)), (qf118, .inl (cf118, 2100, .inl f118)), (qf119, .inl (cf119, 2100, .inl f119)), (qf111, .inl (cf111, 96, .inl f111)), (qf105, .inl (cf105, 8, .inl f105))]) [7, 8, 0, 1, 2, 3, 4, 5, 6] (by decide) rfl, hP.sub (ws' := [(h0, .inr (13, z_3)), (qf100, .inl (cf100, 48000, .inl f100)), (qf126, .inl (cf126, 1501, .inl f126)), (qf102, .inl (cf102, 2048, .inl f102)), (qf104, .inl (cf104, 8, .inl f104)), (qf118, .inl (cf118, 2100, .inl f118)), (qf119, .inl (cf119, 2100, .inl f119)), (qf111, .inl (cf111, 96, .inl f111)), (qf105, .inl (cf105, 8, .inl f105))]) [7, 8, 0, 1, 2, 3, 4, 5, 6] rfl, hfk_3_98, hfk_3_100, hfk_3_102, hfk_3_104, hfk_3_105, hfk_3_111, hfk_3_117, hfk_3_118, hfk_3_119, hfk_3_120, hfk_3_126, hfk_3_132, hfk_3_133, hfk_3_135, hln_3, hrq_3, hsp⟩
              · rw [if_neg c_13] at hsp
                exact hj_84 (H, locs, ls, z_3, a1, u1_0, u2_0, u3_0, f118, f119, v117, v120) ⟨lv_sub hl [3, 4, 2, 1, 0] rfl, hS, hD.sub (ws' := [(h0, .inr (13, z_3)), (qf100, .inl (cf100, 48000, .inl f100)), (qf126, .inl (cf126, 1501, .inl f126)), (qf102, .inl (cf102, 2048, .inl f102)), (qf104, .inl (cf104, 8, .inl f104)), (qf118, .inl (cf118, 2100, .inl f118)), (qf119, .inl (cf119, 2100, .inl f119)), (qf111, .inl (cf111, 96, .inl f111)), (qf105, .inl (cf105, 8, .inl f105))]) [7, 8, 0, 1, 2, 3, 4, 5, 6] (by decide) rfl, hP.sub (ws' := [(h0, .inr (13, z_3)), (qf100, .inl (cf100, 48000, .inl f100)), (qf126, .inl (cf126, 1501, .inl f126)), (qf102, .inl (cf102, 2048, .inl f102)), (qf104, .inl (cf104, 8, .inl f104)), (qf118, .inl (cf118, 2100, .inl f118)), (qf119, .inl (cf119, 2100, .inl f119)), (qf111, .inl (cf111, 96, .inl f111)), (qf105, .inl (cf105, 8, .inl f105))]) [7, 8, 0, 1, 2, 3, 4, 5, 6] rfl, hfk_3_98, hfk_3_100, hfk_3_102, hfk_3_104, hfk_3_105, hfk_3_111, hfk_3_117, hfk_3_118, hfk_3_119, hfk_3_120, hfk_3_126, hfk_3_132, hfk_3_133, hfk_3_135, hln_3, hrq_3, hsp⟩
def lp_vm_frameIsThere_50 (nf n : Nat) (a1 : Int32) (v98 : Int32) (v117 : Int32) (v120 : Int32) (v129 : Int32) (v130 : Int32) (v132 : Int32) (f100 : Nat → Int32) (f102 : Nat → Int32) (f104 : Nat → Int32) (f118 : Nat → Int32) (f119 : Nat → Int32) (nS477 : Nat) (fS477 : Nat → Int32) (kk_6 : Int32 → Int32 → (Nat → Int32) → (Nat → Int32) → Int32 → Int32 → Option (Int32 × (Nat → Int32) × (Nat → Int32) × Int32 × Int32)) (l2_50 : Int32) (l3_50 : Int32) (l4_50 : Int32) (l5_50 : Int32) (g118_50 : Nat → Int32) (g119_50 : Nat → Int32) (x117_50 : Int32) (x120_50 : Int32) : Option (Int32 × (Nat → Int32) × (Nat → Int32) × Int32 × Int32) := match n with
  | 0 => none
  | n + 1 => (if l4_50 ≤ l5_50 then (kk_6 l2_50 (l3_50 + 1) g118_50 g119_50 x117_50 x120_50) else ((sp_vm_framed nf l2_50 v98 x117_50 x120_50 v132 f100 f102 f104 g118_50 g119_50 nS477 fS477).bind (fun p1 => ((sp_tm_isThere nf p1.1).bind (fun p2 => (if p2 = 0 then (some (0, p1.2.1, p1.2.2.1, p1.2.2.2.1, p1.2.2.2.2)) else ((sp_tm_byteAt nf v132 l2_50 f100).bind (fun p3 => (if p3 = 3 then (lp_vm_frameIsThere_50 nf n a1 v98 v117 v120 v129 v130 v132 f100 f102 f104 f118 f119 nS477 fS477 kk_6 (l2_50 + 2) l3_50 l4_50 (l5_50 + 1) p1.2.1 p1.2.2.1 p1.2.2.2.1 p1.2.2.2.2) else (lp_vm_frameIsThere_50 nf n a1 v98 v117 v120 v129 v130 v132 f100 f102 f104 f118 f119 nS477 fS477 kk_6 (l2_50 + 1) l3_50 l4_50 (l5_50 + 1) p1.2.1 p1.2.2.1 p1.2.2.2.1 p1.2.2.2.2))))))))))
def jn_vm_frameIsThere_39 (nf : Nat) (a1 : Int32) (v98 : Int32) (v117 : Int32) (v120 : Int32) (v129 : Int32) (v130 : Int32) (v132 : Int32) (f100 : Nat → Int32) (f102 : Nat → Int32) (f104 : Nat → Int32) (f118 : Nat → Int32) (f119 : Nat → Int32) (nS477 : Nat) (fS477 : Nat → Int32) (kk_6 : Int32 → Int32 → (Nat → Int32) → (Nat → Int32) → Int32 → Int32 → Option (Int32 × (Nat → Int32) × (Nat → Int32) × Int32 × Int32)) (l2_39 : Int32) (l3_39 : Int32) (l4_39 : Int32) (s0_39 : Int32) (s1_39 : Int32) (g118_39 : Nat → Int32) (g119_39 : Nat → Int32) (x117_39 : Int32) (x120_39 : Int32) : Option (Int32 × (Nat → Int32) × (Nat → Int32) × Int32 × Int32) := (if s1_39 ≤ s0_39 then (lp_vm_frameIsThere_50 nf nf a1 v98 v117 v120 v129 v130 v132 f100 f102 f104 f118 f119 nS477 fS477 kk_6 (l2_39 + 1) l3_39 l4_39 0 g118_39 g119_39 x117_39 x120_39) else (some (0, g118_39, g119_39, x117_39, x120_39)))
def lp_vm_frameIsThere_6 (nf n : Nat) (a1 : Int32) (v98 : Int32) (v117 : Int32) (v120 : Int32) (v129 : Int32) (v130 : Int32) (v132 : Int32) (f100 : Nat → Int32) (f102 : Nat → Int32) (f104 : Nat → Int32) (f118 : Nat → Int32) (f119 : Nat → Int32) (nS477 : Nat) (fS477 : Nat → Int32)  (l2_6 : Int32) (l3_6 : Int32) (g118_6 : Nat → Int32) (g119_6 : Nat → Int32) (x117_6 : Int32) (x120_6 : Int32) : Option (Int32 × (Nat → Int32) × (Nat → Int32) × Int32 × Int32) := match n with
  | 0 => none
  | n + 1 => (if 2 ≤ l3_6 then (some (1, g118_6, g119_6, x117_6, x120_6)) else ((sp_tm_byteAt nf v132 l2_6 f100).bind (fun p1 => (if l3_6 = 0 then (jn_vm_frameIsThere_39 nf a1 v98 v117 v120 v129 v130 v132 f100 f102 f104 f118 f119 nS477 fS477 (lp_vm_frameIsThere_6 nf n a1 v98 v117 v120 v129 v130 v132 f100 f102 f104 f118 f119 nS477 fS477) l2_6 l3_6 p1 v129 p1 g118_6 g119_6 x117_6 x120_6) else (jn_vm_frameIsThere_39 nf a1 v98 v117 v120 v129 v130 v132 f100 f102 f104 f118 f119 nS477 fS477 (lp_vm_frameIsThere_6 nf n a1 v98 v117 v120 v129 v130 v132 f100 f102 f104 f118 f119 nS477 fS477) l2_6 l3_6 p1 v130 p1 g118_6 g119_6 x117_6 x120_6)))))
def sp_vm_frameIsThere (nf : Nat) (a1 : Int32) (v98 : Int32) (v117 : Int32) (v120 : Int32) (v129 : Int32) (v130 : Int32) (v132 : Int32) (f100 : Nat → Int32) (f102 : Nat → Int32) (f104 : Nat → Int32) (f118 : Nat → Int32) (f119 : Nat → Int32) (nS477 : Nat) (fS477 : Nat → Int32) : Option (Int32 × (Nat → Int32) × (Nat → Int32) × Int32 × Int32) := (lp_vm_frameIsThere_6 nf nf a1 v98 v117 v120 v129 v130 v132 f100 f102 f104 f118 f119 nS477 fS477  (a1 + 2) 0 f118 f119 v117 v120)

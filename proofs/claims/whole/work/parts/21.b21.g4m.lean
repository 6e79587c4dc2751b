set_option maxHeartbeats 4000000 in
set_option maxRecDepth 100000 in
/-- ClassMillModel.truth -/
theorem vm_truth (l : Launch) (dC : Nat → ClassId) (dI : Nat → Nat → Nat) (sz : Nat) (h0 : Nat) (zs : (List Value)) (a1 : Int32) (a2 : Int32) (qf49 : Nat) (v50 : Int32) (v52 : Int32) (v53 : Int32) (qf67 : Nat) (v68 : Int32) (qf69 : Nat) (v70 : Int32) (v71 : Int32) (qf73 : Nat) (qf74 : Nat) (qf75 : Nat) (qf76 : Nat) (qf77 : Nat) (v78 : Int32) (v79 : Int32) (qf85 : Nat) (qf86 : Nat) (v87 : Int32) (v88 : Int32) (cf85 : ClassId) (f85 : (Nat → Int32)) (cf86 : ClassId) (f86 : (Nat → Int32)) (cf67 : ClassId) (f67 : (Nat → Int32)) (cf69 : ClassId) (f69 : (Nat → Int32)) (cf73 : ClassId) (f73 : (Nat → Int32)) (cf74 : ClassId) (f74 : (Nat → Int32)) (cf75 : ClassId) (f75 : (Nat → Int32)) (cf76 : ClassId) (f76 : (Nat → Int32)) (cf77 : ClassId) (f77 : (Nat → Int32)) (cf49 : ClassId) (f49 : (Nat → Int32)) (nf : Nat) (o67 : (Nat → Int32)) (o69 : (Nat → Int32)) (o73 : (Nat → Int32)) (o74 : (Nat → Int32)) (o75 : (Nat → Int32)) (o76 : (Nat → Int32)) (o77 : (Nat → Int32)) (o85 : (Nat → Int32)) (o86 : (Nat → Int32)) (w68 : Int32) (w70 : Int32) (w71 : Int32) (w78 : Int32) (w79 : Int32) (w87 : Int32) (w88 : Int32) (hlen : zs.length = 155) (hf49 : zs[49]? = some (.ref qf49)) (hf50 : zs[50]? = some (.int v50)) (hf52 : zs[52]? = some (.int v52)) (hf53 : zs[53]? = some (.int v53)) (hf67 : zs[67]? = some (.ref qf67)) (hf68 : zs[68]? = some (.int v68)) (hf69 : zs[69]? = some (.ref qf69)) (hf70 : zs[70]? = some (.int v70)) (hf71 : zs[71]? = some (.int v71)) (hf73 : zs[73]? = some (.ref qf73)) (hf74 : zs[74]? = some (.ref qf74)) (hf75 : zs[75]? = some (.ref qf75)) (hf76 : zs[76]? = some (.ref qf76)) (hf77 : zs[77]? = some (.ref qf77)) (hf78 : zs[78]? = some (.int v78)) (hf79 : zs[79]? = some (.int v79)) (hf85 : zs[85]? = some (.ref qf85)) (hf86 : zs[86]? = some (.ref qf86)) (hf87 : zs[87]? = some (.int v87)) (hf88 : zs[88]? = some (.int v88)) (hsp : sp_vm_truth nf a1 a2 v50 v52 v53 v68 v70 v71 v78 v79 v87 v88 f85 f86 f67 f69 f73 f74 f75 f76 f77 f49 = some (o67, o69, o73, o74, o75, o76, o77, o85, o86, w68, w70, w71, w78, w79, w87, w88)) : Met l yX13_truth (.code yX13_truth cX13_truth 5 none :: VS_h9) ({ frames := 2, cells := 0, slots := 0, locals := 50 }) (va_Pc [.ref h0, .int a1, .int a2] (fun U => U.heap.size = sz ∧ va_P (dC, dI) vwCl [(h0, .inr (13, zs)), (qf85, .inl (cf85, 3000, .inl f85)), (qf86, .inl (cf86, 3000, .inl f86)), (qf67, .inl (cf67, 12000, .inl f67)), (qf69, .inl (cf69, 3000, .inl f69)), (qf73, .inl (cf73, 6200, .inl f73)), (qf74, .inl (cf74, 6200, .inl f74)), (qf75, .inl (cf75, 6200, .inl f75)), (qf76, .inl (cf76, 6200, .inl f76)), (qf77, .inl (cf77, 60000, .inl f77)), (qf49, .inl (cf49, 3000, .inl f49))] U.heap ∧ va_K (dC, dI) vwCl [(cf85, .int), (cf86, .int), (cf67, .int), (cf69, .int), (cf73, .int), (cf74, .int), (cf75, .int), (cf76, .int), (cf77, .int), (cf49, .int)] U ∧ va_D (fun _ => True) [(h0, .inr (13, zs)), (qf85, .inl (cf85, 3000, .inl f85)), (qf86, .inl (cf86, 3000, .inl f86)), (qf67, .inl (cf67, 12000, .inl f67)), (qf69, .inl (cf69, 3000, .inl f69)), (qf73, .inl (cf73, 6200, .inl f73)), (qf74, .inl (cf74, 6200, .inl f74)), (qf75, .inl (cf75, 6200, .inl f75)), (qf76, .inl (cf76, 6200, .inl f76)), (qf77, .inl (cf77, 60000, .inl f77)), (qf49, .inl (cf49, 3000, .inl f49))])) (va_Qv (fun (u : (List Value)) => match u with | (zo1) => True ∧ zo1.length = 155 ∧ (∀ j : Nat, j ≠ 68 → j ≠ 70 → j ≠ 71 → j ≠ 78 → j ≠ 79 → j ≠ 87 → j ≠ 88 → zo1[j]? = zs[j]?) ∧ zo1[68]? = some (.int w68) ∧ zo1[70]? = some (.int w70) ∧ zo1[71]? = some (.int w71) ∧ zo1[78]? = some (.int w78) ∧ zo1[79]? = some (.int w79) ∧ zo1[87]? = some (.int w87) ∧ zo1[88]? = some (.int w88)) (fun (u : (List Value)) (t : State) => match u with | (zo1) => va_P (dC, dI) vwCl [(h0, .inr (13, zo1)), (qf85, .inl (cf85, 3000, .inl o85)), (qf86, .inl (cf86, 3000, .inl o86)), (qf67, .inl (cf67, 12000, .inl o67)), (qf69, .inl (cf69, 3000, .inl o69)), (qf73, .inl (cf73, 6200, .inl o73)), (qf74, .inl (cf74, 6200, .inl o74)), (qf75, .inl (cf75, 6200, .inl o75)), (qf76, .inl (cf76, 6200, .inl o76)), (qf77, .inl (cf77, 60000, .inl o77)), (qf49, .inl (cf49, 3000, .inl f49))] t.heap ∧ va_K (dC, dI) vwCl [(cf85, .int), (cf86, .int), (cf67, .int), (cf69, .int), (cf73, .int), (cf74, .int), (cf75, .int), (cf76, .int), (cf77, .int), (cf49, .int)] t ∧ va_D (va_A [(h0, .inr (13, zs)), (qf85, .inl (cf85, 3000, .inl f85)), (qf86, .inl (cf86, 3000, .inl f86)), (qf67, .inl (cf67, 12000, .inl f67)), (qf69, .inl (cf69, 3000, .inl f69)), (qf73, .inl (cf73, 6200, .inl f73)), (qf74, .inl (cf74, 6200, .inl f74)), (qf75, .inl (cf75, 6200, .inl f75)), (qf76, .inl (cf76, 6200, .inl f76)), (qf77, .inl (cf77, 60000, .inl f77)), (qf49, .inl (cf49, 3000, .inl f49))] sz) [(h0, .inr (13, zo1)), (qf85, .inl (cf85, 3000, .inl o85)), (qf86, .inl (cf86, 3000, .inl o86)), (qf67, .inl (cf67, 12000, .inl o67)), (qf69, .inl (cf69, 3000, .inl o69)), (qf73, .inl (cf73, 6200, .inl o73)), (qf74, .inl (cf74, 6200, .inl o74)), (qf75, .inl (cf75, 6200, .inl o75)), (qf76, .inl (cf76, 6200, .inl o76)), (qf77, .inl (cf77, 60000, .inl o77)), (qf49, .inl (cf49, 3000, .inl f49))]) (va_A [(h0, .inr (13, zs)), (qf85, .inl (cf85, 3000, .inl f85)), (qf86, .inl (cf86, 3000, .inl f86)), (qf67, .inl (cf67, 12000, .inl f67)), (qf69, .inl (cf69, 3000, .inl f69)), (qf73, .inl (cf73, 6200, .inl f73)), (qf74, .inl (cf74, 6200, .inl f74)), (qf75, .inl (cf75, 6200, .inl f75)), (qf76, .inl (cf76, 6200, .inl f76)), (qf77, .inl (cf77, 60000, .inl f77)), (qf49, .inl (cf49, 3000, .inl f49))] sz)) 0 0 (va_A [(h0, .inr (13, zs)), (qf85, .inl (cf85, 3000, .inl f85)), (qf86, .inl (cf86, 3000, .inl f86)), (qf67, .inl (cf67, 12000, .inl f67)), (qf69, .inl (cf69, 3000, .inl f69)), (qf73, .inl (cf73, 6200, .inl f73)), (qf74, .inl (cf74, 6200, .inl f74)), (qf75, .inl (cf75, 6200, .inl f75)), (qf76, .inl (cf76, 6200, .inl f76)), (qf77, .inl (cf77, 60000, .inl f77)), (qf49, .inl (cf49, 3000, .inl f49))] sz) := by
  refine Met.ofW (cc := cX13_truth) (maxL := 5) (ret := none) (by decide) rfl ?_
  intro p e s m args below meth c s₁ B hml hv
  obtain ⟨rfl, hsz, hP, hK, hD0⟩ := hv
  have hx := B.exec
  have hb := B.bytes
  have hr := B.returns
  have hts := atoms_spec (ws := (.code yX13_truth cX13_truth 5 none :: VS_h9)) B.pre
  replace hts := fun w (h : w ∈ VS_h9) => hts w (List.mem_cons_of_mem _ h)
  have hown : s.vm.findClass RX13 = some m.cls := findClass_of_methodNamed B.named
  have hlocks := B.notSynchronized
  subst hsz
  have hD := hD0.self (sz := s.heap.size)
  generalize hAe : va_A [(h0, .inr (13, zs)), (qf85, .inl (cf85, 3000, .inl f85)), (qf86, .inl (cf86, 3000, .inl f86)), (qf67, .inl (cf67, 12000, .inl f67)), (qf69, .inl (cf69, 3000, .inl f69)), (qf73, .inl (cf73, 6200, .inl f73)), (qf74, .inl (cf74, 6200, .inl f74)), (qf75, .inl (cf75, 6200, .inl f75)), (qf76, .inl (cf76, 6200, .inl f76)), (qf77, .inl (cf77, 60000, .inl f77)), (qf49, .inl (cf49, 3000, .inl f49))] s.heap.size = A at hD  ⊢
  have hA : ∀ q : Nat, s.heap.size ≤ q → A q := fun q h => by rw [← hAe]; exact Or.inr h
  have hP : va_P (dC, dI) vwCl [(h0, .inr (13, zs)), (qf85, .inl (cf85, 3000, .inl f85)), (qf86, .inl (cf86, 3000, .inl f86)), (qf67, .inl (cf67, 12000, .inl f67)), (qf69, .inl (cf69, 3000, .inl f69)), (qf73, .inl (cf73, 6200, .inl f73)), (qf74, .inl (cf74, 6200, .inl f74)), (qf75, .inl (cf75, 6200, .inl f75)), (qf76, .inl (cf76, 6200, .inl f76)), (qf77, .inl (cf77, 60000, .inl f77)), (qf49, .inl (cf49, 3000, .inl f49))] s.heap := hP
  have hl := lv_entry ([.ref h0, .int a1, .int a2]) (n := 5) (Nat.le_of_ble_eq_true rfl)
  rw [lg_entry_eq]
  generalize (lg_sl ([.ref h0, .int a1, .int a2]) ++ List.replicate (5 - (lg_sl ([.ref h0, .int a1, .int a2])).length) Slot.unset).toArray = ls at hl ⊢
  have hl : lv_has ls 5 [(0, .ref h0), (1, .int a1), (2, .int a2)] := hl
  obtain ⟨H, hH⟩ : ∃ H : Heap, s.heap = H := ⟨_, rfl⟩
  rw [hH] at hP ⊢
  have hS : va_S A s.heap H [] := by rw [← hH]; exact va_S.rf
  obtain ⟨locs, hlo⟩ : ∃ locs : List Loc, locs = [] := ⟨_, rfl⟩
  rw [← hlo] at hS ⊢
  have hrs0 : ∀ j : Nat, j ≠ 68 → j ≠ 70 → j ≠ 71 → j ≠ 78 → j ≠ 79 → j ≠ 87 → j ≠ 88 → zs[j]? = zs[j]? := fun _ _ _ _ _ _ _ _  => rfl
  unfold sp_vm_truth at hsp
  refine lv_aload_n hx hb dX13_truth_0 rfl (lv_at hl 0 rfl) ?_
  obtain ⟨⟨u1_0, u1_1⟩, hu_1, hsp⟩ := ox_bind hsp
  try dsimp only at hsp
  have hPc := hP.sub (ws' := [(h0, .inr (13, zs))]) [0] rfl
  have hDc := hD.sub (ws' := [(h0, .inr (13, zs))]) [0] (by decide) rfl
  have hKc := hK.sub (tys' := []) [] rfl
  have hFc := va_free (wc := [(h0, .inr (13, zs))]) hD hS hA [0] rfl
  refine va_calli (va_runV (As := []) (rest := []) ⟨hx, hb, hml, hown, hts⟩ (tm_label l dC dI H.size h0 zs v88 nf u1_0 u1_1 hlen hf88 hu_1) (cwV 0 hts gv_h9_35 rfl rfl rfl (by decide +kernel) ⟨Nat.le_of_ble_eq_true rfl, Nat.le_of_ble_eq_true rfl⟩) ⟨fun a U g mk q => by obtain ⟨q0, q1, qP, qK, qD⟩ := q; exact ⟨q0, q1, qP, va_K.moved (u := U) (U := U.calling g mk a) (Vm.Alike.refl U.vm) qK, qD⟩, va_recv hKc hPc (ci := 13) (q0 := 0) rfl rfl, fun U hU hW => ⟨rfl, by rw [hU], by rw [hU]; exact hPc, va_K.moved hW.alike hKc, hDc.weaken (fun _ _ _ _ => trivial)⟩⟩ rfl rfl hl.1 rfl (lv_room (Nat.le_of_ble_eq_true rfl)) dX13_truth_1 ⟨Nat.le_of_ble_eq_true rfl, Nat.le_of_ble_eq_true rfl⟩) hS (fun q _ h => hFc q h) hFc ?_
  clear hS
  intro r_1 u t H1 locs ht hvm hw hB hz1 hk1 hS
  obtain ⟨z_1, rfl⟩ : ∃ z, z = u := ⟨_, rfl⟩
  obtain ⟨hP1, hK1, hD1⟩ := hB
  rw [ht] at hP1
  have hK1 := va_K.moved hvm.symm hK1
  try dsimp only at hw
  have hPD := va_join (wr := [(qf85, .inl (cf85, 3000, .inl f85)), (qf86, .inl (cf86, 3000, .inl f86)), (qf67, .inl (cf67, 12000, .inl f67)), (qf69, .inl (cf69, 3000, .inl f69)), (qf73, .inl (cf73, 6200, .inl f73)), (qf74, .inl (cf74, 6200, .inl f74)), (qf75, .inl (cf75, 6200, .inl f75)), (qf76, .inl (cf76, 6200, .inl f76)), (qf77, .inl (cf77, 60000, .inl f77)), (qf49, .inl (cf49, 3000, .inl f49))]) (w1 := [(h0, .inr (13, z_1))]) hP hD [0] [1, 2, 3, 4, 5, 6, 7, 8, 9, 10] rfl rfl (by decide) (by decide) hk1 hFc hP1 hD1
  clear hP hD
  obtain ⟨hP, hD⟩ := hPD
  replace hK := (hK.sub (tys' := [(cf85, .int), (cf86, .int), (cf67, .int), (cf69, .int), (cf73, .int), (cf74, .int), (cf75, .int), (cf76, .int), (cf77, .int), (cf49, .int)]) [0, 1, 2, 3, 4, 5, 6, 7, 8, 9] rfl).app hK1
  clear hPc hDc hKc hFc hP1 hK1 hD1 hz1 hk1 ht hvm
  generalize H1 = H at hP hS ⊢
  replace hP : va_P (dC, dI) vwCl [(qf85, .inl (cf85, 3000, .inl f85)), (qf86, .inl (cf86, 3000, .inl f86)), (qf67, .inl (cf67, 12000, .inl f67)), (qf69, .inl (cf69, 3000, .inl f69)), (qf73, .inl (cf73, 6200, .inl f73)), (qf74, .inl (cf74, 6200, .inl f74)), (qf75, .inl (cf75, 6200, .inl f75)), (qf76, .inl (cf76, 6200, .inl f76)), (qf77, .inl (cf77, 60000, .inl f77)), (qf49, .inl (cf49, 3000, .inl f49)), (h0, .inr (13, z_1))] H := hP
  replace hD : va_D A [(qf85, .inl (cf85, 3000, .inl f85)), (qf86, .inl (cf86, 3000, .inl f86)), (qf67, .inl (cf67, 12000, .inl f67)), (qf69, .inl (cf69, 3000, .inl f69)), (qf73, .inl (cf73, 6200, .inl f73)), (qf74, .inl (cf74, 6200, .inl f74)), (qf75, .inl (cf75, 6200, .inl f75)), (qf76, .inl (cf76, 6200, .inl f76)), (qf77, .inl (cf77, 60000, .inl f77)), (qf49, .inl (cf49, 3000, .inl f49)), (h0, .inr (13, z_1))] := hD
  replace hK : va_K (dC, dI) vwCl [(cf85, .int), (cf86, .int), (cf67, .int), (cf69, .int), (cf73, .int), (cf74, .int), (cf75, .int), (cf76, .int), (cf77, .int), (cf49, .int)] s := hK
  obtain ⟨hwa_1, hln_1, hre_1, hch_1_88⟩ := hw
  have hfk_1_49 : z_1[49]? = some (.ref qf49) := (hre_1 49 (by decide)).trans (hf49)
  have hfk_1_50 : z_1[50]? = some (.int v50) := (hre_1 50 (by decide)).trans (hf50)
  have hfk_1_52 : z_1[52]? = some (.int v52) := (hre_1 52 (by decide)).trans (hf52)
  have hfk_1_53 : z_1[53]? = some (.int v53) := (hre_1 53 (by decide)).trans (hf53)
  have hfk_1_67 : z_1[67]? = some (.ref qf67) := (hre_1 67 (by decide)).trans (hf67)
  have hfk_1_68 : z_1[68]? = some (.int v68) := (hre_1 68 (by decide)).trans (hf68)
  have hfk_1_69 : z_1[69]? = some (.ref qf69) := (hre_1 69 (by decide)).trans (hf69)
  have hfk_1_70 : z_1[70]? = some (.int v70) := (hre_1 70 (by decide)).trans (hf70)
  have hfk_1_71 : z_1[71]? = some (.int v71) := (hre_1 71 (by decide)).trans (hf71)
  have hfk_1_73 : z_1[73]? = some (.ref qf73) := (hre_1 73 (by decide)).trans (hf73)
  have hfk_1_74 : z_1[74]? = some (.ref qf74) := (hre_1 74 (by decide)).trans (hf74)
  have hfk_1_75 : z_1[75]? = some (.ref qf75) := (hre_1 75 (by decide)).trans (hf75)
  have hfk_1_76 : z_1[76]? = some (.ref qf76) := (hre_1 76 (by decide)).trans (hf76)
  have hfk_1_77 : z_1[77]? = some (.ref qf77) := (hre_1 77 (by decide)).trans (hf77)
  have hfk_1_78 : z_1[78]? = some (.int v78) := (hre_1 78 (by decide)).trans (hf78)
  have hfk_1_79 : z_1[79]? = some (.int v79) := (hre_1 79 (by decide)).trans (hf79)
  have hfk_1_85 : z_1[85]? = some (.ref qf85) := (hre_1 85 (by decide)).trans (hf85)
  have hfk_1_86 : z_1[86]? = some (.ref qf86) := (hre_1 86 (by decide)).trans (hf86)
  have hfk_1_87 : z_1[87]? = some (.int v87) := (hre_1 87 (by decide)).trans (hf87)
  have hrq_1 : ∀ j : Nat, j ≠ 68 → j ≠ 70 → j ≠ 71 → j ≠ 78 → j ≠ 79 → j ≠ 87 → j ≠ 88 → z_1[j]? = zs[j]? := fun j g68 g70 g71 g78 g79 g87 g88 => (hre_1 j g88).trans (hrs0 j g68 g70 g71 g78 g79 g87 g88)
  obtain rfl := hwa_1
  refine lv_istore_n (lv' := [(3, .int u1_0), (0, .ref h0), (1, .int a1), (2, .int a2)]) hx hb dX13_truth_4 rfl hl (by decide) rfl (fun ls hl => ?_)
  refine lv_aload_n hx hb dX13_truth_5 rfl (lv_at hl 1 rfl) ?_
  obtain ⟨⟨u2_0, u2_1⟩, hu_2, hsp⟩ := ox_bind hsp
  try dsimp only at hsp
  have hPc := hP.sub (ws' := [(h0, .inr (13, z_1))]) [10] rfl
  have hDc := hD.sub (ws' := [(h0, .inr (13, z_1))]) [10] (by decide) rfl
  have hKc := hK.sub (tys' := []) [] rfl
  have hFc := va_free (wc := [(h0, .inr (13, z_1))]) hD hS hA [10] rfl
  refine va_calli (va_runV (As := []) (rest := []) ⟨hx, hb, hml, hown, hts⟩ (tm_label l dC dI H.size h0 z_1 u1_1 nf u2_0 u2_1 hln_1 hch_1_88 hu_2) (cwV 0 hts gv_h9_35 rfl rfl rfl (by decide +kernel) ⟨Nat.le_of_ble_eq_true rfl, Nat.le_of_ble_eq_true rfl⟩) ⟨fun a U g mk q => by obtain ⟨q0, q1, qP, qK, qD⟩ := q; exact ⟨q0, q1, qP, va_K.moved (u := U) (U := U.calling g mk a) (Vm.Alike.refl U.vm) qK, qD⟩, va_recv hKc hPc (ci := 13) (q0 := 0) rfl rfl, fun U hU hW => ⟨rfl, by rw [hU], by rw [hU]; exact hPc, va_K.moved hW.alike hKc, hDc.weaken (fun _ _ _ _ => trivial)⟩⟩ rfl rfl hl.1 rfl (lv_room (Nat.le_of_ble_eq_true rfl)) dX13_truth_6 ⟨Nat.le_of_ble_eq_true rfl, Nat.le_of_ble_eq_true rfl⟩) hS (fun q _ h => hFc q h) hFc ?_
  clear hS
  intro r_2 u t H1 locs ht hvm hw hB hz1 hk1 hS
  obtain ⟨z_2, rfl⟩ : ∃ z, z = u := ⟨_, rfl⟩
  obtain ⟨hP1, hK1, hD1⟩ := hB
  rw [ht] at hP1
  have hK1 := va_K.moved hvm.symm hK1
  try dsimp only at hw
  have hPD := va_join (wr := [(qf85, .inl (cf85, 3000, .inl f85)), (qf86, .inl (cf86, 3000, .inl f86)), (qf67, .inl (cf67, 12000, .inl f67)), (qf69, .inl (cf69, 3000, .inl f69)), (qf73, .inl (cf73, 6200, .inl f73)), (qf74, .inl (cf74, 6200, .inl f74)), (qf75, .inl (cf75, 6200, .inl f75)), (qf76, .inl (cf76, 6200, .inl f76)), (qf77, .inl (cf77, 60000, .inl f77)), (qf49, .inl (cf49, 3000, .inl f49))]) (w1 := [(h0, .inr (13, z_2))]) hP hD [10] [0, 1, 2, 3, 4, 5, 6, 7, 8, 9] rfl rfl (by decide) (by decide) hk1 hFc hP1 hD1
  clear hP hD
  obtain ⟨hP, hD⟩ := hPD
  replace hK := (hK.sub (tys' := [(cf85, .int), (cf86, .int), (cf67, .int), (cf69, .int), (cf73, .int), (cf74, .int), (cf75, .int), (cf76, .int), (cf77, .int), (cf49, .int)]) [0, 1, 2, 3, 4, 5, 6, 7, 8, 9] rfl).app hK1
  clear hPc hDc hKc hFc hP1 hK1 hD1 hz1 hk1 ht hvm
  generalize H1 = H at hP hS ⊢
  replace hP : va_P (dC, dI) vwCl [(qf85, .inl (cf85, 3000, .inl f85)), (qf86, .inl (cf86, 3000, .inl f86)), (qf67, .inl (cf67, 12000, .inl f67)), (qf69, .inl (cf69, 3000, .inl f69)), (qf73, .inl (cf73, 6200, .inl f73)), (qf74, .inl (cf74, 6200, .inl f74)), (qf75, .inl (cf75, 6200, .inl f75)), (qf76, .inl (cf76, 6200, .inl f76)), (qf77, .inl (cf77, 60000, .inl f77)), (qf49, .inl (cf49, 3000, .inl f49)), (h0, .inr (13, z_2))] H := hP
  replace hD : va_D A [(qf85, .inl (cf85, 3000, .inl f85)), (qf86, .inl (cf86, 3000, .inl f86)), (qf67, .inl (cf67, 12000, .inl f67)), (qf69, .inl (cf69, 3000, .inl f69)), (qf73, .inl (cf73, 6200, .inl f73)), (qf74, .inl (cf74, 6200, .inl f74)), (qf75, .inl (cf75, 6200, .inl f75)), (qf76, .inl (cf76, 6200, .inl f76)), (qf77, .inl (cf77, 60000, .inl f77)), (qf49, .inl (cf49, 3000, .inl f49)), (h0, .inr (13, z_2))] := hD
  replace hK : va_K (dC, dI) vwCl [(cf85, .int), (cf86, .int), (cf67, .int), (cf69, .int), (cf73, .int), (cf74, .int), (cf75, .int), (cf76, .int), (cf77, .int), (cf49, .int)] s := hK
  obtain ⟨hwa_2, hln_2, hre_2, hch_2_88⟩ := hw
  have hfk_2_49 : z_2[49]? = some (.ref qf49) := (hre_2 49 (by decide)).trans (hfk_1_49)
  have hfk_2_50 : z_2[50]? = some (.int v50) := (hre_2 50 (by decide)).trans (hfk_1_50)
  have hfk_2_52 : z_2[52]? = some (.int v52) := (hre_2 52 (by decide)).trans (hfk_1_52)
  have hfk_2_53 : z_2[53]? = some (.int v53) := (hre_2 53 (by decide)).trans (hfk_1_53)
  have hfk_2_67 : z_2[67]? = some (.ref qf67) := (hre_2 67 (by decide)).trans (hfk_1_67)
  have hfk_2_68 : z_2[68]? = some (.int v68) := (hre_2 68 (by decide)).trans (hfk_1_68)
  have hfk_2_69 : z_2[69]? = some (.ref qf69) := (hre_2 69 (by decide)).trans (hfk_1_69)
  have hfk_2_70 : z_2[70]? = some (.int v70) := (hre_2 70 (by decide)).trans (hfk_1_70)
  have hfk_2_71 : z_2[71]? = some (.int v71) := (hre_2 71 (by decide)).trans (hfk_1_71)
  have hfk_2_73 : z_2[73]? = some (.ref qf73) := (hre_2 73 (by decide)).trans (hfk_1_73)
  have hfk_2_74 : z_2[74]? = some (.ref qf74) := (hre_2 74 (by decide)).trans (hfk_1_74)
  have hfk_2_75 : z_2[75]? = some (.ref qf75) := (hre_2 75 (by decide)).trans (hfk_1_75)
  have hfk_2_76 : z_2[76]? = some (.ref qf76) := (hre_2 76 (by decide)).trans (hfk_1_76)
  have hfk_2_77 : z_2[77]? = some (.ref qf77) := (hre_2 77 (by decide)).trans (hfk_1_77)
  have hfk_2_78 : z_2[78]? = some (.int v78) := (hre_2 78 (by decide)).trans (hfk_1_78)
  have hfk_2_79 : z_2[79]? = some (.int v79) := (hre_2 79 (by decide)).trans (hfk_1_79)
  have hfk_2_85 : z_2[85]? = some (.ref qf85) := (hre_2 85 (by decide)).trans (hfk_1_85)
  have hfk_2_86 : z_2[86]? = some (.ref qf86) := (hre_2 86 (by decide)).trans (hfk_1_86)
  have hfk_2_87 : z_2[87]? = some (.int v87) := (hre_2 87 (by decide)).trans (hfk_1_87)
  have hrq_2 : ∀ j : Nat, j ≠ 68 → j ≠ 70 → j ≠ 71 → j ≠ 78 → j ≠ 79 → j ≠ 87 → j ≠ 88 → z_2[j]? = zs[j]? := fun j g68 g70 g71 g78 g79 g87 g88 => (hre_2 j g88).trans (hrq_1 j g68 g70 g71 g78 g79 g87 g88)
  obtain rfl := hwa_2
  refine lv_istore (lv' := [(4, .int u2_0), (3, .int u1_0), (0, .ref h0), (1, .int a1), (2, .int a2)]) hx hb dX13_truth_9 hl (by decide) rfl (fun ls hl => ?_)
  refine lv_aload_n hx hb dX13_truth_11 rfl (lv_at hl 2 rfl) ?_
  refine lv_dup hx hb dX13_truth_12 rfl ?_
  refine va_get (D := (dC, dI)) (ci := 13) (v := .int v70) (C := RX13) (T := TX13) (N := 155) hx hb hts uV_h9_X13 hown hK hP 10 rfl rfl 70 (by decide) (hts (.fieldLink RX13 629 "ClassMillModel" "piled" "I") mw_h9_172) (fun _ h9 => h9) hfk_2_70 dX13_truth_13 ?_
  refine lv_iload_n hx hb dX13_truth_16 rfl (lv_at hl 4 rfl) ?_
  refine lv_isub hx hb dX13_truth_17 ?_
  refine va_put (D := (dC, dI)) (ci := 13) (v := .int (v70 - a2)) (ty := .int) (C := RX13) (T := TX13) (N := 155) hx hb hts uV_h9_X13 tyX13 tyX13_ok nmX13 hown hK hP hD hS 10 rfl rfl 70 (by decide) (hts (.fieldLink RX13 629 "ClassMillModel" "piled" "I") mw_h9_172) (fun _ h9 => h9) rfl (by decide +kernel) rfl rfl (by rw [hln_2]; decide) dX13_truth_18 ?_
  clear hP hD hS
  intro H locs hP hD hS
  obtain ⟨fs_3, efs_3⟩ : ∃ zf : List Value, zf = z_2.set 70 (.int (v70 - a2)) := ⟨_, rfl⟩
  rw [← efs_3] at hP hD
  have hlfs_3 : fs_3.length = 155 := by rw [efs_3, List.length_set]; exact hln_2
  have hfs_3_49 : fs_3[49]? = some (.ref qf49) := by rw [efs_3, List.getElem?_set_ne (by decide)]; exact hfk_2_49
  have hfs_3_50 : fs_3[50]? = some (.int v50) := by rw [efs_3, List.getElem?_set_ne (by decide)]; exact hfk_2_50
  have hfs_3_52 : fs_3[52]? = some (.int v52) := by rw [efs_3, List.getElem?_set_ne (by decide)]; exact hfk_2_52
  have hfs_3_53 : fs_3[53]? = some (.int v53) := by rw [efs_3, List.getElem?_set_ne (by decide)]; exact hfk_2_53
  have hfs_3_67 : fs_3[67]? = some (.ref qf67) := by rw [efs_3, List.getElem?_set_ne (by decide)]; exact hfk_2_67
  have hfs_3_68 : fs_3[68]? = some (.int v68) := by rw [efs_3, List.getElem?_set_ne (by decide)]; exact hfk_2_68
  have hfs_3_69 : fs_3[69]? = some (.ref qf69) := by rw [efs_3, List.getElem?_set_ne (by decide)]; exact hfk_2_69
  have hfs_3_71 : fs_3[71]? = some (.int v71) := by rw [efs_3, List.getElem?_set_ne (by decide)]; exact hfk_2_71
  have hfs_3_73 : fs_3[73]? = some (.ref qf73) := by rw [efs_3, List.getElem?_set_ne (by decide)]; exact hfk_2_73
  have hfs_3_74 : fs_3[74]? = some (.ref qf74) := by rw [efs_3, List.getElem?_set_ne (by decide)]; exact hfk_2_74
  have hfs_3_75 : fs_3[75]? = some (.ref qf75) := by rw [efs_3, List.getElem?_set_ne (by decide)]; exact hfk_2_75
  have hfs_3_76 : fs_3[76]? = some (.ref qf76) := by rw [efs_3, List.getElem?_set_ne (by decide)]; exact hfk_2_76
  have hfs_3_77 : fs_3[77]? = some (.ref qf77) := by rw [efs_3, List.getElem?_set_ne (by decide)]; exact hfk_2_77
  have hfs_3_78 : fs_3[78]? = some (.int v78) := by rw [efs_3, List.getElem?_set_ne (by decide)]; exact hfk_2_78
  have hfs_3_79 : fs_3[79]? = some (.int v79) := by rw [efs_3, List.getElem?_set_ne (by decide)]; exact hfk_2_79
  have hfs_3_85 : fs_3[85]? = some (.ref qf85) := by rw [efs_3, List.getElem?_set_ne (by decide)]; exact hfk_2_85
  have hfs_3_86 : fs_3[86]? = some (.ref qf86) := by rw [efs_3, List.getElem?_set_ne (by decide)]; exact hfk_2_86
  have hfs_3_87 : fs_3[87]? = some (.int v87) := by rw [efs_3, List.getElem?_set_ne (by decide)]; exact hfk_2_87
  have hfs_3_88 : fs_3[88]? = some (.int u2_1) := by rw [efs_3, List.getElem?_set_ne (by decide)]; exact hch_2_88
  have hfs_3_70 : fs_3[70]? = some (.int (v70 - a2)) := by rw [efs_3, List.getElem?_set_self (by rw [hln_2]; decide)]
  replace hP : va_P (dC, dI) vwCl [(qf85, .inl (cf85, 3000, .inl f85)), (qf86, .inl (cf86, 3000, .inl f86)), (qf67, .inl (cf67, 12000, .inl f67)), (qf69, .inl (cf69, 3000, .inl f69)), (qf73, .inl (cf73, 6200, .inl f73)), (qf74, .inl (cf74, 6200, .inl f74)), (qf75, .inl (cf75, 6200, .inl f75)), (qf76, .inl (cf76, 6200, .inl f76)), (qf77, .inl (cf77, 60000, .inl f77)), (qf49, .inl (cf49, 3000, .inl f49)), (h0, .inr (13, fs_3))] H := hP
  replace hD : va_D A [(qf85, .inl (cf85, 3000, .inl f85)), (qf86, .inl (cf86, 3000, .inl f86)), (qf67, .inl (cf67, 12000, .inl f67)), (qf69, .inl (cf69, 3000, .inl f69)), (qf73, .inl (cf73, 6200, .inl f73)), (qf74, .inl (cf74, 6200, .inl f74)), (qf75, .inl (cf75, 6200, .inl f75)), (qf76, .inl (cf76, 6200, .inl f76)), (qf77, .inl (cf77, 60000, .inl f77)), (qf49, .inl (cf49, 3000, .inl f49)), (h0, .inr (13, fs_3))] := hD
  have hrs_4 : ∀ j : Nat, j ≠ 68 → j ≠ 70 → j ≠ 71 → j ≠ 78 → j ≠ 79 → j ≠ 87 → j ≠ 88 → fs_3[j]? = zs[j]? := fun j g68 g70 g71 g78 g79 g87 g88 => ((congrArg (fun z : List Value => z[j]?) efs_3).trans (List.getElem?_set_ne (Ne.symm g70))).trans (hrq_2 j g68 g70 g71 g78 g79 g87 g88)
  refine lv_aload_n hx hb dX13_truth_21 rfl (lv_at hl 2 rfl) ?_
  refine lv_iload_n hx hb dX13_truth_22 rfl (lv_at hl 3 rfl) ?_
  refine lv_iload_n hx hb dX13_truth_23 rfl (lv_at hl 1 rfl) ?_
  obtain ⟨⟨g903_0, g903_1, g903_2, u3_3, u3_4⟩, hu_3, hsp⟩ := ox_bind hsp
  try dsimp only at hsp
  have hPc := hP.sub (ws' := [(h0, .inr (13, fs_3)), (qf85, .inl (cf85, 3000, .inl f85)), (qf86, .inl (cf86, 3000, .inl f86)), (qf67, .inl (cf67, 12000, .inl f67))]) [10, 0, 1, 2] rfl
  have hDc := hD.sub (ws' := [(h0, .inr (13, fs_3)), (qf85, .inl (cf85, 3000, .inl f85)), (qf86, .inl (cf86, 3000, .inl f86)), (qf67, .inl (cf67, 12000, .inl f67))]) [10, 0, 1, 2] (by decide) rfl
  have hKc := hK.sub (tys' := [(cf85, .int), (cf86, .int), (cf67, .int)]) [0, 1, 2] rfl
  have hFc := va_free (wc := [(h0, .inr (13, fs_3)), (qf85, .inl (cf85, 3000, .inl f85)), (qf86, .inl (cf86, 3000, .inl f86)), (qf67, .inl (cf67, 12000, .inl f67))]) hD hS hA [10, 0, 1, 2] rfl
  refine va_callv (va_runV (As := [.int a1, .int u1_0]) (rest := []) ⟨hx, hb, hml, hown, hts⟩ (tm_jump l dC dI H.size h0 fs_3 a1 u1_0 qf67 v68 qf85 qf86 v87 cf85 f85 cf86 f86 cf67 f67 nf g903_0 g903_1 g903_2 u3_3 u3_4 hlfs_3 hfs_3_67 hfs_3_68 hfs_3_85 hfs_3_86 hfs_3_87 hu_3) (cwV 2 hts gv_h9_36 rfl rfl rfl (by decide +kernel) ⟨Nat.le_of_ble_eq_true rfl, Nat.le_of_ble_eq_true rfl⟩) ⟨fun a U g mk q => by obtain ⟨q0, q1, qP, qK, qD⟩ := q; exact ⟨q0, q1, qP, va_K.moved (u := U) (U := U.calling g mk a) (Vm.Alike.refl U.vm) qK, qD⟩, va_recv hKc hPc (ci := 13) (q0 := 0) rfl rfl, fun U hU hW => ⟨rfl, by rw [hU], by rw [hU]; exact hPc, va_K.moved hW.alike hKc, hDc.weaken (fun _ _ _ _ => trivial)⟩⟩ rfl rfl hl.1 rfl (lv_room (Nat.le_of_ble_eq_true rfl)) dX13_truth_24 ⟨Nat.le_of_ble_eq_true rfl, Nat.le_of_ble_eq_true rfl⟩) hS (fun q _ h => hFc q h) hFc ?_
  clear hS
  intro u t H1 locs ht hvm hw hB hz1 hk1 hS
  obtain ⟨z_3, rfl⟩ : ∃ z, z = u := ⟨_, rfl⟩
  obtain ⟨hP1, hK1, hD1⟩ := hB
  rw [ht] at hP1
  have hK1 := va_K.moved hvm.symm hK1
  try dsimp only at hw
  have hPD := va_join (wr := [(qf69, .inl (cf69, 3000, .inl f69)), (qf73, .inl (cf73, 6200, .inl f73)), (qf74, .inl (cf74, 6200, .inl f74)), (qf75, .inl (cf75, 6200, .inl f75)), (qf76, .inl (cf76, 6200, .inl f76)), (qf77, .inl (cf77, 60000, .inl f77)), (qf49, .inl (cf49, 3000, .inl f49))]) (w1 := [(h0, .inr (13, z_3)), (qf85, .inl (cf85, 3000, .inl g903_1)), (qf86, .inl (cf86, 3000, .inl g903_2)), (qf67, .inl (cf67, 12000, .inl g903_0))]) hP hD [10, 0, 1, 2] [3, 4, 5, 6, 7, 8, 9] rfl rfl (by decide) (by decide) hk1 hFc hP1 hD1
  clear hP hD
  obtain ⟨hP, hD⟩ := hPD
  replace hK := (hK.sub (tys' := [(cf69, .int), (cf73, .int), (cf74, .int), (cf75, .int), (cf76, .int), (cf77, .int), (cf49, .int)]) [3, 4, 5, 6, 7, 8, 9] rfl).app hK1
  clear hPc hDc hKc hFc hP1 hK1 hD1 hz1 hk1 ht hvm
  generalize H1 = H at hP hS ⊢
  replace hP : va_P (dC, dI) vwCl [(qf69, .inl (cf69, 3000, .inl f69)), (qf73, .inl (cf73, 6200, .inl f73)), (qf74, .inl (cf74, 6200, .inl f74)), (qf75, .inl (cf75, 6200, .inl f75)), (qf76, .inl (cf76, 6200, .inl f76)), (qf77, .inl (cf77, 60000, .inl f77)), (qf49, .inl (cf49, 3000, .inl f49)), (h0, .inr (13, z_3)), (qf85, .inl (cf85, 3000, .inl g903_1)), (qf86, .inl (cf86, 3000, .inl g903_2)), (qf67, .inl (cf67, 12000, .inl g903_0))] H := hP
  replace hD : va_D A [(qf69, .inl (cf69, 3000, .inl f69)), (qf73, .inl (cf73, 6200, .inl f73)), (qf74, .inl (cf74, 6200, .inl f74)), (qf75, .inl (cf75, 6200, .inl f75)), (qf76, .inl (cf76, 6200, .inl f76)), (qf77, .inl (cf77, 60000, .inl f77)), (qf49, .inl (cf49, 3000, .inl f49)), (h0, .inr (13, z_3)), (qf85, .inl (cf85, 3000, .inl g903_1)), (qf86, .inl (cf86, 3000, .inl g903_2)), (qf67, .inl (cf67, 12000, .inl g903_0))] := hD
  replace hK : va_K (dC, dI) vwCl [(cf69, .int), (cf73, .int), (cf74, .int), (cf75, .int), (cf76, .int), (cf77, .int), (cf49, .int), (cf85, .int), (cf86, .int), (cf67, .int)] s := hK
  obtain ⟨hwa_3, hln_3, hre_3, hch_3_68, hch_3_87⟩ := hw
  have hfk_3_49 : z_3[49]? = some (.ref qf49) := (hre_3 49 (by decide) (by decide)).trans (hfs_3_49)
  have hfk_3_50 : z_3[50]? = some (.int v50) := (hre_3 50 (by decide) (by decide)).trans (hfs_3_50)
  have hfk_3_52 : z_3[52]? = some (.int v52) := (hre_3 52 (by decide) (by decide)).trans (hfs_3_52)
  have hfk_3_53 : z_3[53]? = some (.int v53) := (hre_3 53 (by decide) (by decide)).trans (hfs_3_53)
  have hfk_3_67 : z_3[67]? = some (.ref qf67) := (hre_3 67 (by decide) (by decide)).trans (hfs_3_67)
  have hfk_3_69 : z_3[69]? = some (.ref qf69) := (hre_3 69 (by decide) (by decide)).trans (hfs_3_69)
  have hfk_3_70 : z_3[70]? = some (.int (v70 - a2)) := (hre_3 70 (by decide) (by decide)).trans (hfs_3_70)
  have hfk_3_71 : z_3[71]? = some (.int v71) := (hre_3 71 (by decide) (by decide)).trans (hfs_3_71)
  have hfk_3_73 : z_3[73]? = some (.ref qf73) := (hre_3 73 (by decide) (by decide)).trans (hfs_3_73)
  have hfk_3_74 : z_3[74]? = some (.ref qf74) := (hre_3 74 (by decide) (by decide)).trans (hfs_3_74)
  have hfk_3_75 : z_3[75]? = some (.ref qf75) := (hre_3 75 (by decide) (by decide)).trans (hfs_3_75)
  have hfk_3_76 : z_3[76]? = some (.ref qf76) := (hre_3 76 (by decide) (by decide)).trans (hfs_3_76)
  have hfk_3_77 : z_3[77]? = some (.ref qf77) := (hre_3 77 (by decide) (by decide)).trans (hfs_3_77)
  have hfk_3_78 : z_3[78]? = some (.int v78) := (hre_3 78 (by decide) (by decide)).trans (hfs_3_78)
  have hfk_3_79 : z_3[79]? = some (.int v79) := (hre_3 79 (by decide) (by decide)).trans (hfs_3_79)
  have hfk_3_85 : z_3[85]? = some (.ref qf85) := (hre_3 85 (by decide) (by decide)).trans (hfs_3_85)
  have hfk_3_86 : z_3[86]? = some (.ref qf86) := (hre_3 86 (by decide) (by decide)).trans (hfs_3_86)
  have hfk_3_88 : z_3[88]? = some (.int u2_1) := (hre_3 88 (by decide) (by decide)).trans (hfs_3_88)
  have hrq_3 : ∀ j : Nat, j ≠ 68 → j ≠ 70 → j ≠ 71 → j ≠ 78 → j ≠ 79 → j ≠ 87 → j ≠ 88 → z_3[j]? = zs[j]? := fun j g68 g70 g71 g78 g79 g87 g88 => (hre_3 j g68 g87).trans (hrs_4 j g68 g70 g71 g78 g79 g87 g88)
  refine lv_aload_n hx hb dX13_truth_27 rfl (lv_at hl 2 rfl) ?_
  refine lv_iconst (v := 3) hx hb dX13_truth_28 (by decide) ?_
  obtain ⟨⟨g904_0, u4_1⟩, hu_4, hsp⟩ := ox_bind hsp
  try dsimp only at hsp
  have hPc := hP.sub (ws' := [(h0, .inr (13, z_3)), (qf67, .inl (cf67, 12000, .inl g903_0))]) [7, 10] rfl
  have hDc := hD.sub (ws' := [(h0, .inr (13, z_3)), (qf67, .inl (cf67, 12000, .inl g903_0))]) [7, 10] (by decide) rfl
  have hKc := hK.sub (tys' := [(cf67, .int)]) [9] rfl
  have hFc := va_free (wc := [(h0, .inr (13, z_3)), (qf67, .inl (cf67, 12000, .inl g903_0))]) hD hS hA [7, 10] rfl
  refine va_callv (va_runV (As := [.int 3]) (rest := []) ⟨hx, hb, hml, hown, hts⟩ (tm_put l dC dI H.size h0 z_3 3 qf67 u3_3 cf67 g903_0 nf g904_0 u4_1 hln_3 hfk_3_67 hch_3_68 hu_4) (cwV 1 hts gv_h9_32 rfl rfl rfl (by decide +kernel) ⟨Nat.le_of_ble_eq_true rfl, Nat.le_of_ble_eq_true rfl⟩) ⟨fun a U g mk q => by obtain ⟨q0, q1, qP, qK, qD⟩ := q; exact ⟨q0, q1, qP, va_K.moved (u := U) (U := U.calling g mk a) (Vm.Alike.refl U.vm) qK, qD⟩, va_recv hKc hPc (ci := 13) (q0 := 0) rfl rfl, fun U hU hW => ⟨rfl, by rw [hU], by rw [hU]; exact hPc, va_K.moved hW.alike hKc, hDc.weaken (fun _ _ _ _ => trivial)⟩⟩ rfl rfl hl.1 rfl (lv_room (Nat.le_of_ble_eq_true rfl)) dX13_truth_29 ⟨Nat.le_of_ble_eq_true rfl, Nat.le_of_ble_eq_true rfl⟩) hS (fun q _ h => hFc q h) hFc ?_
  clear hS
  intro u t H1 locs ht hvm hw hB hz1 hk1 hS
  obtain ⟨z_4, rfl⟩ : ∃ z, z = u := ⟨_, rfl⟩
  obtain ⟨hP1, hK1, hD1⟩ := hB
  rw [ht] at hP1
  have hK1 := va_K.moved hvm.symm hK1
  try dsimp only at hw
  have hPD := va_join (wr := [(qf69, .inl (cf69, 3000, .inl f69)), (qf73, .inl (cf73, 6200, .inl f73)), (qf74, .inl (cf74, 6200, .inl f74)), (qf75, .inl (cf75, 6200, .inl f75)), (qf76, .inl (cf76, 6200, .inl f76)), (qf77, .inl (cf77, 60000, .inl f77)), (qf49, .inl (cf49, 3000, .inl f49)), (qf85, .inl (cf85, 3000, .inl g903_1)), (qf86, .inl (cf86, 3000, .inl g903_2))]) (w1 := [(h0, .inr (13, z_4)), (qf67, .inl (cf67, 12000, .inl g904_0))]) hP hD [7, 10] [0, 1, 2, 3, 4, 5, 6, 8, 9] rfl rfl (by decide) (by decide) hk1 hFc hP1 hD1
  clear hP hD
  obtain ⟨hP, hD⟩ := hPD
  replace hK := (hK.sub (tys' := [(cf69, .int), (cf73, .int), (cf74, .int), (cf75, .int), (cf76, .int), (cf77, .int), (cf49, .int), (cf85, .int), (cf86, .int)]) [0, 1, 2, 3, 4, 5, 6, 7, 8] rfl).app hK1
  clear hPc hDc hKc hFc hP1 hK1 hD1 hz1 hk1 ht hvm
  generalize H1 = H at hP hS ⊢
  replace hP : va_P (dC, dI) vwCl [(qf69, .inl (cf69, 3000, .inl f69)), (qf73, .inl (cf73, 6200, .inl f73)), (qf74, .inl (cf74, 6200, .inl f74)), (qf75, .inl (cf75, 6200, .inl f75)), (qf76, .inl (cf76, 6200, .inl f76)), (qf77, .inl (cf77, 60000, .inl f77)), (qf49, .inl (cf49, 3000, .inl f49)), (qf85, .inl (cf85, 3000, .inl g903_1)), (qf86, .inl (cf86, 3000, .inl g903_2)), (h0, .inr (13, z_4)), (qf67, .inl (cf67, 12000, .inl g904_0))] H := hP
  replace hD : va_D A [(qf69, .inl (cf69, 3000, .inl f69)), (qf73, .inl (cf73, 6200, .inl f73)), (qf74, .inl (cf74, 6200, .inl f74)), (qf75, .inl (cf75, 6200, .inl f75)), (qf76, .inl (cf76, 6200, .inl f76)), (qf77, .inl (cf77, 60000, .inl f77)), (qf49, .inl (cf49, 3000, .inl f49)), (qf85, .inl (cf85, 3000, .inl g903_1)), (qf86, .inl (cf86, 3000, .inl g903_2)), (h0, .inr (13, z_4)), (qf67, .inl (cf67, 12000, .inl g904_0))] := hD
  replace hK : va_K (dC, dI) vwCl [(cf69, .int), (cf73, .int), (cf74, .int), (cf75, .int), (cf76, .int), (cf77, .int), (cf49, .int), (cf85, .int), (cf86, .int), (cf67, .int)] s := hK
  obtain ⟨hwa_4, hln_4, hre_4, hch_4_68⟩ := hw
  have hfk_4_49 : z_4[49]? = some (.ref qf49) := (hre_4 49 (by decide)).trans (hfk_3_49)
  have hfk_4_50 : z_4[50]? = some (.int v50) := (hre_4 50 (by decide)).trans (hfk_3_50)
  have hfk_4_52 : z_4[52]? = some (.int v52) := (hre_4 52 (by decide)).trans (hfk_3_52)
  have hfk_4_53 : z_4[53]? = some (.int v53) := (hre_4 53 (by decide)).trans (hfk_3_53)
  have hfk_4_67 : z_4[67]? = some (.ref qf67) := (hre_4 67 (by decide)).trans (hfk_3_67)
  have hfk_4_69 : z_4[69]? = some (.ref qf69) := (hre_4 69 (by decide)).trans (hfk_3_69)
  have hfk_4_70 : z_4[70]? = some (.int (v70 - a2)) := (hre_4 70 (by decide)).trans (hfk_3_70)
  have hfk_4_71 : z_4[71]? = some (.int v71) := (hre_4 71 (by decide)).trans (hfk_3_71)
  have hfk_4_73 : z_4[73]? = some (.ref qf73) := (hre_4 73 (by decide)).trans (hfk_3_73)
  have hfk_4_74 : z_4[74]? = some (.ref qf74) := (hre_4 74 (by decide)).trans (hfk_3_74)
  have hfk_4_75 : z_4[75]? = some (.ref qf75) := (hre_4 75 (by decide)).trans (hfk_3_75)
  have hfk_4_76 : z_4[76]? = some (.ref qf76) := (hre_4 76 (by decide)).trans (hfk_3_76)
  have hfk_4_77 : z_4[77]? = some (.ref qf77) := (hre_4 77 (by decide)).trans (hfk_3_77)
  have hfk_4_78 : z_4[78]? = some (.int v78) := (hre_4 78 (by decide)).trans (hfk_3_78)
  have hfk_4_79 : z_4[79]? = some (.int v79) := (hre_4 79 (by decide)).trans (hfk_3_79)
  have hfk_4_85 : z_4[85]? = some (.ref qf85) := (hre_4 85 (by decide)).trans (hfk_3_85)
  have hfk_4_86 : z_4[86]? = some (.ref qf86) := (hre_4 86 (by decide)).trans (hfk_3_86)
  have hfk_4_87 : z_4[87]? = some (.int u3_4) := (hre_4 87 (by decide)).trans (hch_3_87)
  have hfk_4_88 : z_4[88]? = some (.int u2_1) := (hre_4 88 (by decide)).trans (hfk_3_88)
  have hrq_4 : ∀ j : Nat, j ≠ 68 → j ≠ 70 → j ≠ 71 → j ≠ 78 → j ≠ 79 → j ≠ 87 → j ≠ 88 → z_4[j]? = zs[j]? := fun j g68 g70 g71 g78 g79 g87 g88 => (hre_4 j g68).trans (hrq_3 j g68 g70 g71 g78 g79 g87 g88)
  refine lv_aload_n hx hb dX13_truth_32 rfl (lv_at hl 2 rfl) ?_
  refine lv_iconst (v := 0) hx hb dX13_truth_33 (by decide) ?_
  obtain ⟨⟨g905_0, u5_1, u5_2⟩, hu_5, hsp⟩ := ox_bind hsp
  try dsimp only at hsp
  have hPc := hP.sub (ws' := [(h0, .inr (13, z_4)), (qf69, .inl (cf69, 3000, .inl f69))]) [9, 0] rfl
  have hDc := hD.sub (ws' := [(h0, .inr (13, z_4)), (qf69, .inl (cf69, 3000, .inl f69))]) [9, 0] (by decide) rfl
  have hKc := hK.sub (tys' := [(cf69, .int)]) [0] rfl
  have hFc := va_free (wc := [(h0, .inr (13, z_4)), (qf69, .inl (cf69, 3000, .inl f69))]) hD hS hA [9, 0] rfl
  refine va_callv (va_runV (As := [.int 0]) (rest := []) ⟨hx, hb, hml, hown, hts⟩ (tm_push l dC dI H.size h0 z_4 0 qf69 ((v70 - a2)) v71 cf69 f69 nf g905_0 u5_1 u5_2 hln_4 hfk_4_69 hfk_4_70 hfk_4_71 hu_5) (cwV 1 hts gv_h9_34 rfl rfl rfl (by decide +kernel) ⟨Nat.le_of_ble_eq_true rfl, Nat.le_of_ble_eq_true rfl⟩) ⟨fun a U g mk q => by obtain ⟨q0, q1, qP, qK, qD⟩ := q; exact ⟨q0, q1, qP, va_K.moved (u := U) (U := U.calling g mk a) (Vm.Alike.refl U.vm) qK, qD⟩, va_recv hKc hPc (ci := 13) (q0 := 0) rfl rfl, fun U hU hW => ⟨rfl, by rw [hU], by rw [hU]; exact hPc, va_K.moved hW.alike hKc, hDc.weaken (fun _ _ _ _ => trivial)⟩⟩ rfl rfl hl.1 rfl (lv_room (Nat.le_of_ble_eq_true rfl)) dX13_truth_34 ⟨Nat.le_of_ble_eq_true rfl, Nat.le_of_ble_eq_true rfl⟩) hS (fun q _ h => hFc q h) hFc ?_
  clear hS
  intro u t H1 locs ht hvm hw hB hz1 hk1 hS
  obtain ⟨z_5, rfl⟩ : ∃ z, z = u := ⟨_, rfl⟩
  obtain ⟨hP1, hK1, hD1⟩ := hB
  rw [ht] at hP1
  have hK1 := va_K.moved hvm.symm hK1
  try dsimp only at hw
  have hPD := va_join (wr := [(qf73, .inl (cf73, 6200, .inl f73)), (qf74, .inl (cf74, 6200, .inl f74)), (qf75, .inl (cf75, 6200, .inl f75)), (qf76, .inl (cf76, 6200, .inl f76)), (qf77, .inl (cf77, 60000, .inl f77)), (qf49, .inl (cf49, 3000, .inl f49)), (qf85, .inl (cf85, 3000, .inl g903_1)), (qf86, .inl (cf86, 3000, .inl g903_2)), (qf67, .inl (cf67, 12000, .inl g904_0))]) (w1 := [(h0, .inr (13, z_5)), (qf69, .inl (cf69, 3000, .inl g905_0))]) hP hD [9, 0] [1, 2, 3, 4, 5, 6, 7, 8, 10] rfl rfl (by decide) (by decide) hk1 hFc hP1 hD1
  clear hP hD
  obtain ⟨hP, hD⟩ := hPD
  replace hK := (hK.sub (tys' := [(cf73, .int), (cf74, .int), (cf75, .int), (cf76, .int), (cf77, .int), (cf49, .int), (cf85, .int), (cf86, .int), (cf67, .int)]) [1, 2, 3, 4, 5, 6, 7, 8, 9] rfl).app hK1
  clear hPc hDc hKc hFc hP1 hK1 hD1 hz1 hk1 ht hvm
  generalize H1 = H at hP hS ⊢
  replace hP : va_P (dC, dI) vwCl [(qf73, .inl (cf73, 6200, .inl f73)), (qf74, .inl (cf74, 6200, .inl f74)), (qf75, .inl (cf75, 6200, .inl f75)), (qf76, .inl (cf76, 6200, .inl f76)), (qf77, .inl (cf77, 60000, .inl f77)), (qf49, .inl (cf49, 3000, .inl f49)), (qf85, .inl (cf85, 3000, .inl g903_1)), (qf86, .inl (cf86, 3000, .inl g903_2)), (qf67, .inl (cf67, 12000, .inl g904_0)), (h0, .inr (13, z_5)), (qf69, .inl (cf69, 3000, .inl g905_0))] H := hP
  replace hD : va_D A [(qf73, .inl (cf73, 6200, .inl f73)), (qf74, .inl (cf74, 6200, .inl f74)), (qf75, .inl (cf75, 6200, .inl f75)), (qf76, .inl (cf76, 6200, .inl f76)), (qf77, .inl (cf77, 60000, .inl f77)), (qf49, .inl (cf49, 3000, .inl f49)), (qf85, .inl (cf85, 3000, .inl g903_1)), (qf86, .inl (cf86, 3000, .inl g903_2)), (qf67, .inl (cf67, 12000, .inl g904_0)), (h0, .inr (13, z_5)), (qf69, .inl (cf69, 3000, .inl g905_0))] := hD
  replace hK : va_K (dC, dI) vwCl [(cf73, .int), (cf74, .int), (cf75, .int), (cf76, .int), (cf77, .int), (cf49, .int), (cf85, .int), (cf86, .int), (cf67, .int), (cf69, .int)] s := hK
  obtain ⟨hwa_5, hln_5, hre_5, hch_5_70, hch_5_71⟩ := hw
  have hfk_5_49 : z_5[49]? = some (.ref qf49) := (hre_5 49 (by decide) (by decide)).trans (hfk_4_49)
  have hfk_5_50 : z_5[50]? = some (.int v50) := (hre_5 50 (by decide) (by decide)).trans (hfk_4_50)
  have hfk_5_52 : z_5[52]? = some (.int v52) := (hre_5 52 (by decide) (by decide)).trans (hfk_4_52)
  have hfk_5_53 : z_5[53]? = some (.int v53) := (hre_5 53 (by decide) (by decide)).trans (hfk_4_53)
  have hfk_5_67 : z_5[67]? = some (.ref qf67) := (hre_5 67 (by decide) (by decide)).trans (hfk_4_67)
  have hfk_5_68 : z_5[68]? = some (.int u4_1) := (hre_5 68 (by decide) (by decide)).trans (hch_4_68)
  have hfk_5_69 : z_5[69]? = some (.ref qf69) := (hre_5 69 (by decide) (by decide)).trans (hfk_4_69)
  have hfk_5_73 : z_5[73]? = some (.ref qf73) := (hre_5 73 (by decide) (by decide)).trans (hfk_4_73)
  have hfk_5_74 : z_5[74]? = some (.ref qf74) := (hre_5 74 (by decide) (by decide)).trans (hfk_4_74)
  have hfk_5_75 : z_5[75]? = some (.ref qf75) := (hre_5 75 (by decide) (by decide)).trans (hfk_4_75)
  have hfk_5_76 : z_5[76]? = some (.ref qf76) := (hre_5 76 (by decide) (by decide)).trans (hfk_4_76)
  have hfk_5_77 : z_5[77]? = some (.ref qf77) := (hre_5 77 (by decide) (by decide)).trans (hfk_4_77)
  have hfk_5_78 : z_5[78]? = some (.int v78) := (hre_5 78 (by decide) (by decide)).trans (hfk_4_78)
  have hfk_5_79 : z_5[79]? = some (.int v79) := (hre_5 79 (by decide) (by decide)).trans (hfk_4_79)
  have hfk_5_85 : z_5[85]? = some (.ref qf85) := (hre_5 85 (by decide) (by decide)).trans (hfk_4_85)
  have hfk_5_86 : z_5[86]? = some (.ref qf86) := (hre_5 86 (by decide) (by decide)).trans (hfk_4_86)
  have hfk_5_87 : z_5[87]? = some (.int u3_4) := (hre_5 87 (by decide) (by decide)).trans (hfk_4_87)
  have hfk_5_88 : z_5[88]? = some (.int u2_1) := (hre_5 88 (by decide) (by decide)).trans (hfk_4_88)
  have hrq_5 : ∀ j : Nat, j ≠ 68 → j ≠ 70 → j ≠ 71 → j ≠ 78 → j ≠ 79 → j ≠ 87 → j ≠ 88 → z_5[j]? = zs[j]? := fun j g68 g70 g71 g78 g79 g87 g88 => (hre_5 j g70 g71).trans (hrq_4 j g68 g70 g71 g78 g79 g87 g88)
  refine lv_aload_n hx hb dX13_truth_37 rfl (lv_at hl 2 rfl) ?_
  refine lv_dup hx hb dX13_truth_38 rfl ?_
  refine va_get (D := (dC, dI)) (ci := 13) (v := .int u5_1) (C := RX13) (T := TX13) (N := 155) hx hb hts uV_h9_X13 hown hK hP 9 rfl rfl 70 (by decide) (hts (.fieldLink RX13 629 "ClassMillModel" "piled" "I") mw_h9_172) (fun _ h9 => h9) hch_5_70 dX13_truth_39 ?_
  refine lv_iconst (v := 1) hx hb dX13_truth_42 (by decide) ?_
  refine lv_isub hx hb dX13_truth_43 ?_
  refine va_put (D := (dC, dI)) (ci := 13) (v := .int (u5_1 - 1)) (ty := .int) (C := RX13) (T := TX13) (N := 155) hx hb hts uV_h9_X13 tyX13 tyX13_ok nmX13 hown hK hP hD hS 9 rfl rfl 70 (by decide) (hts (.fieldLink RX13 629 "ClassMillModel" "piled" "I") mw_h9_172) (fun _ h9 => h9) rfl (by decide +kernel) rfl rfl (by rw [hln_5]; decide) dX13_truth_44 ?_
  clear hP hD hS
  intro H locs hP hD hS
  obtain ⟨fs_5, efs_5⟩ : ∃ zf : List Value, zf = z_5.set 70 (.int (u5_1 - 1)) := ⟨_, rfl⟩
  rw [← efs_5] at hP hD
  have hlfs_5 : fs_5.length = 155 := by rw [efs_5, List.length_set]; exact hln_5
  have hfs_5_49 : fs_5[49]? = some (.ref qf49) := by rw [efs_5, List.getElem?_set_ne (by decide)]; exact hfk_5_49
  have hfs_5_50 : fs_5[50]? = some (.int v50) := by rw [efs_5, List.getElem?_set_ne (by decide)]; exact hfk_5_50
  have hfs_5_52 : fs_5[52]? = some (.int v52) := by rw [efs_5, List.getElem?_set_ne (by decide)]; exact hfk_5_52
  have hfs_5_53 : fs_5[53]? = some (.int v53) := by rw [efs_5, List.getElem?_set_ne (by decide)]; exact hfk_5_53
  have hfs_5_67 : fs_5[67]? = some (.ref qf67) := by rw [efs_5, List.getElem?_set_ne (by decide)]; exact hfk_5_67
  have hfs_5_68 : fs_5[68]? = some (.int u4_1) := by rw [efs_5, List.getElem?_set_ne (by decide)]; exact hfk_5_68
  have hfs_5_69 : fs_5[69]? = some (.ref qf69) := by rw [efs_5, List.getElem?_set_ne (by decide)]; exact hfk_5_69
  have hfs_5_71 : fs_5[71]? = some (.int u5_2) := by rw [efs_5, List.getElem?_set_ne (by decide)]; exact hch_5_71
  have hfs_5_73 : fs_5[73]? = some (.ref qf73) := by rw [efs_5, List.getElem?_set_ne (by decide)]; exact hfk_5_73
  have hfs_5_74 : fs_5[74]? = some (.ref qf74) := by rw [efs_5, List.getElem?_set_ne (by decide)]; exact hfk_5_74
  have hfs_5_75 : fs_5[75]? = some (.ref qf75) := by rw [efs_5, List.getElem?_set_ne (by decide)]; exact hfk_5_75
  have hfs_5_76 : fs_5[76]? = some (.ref qf76) := by rw [efs_5, List.getElem?_set_ne (by decide)]; exact hfk_5_76
  have hfs_5_77 : fs_5[77]? = some (.ref qf77) := by rw [efs_5, List.getElem?_set_ne (by decide)]; exact hfk_5_77
  have hfs_5_78 : fs_5[78]? = some (.int v78) := by rw [efs_5, List.getElem?_set_ne (by decide)]; exact hfk_5_78
  have hfs_5_79 : fs_5[79]? = some (.int v79) := by rw [efs_5, List.getElem?_set_ne (by decide)]; exact hfk_5_79
  have hfs_5_85 : fs_5[85]? = some (.ref qf85) := by rw [efs_5, List.getElem?_set_ne (by decide)]; exact hfk_5_85
  have hfs_5_86 : fs_5[86]? = some (.ref qf86) := by rw [efs_5, List.getElem?_set_ne (by decide)]; exact hfk_5_86
  have hfs_5_87 : fs_5[87]? = some (.int u3_4) := by rw [efs_5, List.getElem?_set_ne (by decide)]; exact hfk_5_87
  have hfs_5_88 : fs_5[88]? = some (.int u2_1) := by rw [efs_5, List.getElem?_set_ne (by decide)]; exact hfk_5_88
  have hfs_5_70 : fs_5[70]? = some (.int (u5_1 - 1)) := by rw [efs_5, List.getElem?_set_self (by rw [hln_5]; decide)]
  replace hP : va_P (dC, dI) vwCl [(qf73, .inl (cf73, 6200, .inl f73)), (qf74, .inl (cf74, 6200, .inl f74)), (qf75, .inl (cf75, 6200, .inl f75)), (qf76, .inl (cf76, 6200, .inl f76)), (qf77, .inl (cf77, 60000, .inl f77)), (qf49, .inl (cf49, 3000, .inl f49)), (qf85, .inl (cf85, 3000, .inl g903_1)), (qf86, .inl (cf86, 3000, .inl g903_2)), (qf67, .inl (cf67, 12000, .inl g904_0)), (h0, .inr (13, fs_5)), (qf69, .inl (cf69, 3000, .inl g905_0))] H := hP
  replace hD : va_D A [(qf73, .inl (cf73, 6200, .inl f73)), (qf74, .inl (cf74, 6200, .inl f74)), (qf75, .inl (cf75, 6200, .inl f75)), (qf76, .inl (cf76, 6200, .inl f76)), (qf77, .inl (cf77, 60000, .inl f77)), (qf49, .inl (cf49, 3000, .inl f49)), (qf85, .inl (cf85, 3000, .inl g903_1)), (qf86, .inl (cf86, 3000, .inl g903_2)), (qf67, .inl (cf67, 12000, .inl g904_0)), (h0, .inr (13, fs_5)), (qf69, .inl (cf69, 3000, .inl g905_0))] := hD
  have hrs_6 : ∀ j : Nat, j ≠ 68 → j ≠ 70 → j ≠ 71 → j ≠ 78 → j ≠ 79 → j ≠ 87 → j ≠ 88 → fs_5[j]? = zs[j]? := fun j g68 g70 g71 g78 g79 g87 g88 => ((congrArg (fun z : List Value => z[j]?) efs_5).trans (List.getElem?_set_ne (Ne.symm g70))).trans (hrq_5 j g68 g70 g71 g78 g79 g87 g88)
  refine lv_aload_n hx hb dX13_truth_47 rfl (lv_at hl 2 rfl) ?_
  refine lv_sipush (v := 167) hx hb dX13_truth_48 (by decide) ?_
  refine lv_iload hx hb dX13_truth_51 (lv_at hl 0 rfl) ?_
  obtain ⟨⟨g906_0, g906_1, g906_2, u6_3, u6_4⟩, hu_6, hsp⟩ := ox_bind hsp
  try dsimp only at hsp
  have hPc := hP.sub (ws' := [(h0, .inr (13, fs_5)), (qf85, .inl (cf85, 3000, .inl g903_1)), (qf86, .inl (cf86, 3000, .inl g903_2)), (qf67, .inl (cf67, 12000, .inl g904_0))]) [9, 6, 7, 8] rfl
  have hDc := hD.sub (ws' := [(h0, .inr (13, fs_5)), (qf85, .inl (cf85, 3000, .inl g903_1)), (qf86, .inl (cf86, 3000, .inl g903_2)), (qf67, .inl (cf67, 12000, .inl g904_0))]) [9, 6, 7, 8] (by decide) rfl
  have hKc := hK.sub (tys' := [(cf85, .int), (cf86, .int), (cf67, .int)]) [6, 7, 8] rfl
  have hFc := va_free (wc := [(h0, .inr (13, fs_5)), (qf85, .inl (cf85, 3000, .inl g903_1)), (qf86, .inl (cf86, 3000, .inl g903_2)), (qf67, .inl (cf67, 12000, .inl g904_0))]) hD hS hA [9, 6, 7, 8] rfl
  refine va_callv (va_runV (As := [.int 167, .int u2_0]) (rest := []) ⟨hx, hb, hml, hown, hts⟩ (tm_jump l dC dI H.size h0 fs_5 167 u2_0 qf67 u4_1 qf85 qf86 u3_4 cf85 g903_1 cf86 g903_2 cf67 g904_0 nf g906_0 g906_1 g906_2 u6_3 u6_4 hlfs_5 hfs_5_67 hfs_5_68 hfs_5_85 hfs_5_86 hfs_5_87 hu_6) (cwV 2 hts gv_h9_36 rfl rfl rfl (by decide +kernel) ⟨Nat.le_of_ble_eq_true rfl, Nat.le_of_ble_eq_true rfl⟩) ⟨fun a U g mk q => by obtain ⟨q0, q1, qP, qK, qD⟩ := q; exact ⟨q0, q1, qP, va_K.moved (u := U) (U := U.calling g mk a) (Vm.Alike.refl U.vm) qK, qD⟩, va_recv hKc hPc (ci := 13) (q0 := 0) rfl rfl, fun U hU hW => ⟨rfl, by rw [hU], by rw [hU]; exact hPc, va_K.moved hW.alike hKc, hDc.weaken (fun _ _ _ _ => trivial)⟩⟩ rfl rfl hl.1 rfl (lv_room (Nat.le_of_ble_eq_true rfl)) dX13_truth_53 ⟨Nat.le_of_ble_eq_true rfl, Nat.le_of_ble_eq_true rfl⟩) hS (fun q _ h => hFc q h) hFc ?_
  clear hS
  intro u t H1 locs ht hvm hw hB hz1 hk1 hS
  obtain ⟨z_6, rfl⟩ : ∃ z, z = u := ⟨_, rfl⟩
  obtain ⟨hP1, hK1, hD1⟩ := hB
  rw [ht] at hP1
  have hK1 := va_K.moved hvm.symm hK1
  try dsimp only at hw
  have hPD := va_join (wr := [(qf73, .inl (cf73, 6200, .inl f73)), (qf74, .inl (cf74, 6200, .inl f74)), (qf75, .inl (cf75, 6200, .inl f75)), (qf76, .inl (cf76, 6200, .inl f76)), (qf77, .inl (cf77, 60000, .inl f77)), (qf49, .inl (cf49, 3000, .inl f49)), (qf69, .inl (cf69, 3000, .inl g905_0))]) (w1 := [(h0, .inr (13, z_6)), (qf85, .inl (cf85, 3000, .inl g906_1)), (qf86, .inl (cf86, 3000, .inl g906_2)), (qf67, .inl (cf67, 12000, .inl g906_0))]) hP hD [9, 6, 7, 8] [0, 1, 2, 3, 4, 5, 10] rfl rfl (by decide) (by decide) hk1 hFc hP1 hD1
  clear hP hD
  obtain ⟨hP, hD⟩ := hPD
  replace hK := (hK.sub (tys' := [(cf73, .int), (cf74, .int), (cf75, .int), (cf76, .int), (cf77, .int), (cf49, .int), (cf69, .int)]) [0, 1, 2, 3, 4, 5, 9] rfl).app hK1
  clear hPc hDc hKc hFc hP1 hK1 hD1 hz1 hk1 ht hvm
  generalize H1 = H at hP hS ⊢
  replace hP : va_P (dC, dI) vwCl [(qf73, .inl (cf73, 6200, .inl f73)), (qf74, .inl (cf74, 6200, .inl f74)), (qf75, .inl (cf75, 6200, .inl f75)), (qf76, .inl (cf76, 6200, .inl f76)), (qf77, .inl (cf77, 60000, .inl f77)), (qf49, .inl (cf49, 3000, .inl f49)), (qf69, .inl (cf69, 3000, .inl g905_0)), (h0, .inr (13, z_6)), (qf85, .inl (cf85, 3000, .inl g906_1)), (qf86, .inl (cf86, 3000, .inl g906_2)), (qf67, .inl (cf67, 12000, .inl g906_0))] H := hP
  replace hD : va_D A [(qf73, .inl (cf73, 6200, .inl f73)), (qf74, .inl (cf74, 6200, .inl f74)), (qf75, .inl (cf75, 6200, .inl f75)), (qf76, .inl (cf76, 6200, .inl f76)), (qf77, .inl (cf77, 60000, .inl f77)), (qf49, .inl (cf49, 3000, .inl f49)), (qf69, .inl (cf69, 3000, .inl g905_0)), (h0, .inr (13, z_6)), (qf85, .inl (cf85, 3000, .inl g906_1)), (qf86, .inl (cf86, 3000, .inl g906_2)), (qf67, .inl (cf67, 12000, .inl g906_0))] := hD
  replace hK : va_K (dC, dI) vwCl [(cf73, .int), (cf74, .int), (cf75, .int), (cf76, .int), (cf77, .int), (cf49, .int), (cf69, .int), (cf85, .int), (cf86, .int), (cf67, .int)] s := hK
  obtain ⟨hwa_6, hln_6, hre_6, hch_6_68, hch_6_87⟩ := hw
  have hfk_6_49 : z_6[49]? = some (.ref qf49) := (hre_6 49 (by decide) (by decide)).trans (hfs_5_49)
  have hfk_6_50 : z_6[50]? = some (.int v50) := (hre_6 50 (by decide) (by decide)).trans (hfs_5_50)
  have hfk_6_52 : z_6[52]? = some (.int v52) := (hre_6 52 (by decide) (by decide)).trans (hfs_5_52)
  have hfk_6_53 : z_6[53]? = some (.int v53) := (hre_6 53 (by decide) (by decide)).trans (hfs_5_53)
  have hfk_6_67 : z_6[67]? = some (.ref qf67) := (hre_6 67 (by decide) (by decide)).trans (hfs_5_67)
  have hfk_6_69 : z_6[69]? = some (.ref qf69) := (hre_6 69 (by decide) (by decide)).trans (hfs_5_69)
  have hfk_6_70 : z_6[70]? = some (.int (u5_1 - 1)) := (hre_6 70 (by decide) (by decide)).trans (hfs_5_70)
  have hfk_6_71 : z_6[71]? = some (.int u5_2) := (hre_6 71 (by decide) (by decide)).trans (hfs_5_71)
  have hfk_6_73 : z_6[73]? = some (.ref qf73) := (hre_6 73 (by decide) (by decide)).trans (hfs_5_73)
  have hfk_6_74 : z_6[74]? = some (.ref qf74) := (hre_6 74 (by decide) (by decide)).trans (hfs_5_74)
  have hfk_6_75 : z_6[75]? = some (.ref qf75) := (hre_6 75 (by decide) (by decide)).trans (hfs_5_75)
  have hfk_6_76 : z_6[76]? = some (.ref qf76) := (hre_6 76 (by decide) (by decide)).trans (hfs_5_76)
  have hfk_6_77 : z_6[77]? = some (.ref qf77) := (hre_6 77 (by decide) (by decide)).trans (hfs_5_77)
  have hfk_6_78 : z_6[78]? = some (.int v78) := (hre_6 78 (by decide) (by decide)).trans (hfs_5_78)
  have hfk_6_79 : z_6[79]? = some (.int v79) := (hre_6 79 (by decide) (by decide)).trans (hfs_5_79)
  have hfk_6_85 : z_6[85]? = some (.ref qf85) := (hre_6 85 (by decide) (by decide)).trans (hfs_5_85)
  have hfk_6_86 : z_6[86]? = some (.ref qf86) := (hre_6 86 (by decide) (by decide)).trans (hfs_5_86)
  have hfk_6_88 : z_6[88]? = some (.int u2_1) := (hre_6 88 (by decide) (by decide)).trans (hfs_5_88)
  have hrq_6 : ∀ j : Nat, j ≠ 68 → j ≠ 70 → j ≠ 71 → j ≠ 78 → j ≠ 79 → j ≠ 87 → j ≠ 88 → z_6[j]? = zs[j]? := fun j g68 g70 g71 g78 g79 g87 g88 => (hre_6 j g68 g87).trans (hrs_6 j g68 g70 g71 g78 g79 g87 g88)
  refine lv_aload_n hx hb dX13_truth_56 rfl (lv_at hl 2 rfl) ?_
  refine lv_iload_n hx hb dX13_truth_57 rfl (lv_at hl 1 rfl) ?_
  refine lv_aload_n hx hb dX13_truth_58 rfl (lv_at hl 2 rfl) ?_
  refine va_get (D := (dC, dI)) (ci := 13) (v := .int u6_3) (C := RX13) (T := TX13) (N := 155) hx hb hts uV_h9_X13 hown hK hP 7 rfl rfl 68 (by decide) (hts (.fieldLink RX13 627 "ClassMillModel" "length" "I") mw_h9_434) (fun _ h9 => h9) hch_6_68 dX13_truth_59 ?_
  obtain ⟨⟨g907_0, g907_1, g907_2, g907_3, g907_4, g907_5, g907_6, g907_7, u7_8, u7_9, u7_10⟩, hu_7, hsp⟩ := ox_bind hsp
  try dsimp only at hsp
  have hPc := hP.sub (ws' := [(h0, .inr (13, z_6)), (qf73, .inl (cf73, 6200, .inl f73)), (qf74, .inl (cf74, 6200, .inl f74)), (qf75, .inl (cf75, 6200, .inl f75)), (qf76, .inl (cf76, 6200, .inl f76)), (qf77, .inl (cf77, 60000, .inl f77)), (qf69, .inl (cf69, 3000, .inl g905_0)), (qf49, .inl (cf49, 3000, .inl f49)), (qf86, .inl (cf86, 3000, .inl g906_2)), (qf85, .inl (cf85, 3000, .inl g906_1)), (qf67, .inl (cf67, 12000, .inl g906_0))]) [7, 0, 1, 2, 3, 4, 6, 5, 9, 8, 10] rfl
  have hDc := hD.sub (ws' := [(h0, .inr (13, z_6)), (qf73, .inl (cf73, 6200, .inl f73)), (qf74, .inl (cf74, 6200, .inl f74)), (qf75, .inl (cf75, 6200, .inl f75)), (qf76, .inl (cf76, 6200, .inl f76)), (qf77, .inl (cf77, 60000, .inl f77)), (qf69, .inl (cf69, 3000, .inl g905_0)), (qf49, .inl (cf49, 3000, .inl f49)), (qf86, .inl (cf86, 3000, .inl g906_2)), (qf85, .inl (cf85, 3000, .inl g906_1)), (qf67, .inl (cf67, 12000, .inl g906_0))]) [7, 0, 1, 2, 3, 4, 6, 5, 9, 8, 10] (by decide) rfl
  have hKc := hK.sub (tys' := [(cf73, .int), (cf74, .int), (cf75, .int), (cf76, .int), (cf77, .int), (cf69, .int), (cf49, .int), (cf86, .int), (cf85, .int), (cf67, .int)]) [0, 1, 2, 3, 4, 6, 5, 8, 7, 9] rfl
  have hFc := va_free (wc := [(h0, .inr (13, z_6)), (qf73, .inl (cf73, 6200, .inl f73)), (qf74, .inl (cf74, 6200, .inl f74)), (qf75, .inl (cf75, 6200, .inl f75)), (qf76, .inl (cf76, 6200, .inl f76)), (qf77, .inl (cf77, 60000, .inl f77)), (qf69, .inl (cf69, 3000, .inl g905_0)), (qf49, .inl (cf49, 3000, .inl f49)), (qf86, .inl (cf86, 3000, .inl g906_2)), (qf85, .inl (cf85, 3000, .inl g906_1)), (qf67, .inl (cf67, 12000, .inl g906_0))]) hD hS hA [7, 0, 1, 2, 3, 4, 6, 5, 9, 8, 10] rfl
  refine va_callv (va_runV (As := [.int u1_0, .int u6_3]) (rest := []) ⟨hx, hb, hml, hown, hts⟩ (vm_stands l dC dI H.size h0 z_6 u1_0 u6_3 qf49 v50 v52 v53 qf67 qf69 ((u5_1 - 1)) qf73 qf74 qf75 qf76 qf77 v78 v79 qf85 qf86 u6_4 cf73 f73 cf74 f74 cf75 f75 cf76 f76 cf77 f77 cf69 g905_0 cf49 f49 cf86 g906_2 cf85 g906_1 cf67 g906_0 nf g907_0 g907_1 g907_2 g907_3 g907_4 g907_5 g907_6 g907_7 u7_8 u7_9 u7_10 hln_6 hfk_6_49 hfk_6_50 hfk_6_52 hfk_6_53 hfk_6_67 hfk_6_69 hfk_6_70 hfk_6_73 hfk_6_74 hfk_6_75 hfk_6_76 hfk_6_77 hfk_6_78 hfk_6_79 hfk_6_85 hfk_6_86 hch_6_87 hu_7) (cwV 2 hts gv_h9_84 rfl rfl rfl (by decide +kernel) ⟨Nat.le_of_ble_eq_true rfl, Nat.le_of_ble_eq_true rfl⟩) ⟨fun a U g mk q => by obtain ⟨q0, q1, qP, qK, qD⟩ := q; exact ⟨q0, q1, qP, va_K.moved (u := U) (U := U.calling g mk a) (Vm.Alike.refl U.vm) qK, qD⟩, va_recv hKc hPc (ci := 13) (q0 := 0) rfl rfl, fun U hU hW => ⟨rfl, by rw [hU], by rw [hU]; exact hPc, va_K.moved hW.alike hKc, hDc.weaken (fun _ _ _ _ => trivial)⟩⟩ rfl rfl hl.1 rfl (lv_room (Nat.le_of_ble_eq_true rfl)) dX13_truth_62 ⟨Nat.le_of_ble_eq_true rfl, Nat.le_of_ble_eq_true rfl⟩) hS (fun q _ h => hFc q h) hFc ?_
  clear hS
  intro u t H1 locs ht hvm hw hB hz1 hk1 hS
  obtain ⟨z_7, rfl⟩ : ∃ z, z = u := ⟨_, rfl⟩
  obtain ⟨hP1, hK1, hD1⟩ := hB
  rw [ht] at hP1
  have hK1 := va_K.moved hvm.symm hK1
  try dsimp only at hw
  have hPD := va_join (wr := []) (w1 := [(h0, .inr (13, z_7)), (qf73, .inl (cf73, 6200, .inl g907_1)), (qf74, .inl (cf74, 6200, .inl g907_2)), (qf75, .inl (cf75, 6200, .inl g907_3)), (qf76, .inl (cf76, 6200, .inl g907_4)), (qf77, .inl (cf77, 60000, .inl g907_5)), (qf69, .inl (cf69, 3000, .inl g905_0)), (qf49, .inl (cf49, 3000, .inl f49)), (qf86, .inl (cf86, 3000, .inl g907_7)), (qf85, .inl (cf85, 3000, .inl g907_6)), (qf67, .inl (cf67, 12000, .inl g907_0))]) hP hD [7, 0, 1, 2, 3, 4, 6, 5, 9, 8, 10] [] rfl rfl (by decide) (by decide) hk1 hFc hP1 hD1
  clear hP hD
  obtain ⟨hP, hD⟩ := hPD
  replace hK := (hK.sub (tys' := []) [] rfl).app hK1
  clear hPc hDc hKc hFc hP1 hK1 hD1 hz1 hk1 ht hvm
  generalize H1 = H at hP hS ⊢
  replace hP : va_P (dC, dI) vwCl [(h0, .inr (13, z_7)), (qf73, .inl (cf73, 6200, .inl g907_1)), (qf74, .inl (cf74, 6200, .inl g907_2)), (qf75, .inl (cf75, 6200, .inl g907_3)), (qf76, .inl (cf76, 6200, .inl g907_4)), (qf77, .inl (cf77, 60000, .inl g907_5)), (qf69, .inl (cf69, 3000, .inl g905_0)), (qf49, .inl (cf49, 3000, .inl f49)), (qf86, .inl (cf86, 3000, .inl g907_7)), (qf85, .inl (cf85, 3000, .inl g907_6)), (qf67, .inl (cf67, 12000, .inl g907_0))] H := hP
  replace hD : va_D A [(h0, .inr (13, z_7)), (qf73, .inl (cf73, 6200, .inl g907_1)), (qf74, .inl (cf74, 6200, .inl g907_2)), (qf75, .inl (cf75, 6200, .inl g907_3)), (qf76, .inl (cf76, 6200, .inl g907_4)), (qf77, .inl (cf77, 60000, .inl g907_5)), (qf69, .inl (cf69, 3000, .inl g905_0)), (qf49, .inl (cf49, 3000, .inl f49)), (qf86, .inl (cf86, 3000, .inl g907_7)), (qf85, .inl (cf85, 3000, .inl g907_6)), (qf67, .inl (cf67, 12000, .inl g907_0))] := hD
  replace hK : va_K (dC, dI) vwCl [(cf73, .int), (cf74, .int), (cf75, .int), (cf76, .int), (cf77, .int), (cf69, .int), (cf49, .int), (cf86, .int), (cf85, .int), (cf67, .int)] s := hK
  obtain ⟨hwa_7, hln_7, hre_7, hch_7_78, hch_7_79, hch_7_87⟩ := hw
  have hfk_7_49 : z_7[49]? = some (.ref qf49) := (hre_7 49 (by decide) (by decide) (by decide)).trans (hfk_6_49)
  have hfk_7_50 : z_7[50]? = some (.int v50) := (hre_7 50 (by decide) (by decide) (by decide)).trans (hfk_6_50)
  have hfk_7_52 : z_7[52]? = some (.int v52) := (hre_7 52 (by decide) (by decide) (by decide)).trans (hfk_6_52)
  have hfk_7_53 : z_7[53]? = some (.int v53) := (hre_7 53 (by decide) (by decide) (by decide)).trans (hfk_6_53)
  have hfk_7_67 : z_7[67]? = some (.ref qf67) := (hre_7 67 (by decide) (by decide) (by decide)).trans (hfk_6_67)
  have hfk_7_68 : z_7[68]? = some (.int u6_3) := (hre_7 68 (by decide) (by decide) (by decide)).trans (hch_6_68)
  have hfk_7_69 : z_7[69]? = some (.ref qf69) := (hre_7 69 (by decide) (by decide) (by decide)).trans (hfk_6_69)
  have hfk_7_70 : z_7[70]? = some (.int (u5_1 - 1)) := (hre_7 70 (by decide) (by decide) (by decide)).trans (hfk_6_70)
  have hfk_7_71 : z_7[71]? = some (.int u5_2) := (hre_7 71 (by decide) (by decide) (by decide)).trans (hfk_6_71)
  have hfk_7_73 : z_7[73]? = some (.ref qf73) := (hre_7 73 (by decide) (by decide) (by decide)).trans (hfk_6_73)
  have hfk_7_74 : z_7[74]? = some (.ref qf74) := (hre_7 74 (by decide) (by decide) (by decide)).trans (hfk_6_74)
  have hfk_7_75 : z_7[75]? = some (.ref qf75) := (hre_7 75 (by decide) (by decide) (by decide)).trans (hfk_6_75)
  have hfk_7_76 : z_7[76]? = some (.ref qf76) := (hre_7 76 (by decide) (by decide) (by decide)).trans (hfk_6_76)
  have hfk_7_77 : z_7[77]? = some (.ref qf77) := (hre_7 77 (by decide) (by decide) (by decide)).trans (hfk_6_77)
  have hfk_7_85 : z_7[85]? = some (.ref qf85) := (hre_7 85 (by decide) (by decide) (by decide)).trans (hfk_6_85)
  have hfk_7_86 : z_7[86]? = some (.ref qf86) := (hre_7 86 (by decide) (by decide) (by decide)).trans (hfk_6_86)
  have hfk_7_88 : z_7[88]? = some (.int u2_1) := (hre_7 88 (by decide) (by decide) (by decide)).trans (hfk_6_88)
  have hrq_7 : ∀ j : Nat, j ≠ 68 → j ≠ 70 → j ≠ 71 → j ≠ 78 → j ≠ 79 → j ≠ 87 → j ≠ 88 → z_7[j]? = zs[j]? := fun j g68 g70 g71 g78 g79 g87 g88 => (hre_7 j g78 g79 g87).trans (hrq_6 j g68 g70 g71 g78 g79 g87 g88)
  refine lv_aload_n hx hb dX13_truth_65 rfl (lv_at hl 2 rfl) ?_
  refine lv_iconst (v := 4) hx hb dX13_truth_66 (by decide) ?_
  obtain ⟨⟨g908_0, u8_1⟩, hu_8, hsp⟩ := ox_bind hsp
  try dsimp only at hsp
  have hPc := hP.sub (ws' := [(h0, .inr (13, z_7)), (qf67, .inl (cf67, 12000, .inl g907_0))]) [0, 10] rfl
  have hDc := hD.sub (ws' := [(h0, .inr (13, z_7)), (qf67, .inl (cf67, 12000, .inl g907_0))]) [0, 10] (by decide) rfl
  have hKc := hK.sub (tys' := [(cf67, .int)]) [9] rfl
  have hFc := va_free (wc := [(h0, .inr (13, z_7)), (qf67, .inl (cf67, 12000, .inl g907_0))]) hD hS hA [0, 10] rfl
  refine va_callv (va_runV (As := [.int 4]) (rest := []) ⟨hx, hb, hml, hown, hts⟩ (tm_put l dC dI H.size h0 z_7 4 qf67 u6_3 cf67 g907_0 nf g908_0 u8_1 hln_7 hfk_7_67 hfk_7_68 hu_8) (cwV 1 hts gv_h9_32 rfl rfl rfl (by decide +kernel) ⟨Nat.le_of_ble_eq_true rfl, Nat.le_of_ble_eq_true rfl⟩) ⟨fun a U g mk q => by obtain ⟨q0, q1, qP, qK, qD⟩ := q; exact ⟨q0, q1, qP, va_K.moved (u := U) (U := U.calling g mk a) (Vm.Alike.refl U.vm) qK, qD⟩, va_recv hKc hPc (ci := 13) (q0 := 0) rfl rfl, fun U hU hW => ⟨rfl, by rw [hU], by rw [hU]; exact hPc, va_K.moved hW.alike hKc, hDc.weaken (fun _ _ _ _ => trivial)⟩⟩ rfl rfl hl.1 rfl (lv_room (Nat.le_of_ble_eq_true rfl)) dX13_truth_67 ⟨Nat.le_of_ble_eq_true rfl, Nat.le_of_ble_eq_true rfl⟩) hS (fun q _ h => hFc q h) hFc ?_
  clear hS
  intro u t H1 locs ht hvm hw hB hz1 hk1 hS
  obtain ⟨z_8, rfl⟩ : ∃ z, z = u := ⟨_, rfl⟩
  obtain ⟨hP1, hK1, hD1⟩ := hB
  rw [ht] at hP1
  have hK1 := va_K.moved hvm.symm hK1
  try dsimp only at hw
  have hPD := va_join (wr := [(qf73, .inl (cf73, 6200, .inl g907_1)), (qf74, .inl (cf74, 6200, .inl g907_2)), (qf75, .inl (cf75, 6200, .inl g907_3)), (qf76, .inl (cf76, 6200, .inl g907_4)), (qf77, .inl (cf77, 60000, .inl g907_5)), (qf69, .inl (cf69, 3000, .inl g905_0)), (qf49, .inl (cf49, 3000, .inl f49)), (qf86, .inl (cf86, 3000, .inl g907_7)), (qf85, .inl (cf85, 3000, .inl g907_6))]) (w1 := [(h0, .inr (13, z_8)), (qf67, .inl (cf67, 12000, .inl g908_0))]) hP hD [0, 10] [1, 2, 3, 4, 5, 6, 7, 8, 9] rfl rfl (by decide) (by decide) hk1 hFc hP1 hD1
  clear hP hD
  obtain ⟨hP, hD⟩ := hPD
  replace hK := (hK.sub (tys' := [(cf73, .int), (cf74, .int), (cf75, .int), (cf76, .int), (cf77, .int), (cf69, .int), (cf49, .int), (cf86, .int), (cf85, .int)]) [0, 1, 2, 3, 4, 5, 6, 7, 8] rfl).app hK1
  clear hPc hDc hKc hFc hP1 hK1 hD1 hz1 hk1 ht hvm
  generalize H1 = H at hP hS ⊢
  replace hP : va_P (dC, dI) vwCl [(qf73, .inl (cf73, 6200, .inl g907_1)), (qf74, .inl (cf74, 6200, .inl g907_2)), (qf75, .inl (cf75, 6200, .inl g907_3)), (qf76, .inl (cf76, 6200, .inl g907_4)), (qf77, .inl (cf77, 60000, .inl g907_5)), (qf69, .inl (cf69, 3000, .inl g905_0)), (qf49, .inl (cf49, 3000, .inl f49)), (qf86, .inl (cf86, 3000, .inl g907_7)), (qf85, .inl (cf85, 3000, .inl g907_6)), (h0, .inr (13, z_8)), (qf67, .inl (cf67, 12000, .inl g908_0))] H := hP
  replace hD : va_D A [(qf73, .inl (cf73, 6200, .inl g907_1)), (qf74, .inl (cf74, 6200, .inl g907_2)), (qf75, .inl (cf75, 6200, .inl g907_3)), (qf76, .inl (cf76, 6200, .inl g907_4)), (qf77, .inl (cf77, 60000, .inl g907_5)), (qf69, .inl (cf69, 3000, .inl g905_0)), (qf49, .inl (cf49, 3000, .inl f49)), (qf86, .inl (cf86, 3000, .inl g907_7)), (qf85, .inl (cf85, 3000, .inl g907_6)), (h0, .inr (13, z_8)), (qf67, .inl (cf67, 12000, .inl g908_0))] := hD
  replace hK : va_K (dC, dI) vwCl [(cf73, .int), (cf74, .int), (cf75, .int), (cf76, .int), (cf77, .int), (cf69, .int), (cf49, .int), (cf86, .int), (cf85, .int), (cf67, .int)] s := hK
  obtain ⟨hwa_8, hln_8, hre_8, hch_8_68⟩ := hw
  have hfk_8_49 : z_8[49]? = some (.ref qf49) := (hre_8 49 (by decide)).trans (hfk_7_49)
  have hfk_8_50 : z_8[50]? = some (.int v50) := (hre_8 50 (by decide)).trans (hfk_7_50)
  have hfk_8_52 : z_8[52]? = some (.int v52) := (hre_8 52 (by decide)).trans (hfk_7_52)
  have hfk_8_53 : z_8[53]? = some (.int v53) := (hre_8 53 (by decide)).trans (hfk_7_53)
  have hfk_8_67 : z_8[67]? = some (.ref qf67) := (hre_8 67 (by decide)).trans (hfk_7_67)
  have hfk_8_69 : z_8[69]? = some (.ref qf69) := (hre_8 69 (by decide)).trans (hfk_7_69)
  have hfk_8_70 : z_8[70]? = some (.int (u5_1 - 1)) := (hre_8 70 (by decide)).trans (hfk_7_70)
  have hfk_8_71 : z_8[71]? = some (.int u5_2) := (hre_8 71 (by decide)).trans (hfk_7_71)
  have hfk_8_73 : z_8[73]? = some (.ref qf73) := (hre_8 73 (by decide)).trans (hfk_7_73)
  have hfk_8_74 : z_8[74]? = some (.ref qf74) := (hre_8 74 (by decide)).trans (hfk_7_74)
  have hfk_8_75 : z_8[75]? = some (.ref qf75) := (hre_8 75 (by decide)).trans (hfk_7_75)
  have hfk_8_76 : z_8[76]? = some (.ref qf76) := (hre_8 76 (by decide)).trans (hfk_7_76)
  have hfk_8_77 : z_8[77]? = some (.ref qf77) := (hre_8 77 (by decide)).trans (hfk_7_77)
  have hfk_8_78 : z_8[78]? = some (.int u7_8) := (hre_8 78 (by decide)).trans (hch_7_78)
  have hfk_8_79 : z_8[79]? = some (.int u7_9) := (hre_8 79 (by decide)).trans (hch_7_79)
  have hfk_8_85 : z_8[85]? = some (.ref qf85) := (hre_8 85 (by decide)).trans (hfk_7_85)
  have hfk_8_86 : z_8[86]? = some (.ref qf86) := (hre_8 86 (by decide)).trans (hfk_7_86)
  have hfk_8_87 : z_8[87]? = some (.int u7_10) := (hre_8 87 (by decide)).trans (hch_7_87)
  have hfk_8_88 : z_8[88]? = some (.int u2_1) := (hre_8 88 (by decide)).trans (hfk_7_88)
  have hrq_8 : ∀ j : Nat, j ≠ 68 → j ≠ 70 → j ≠ 71 → j ≠ 78 → j ≠ 79 → j ≠ 87 → j ≠ 88 → z_8[j]? = zs[j]? := fun j g68 g70 g71 g78 g79 g87 g88 => (hre_8 j g68).trans (hrq_7 j g68 g70 g71 g78 g79 g87 g88)
  refine lv_aload_n hx hb dX13_truth_70 rfl (lv_at hl 2 rfl) ?_
  refine lv_iconst (v := 1) hx hb dX13_truth_71 (by decide) ?_
  obtain ⟨⟨g909_0, u9_1, u9_2⟩, hu_9, hsp⟩ := ox_bind hsp
  try dsimp only at hsp
  have hPc := hP.sub (ws' := [(h0, .inr (13, z_8)), (qf69, .inl (cf69, 3000, .inl g905_0))]) [9, 5] rfl
  have hDc := hD.sub (ws' := [(h0, .inr (13, z_8)), (qf69, .inl (cf69, 3000, .inl g905_0))]) [9, 5] (by decide) rfl
  have hKc := hK.sub (tys' := [(cf69, .int)]) [5] rfl
  have hFc := va_free (wc := [(h0, .inr (13, z_8)), (qf69, .inl (cf69, 3000, .inl g905_0))]) hD hS hA [9, 5] rfl
  refine va_callv (va_runV (As := [.int 1]) (rest := []) ⟨hx, hb, hml, hown, hts⟩ (tm_push l dC dI H.size h0 z_8 1 qf69 ((u5_1 - 1)) u5_2 cf69 g905_0 nf g909_0 u9_1 u9_2 hln_8 hfk_8_69 hfk_8_70 hfk_8_71 hu_9) (cwV 1 hts gv_h9_34 rfl rfl rfl (by decide +kernel) ⟨Nat.le_of_ble_eq_true rfl, Nat.le_of_ble_eq_true rfl⟩) ⟨fun a U g mk q => by obtain ⟨q0, q1, qP, qK, qD⟩ := q; exact ⟨q0, q1, qP, va_K.moved (u := U) (U := U.calling g mk a) (Vm.Alike.refl U.vm) qK, qD⟩, va_recv hKc hPc (ci := 13) (q0 := 0) rfl rfl, fun U hU hW => ⟨rfl, by rw [hU], by rw [hU]; exact hPc, va_K.moved hW.alike hKc, hDc.weaken (fun _ _ _ _ => trivial)⟩⟩ rfl rfl hl.1 rfl (lv_room (Nat.le_of_ble_eq_true rfl)) dX13_truth_72 ⟨Nat.le_of_ble_eq_true rfl, Nat.le_of_ble_eq_true rfl⟩) hS (fun q _ h => hFc q h) hFc ?_
  clear hS
  intro u t H1 locs ht hvm hw hB hz1 hk1 hS
  obtain ⟨z_9, rfl⟩ : ∃ z, z = u := ⟨_, rfl⟩
  obtain ⟨hP1, hK1, hD1⟩ := hB
  rw [ht] at hP1
  have hK1 := va_K.moved hvm.symm hK1
  try dsimp only at hw
  have hPD := va_join (wr := [(qf73, .inl (cf73, 6200, .inl g907_1)), (qf74, .inl (cf74, 6200, .inl g907_2)), (qf75, .inl (cf75, 6200, .inl g907_3)), (qf76, .inl (cf76, 6200, .inl g907_4)), (qf77, .inl (cf77, 60000, .inl g907_5)), (qf49, .inl (cf49, 3000, .inl f49)), (qf86, .inl (cf86, 3000, .inl g907_7)), (qf85, .inl (cf85, 3000, .inl g907_6)), (qf67, .inl (cf67, 12000, .inl g908_0))]) (w1 := [(h0, .inr (13, z_9)), (qf69, .inl (cf69, 3000, .inl g909_0))]) hP hD [9, 5] [0, 1, 2, 3, 4, 6, 7, 8, 10] rfl rfl (by decide) (by decide) hk1 hFc hP1 hD1
  clear hP hD
  obtain ⟨hP, hD⟩ := hPD
  replace hK := (hK.sub (tys' := [(cf73, .int), (cf74, .int), (cf75, .int), (cf76, .int), (cf77, .int), (cf49, .int), (cf86, .int), (cf85, .int), (cf67, .int)]) [0, 1, 2, 3, 4, 6, 7, 8, 9] rfl).app hK1
  clear hPc hDc hKc hFc hP1 hK1 hD1 hz1 hk1 ht hvm
  generalize H1 = H at hP hS ⊢
  replace hP : va_P (dC, dI) vwCl [(qf73, .inl (cf73, 6200, .inl g907_1)), (qf74, .inl (cf74, 6200, .inl g907_2)), (qf75, .inl (cf75, 6200, .inl g907_3)), (qf76, .inl (cf76, 6200, .inl g907_4)), (qf77, .inl (cf77, 60000, .inl g907_5)), (qf49, .inl (cf49, 3000, .inl f49)), (qf86, .inl (cf86, 3000, .inl g907_7)), (qf85, .inl (cf85, 3000, .inl g907_6)), (qf67, .inl (cf67, 12000, .inl g908_0)), (h0, .inr (13, z_9)), (qf69, .inl (cf69, 3000, .inl g909_0))] H := hP
  replace hD : va_D A [(qf73, .inl (cf73, 6200, .inl g907_1)), (qf74, .inl (cf74, 6200, .inl g907_2)), (qf75, .inl (cf75, 6200, .inl g907_3)), (qf76, .inl (cf76, 6200, .inl g907_4)), (qf77, .inl (cf77, 60000, .inl g907_5)), (qf49, .inl (cf49, 3000, .inl f49)), (qf86, .inl (cf86, 3000, .inl g907_7)), (qf85, .inl (cf85, 3000, .inl g907_6)), (qf67, .inl (cf67, 12000, .inl g908_0)), (h0, .inr (13, z_9)), (qf69, .inl (cf69, 3000, .inl g909_0))] := hD
  replace hK : va_K (dC, dI) vwCl [(cf73, .int), (cf74, .int), (cf75, .int), (cf76, .int), (cf77, .int), (cf49, .int), (cf86, .int), (cf85, .int), (cf67, .int), (cf69, .int)] s := hK
  obtain ⟨hwa_9, hln_9, hre_9, hch_9_70, hch_9_71⟩ := hw
  have hfk_9_49 : z_9[49]? = some (.ref qf49) := (hre_9 49 (by decide) (by decide)).trans (hfk_8_49)
  have hfk_9_50 : z_9[50]? = some (.int v50) := (hre_9 50 (by decide) (by decide)).trans (hfk_8_50)
  have hfk_9_52 : z_9[52]? = some (.int v52) := (hre_9 52 (by decide) (by decide)).trans (hfk_8_52)
  have hfk_9_53 : z_9[53]? = some (.int v53) := (hre_9 53 (by decide) (by decide)).trans (hfk_8_53)
  have hfk_9_67 : z_9[67]? = some (.ref qf67) := (hre_9 67 (by decide) (by decide)).trans (hfk_8_67)
  have hfk_9_68 : z_9[68]? = some (.int u8_1) := (hre_9 68 (by decide) (by decide)).trans (hch_8_68)
  have hfk_9_69 : z_9[69]? = some (.ref qf69) := (hre_9 69 (by decide) (by decide)).trans (hfk_8_69)
  have hfk_9_73 : z_9[73]? = some (.ref qf73) := (hre_9 73 (by decide) (by decide)).trans (hfk_8_73)
  have hfk_9_74 : z_9[74]? = some (.ref qf74) := (hre_9 74 (by decide) (by decide)).trans (hfk_8_74)
  have hfk_9_75 : z_9[75]? = some (.ref qf75) := (hre_9 75 (by decide) (by decide)).trans (hfk_8_75)
  have hfk_9_76 : z_9[76]? = some (.ref qf76) := (hre_9 76 (by decide) (by decide)).trans (hfk_8_76)
  have hfk_9_77 : z_9[77]? = some (.ref qf77) := (hre_9 77 (by decide) (by decide)).trans (hfk_8_77)
  have hfk_9_78 : z_9[78]? = some (.int u7_8) := (hre_9 78 (by decide) (by decide)).trans (hfk_8_78)
  have hfk_9_79 : z_9[79]? = some (.int u7_9) := (hre_9 79 (by decide) (by decide)).trans (hfk_8_79)
  have hfk_9_85 : z_9[85]? = some (.ref qf85) := (hre_9 85 (by decide) (by decide)).trans (hfk_8_85)
  have hfk_9_86 : z_9[86]? = some (.ref qf86) := (hre_9 86 (by decide) (by decide)).trans (hfk_8_86)
  have hfk_9_87 : z_9[87]? = some (.int u7_10) := (hre_9 87 (by decide) (by decide)).trans (hfk_8_87)
  have hfk_9_88 : z_9[88]? = some (.int u2_1) := (hre_9 88 (by decide) (by decide)).trans (hfk_8_88)
  have hrq_9 : ∀ j : Nat, j ≠ 68 → j ≠ 70 → j ≠ 71 → j ≠ 78 → j ≠ 79 → j ≠ 87 → j ≠ 88 → z_9[j]? = zs[j]? := fun j g68 g70 g71 g78 g79 g87 g88 => (hre_9 j g70 g71).trans (hrq_8 j g68 g70 g71 g78 g79 g87 g88)
  refine lv_aload_n hx hb dX13_truth_75 rfl (lv_at hl 2 rfl) ?_
  refine lv_iload hx hb dX13_truth_76 (lv_at hl 0 rfl) ?_
  refine lv_aload_n hx hb dX13_truth_78 rfl (lv_at hl 2 rfl) ?_
  refine va_get (D := (dC, dI)) (ci := 13) (v := .int u8_1) (C := RX13) (T := TX13) (N := 155) hx hb hts uV_h9_X13 hown hK hP 9 rfl rfl 68 (by decide) (hts (.fieldLink RX13 627 "ClassMillModel" "length" "I") mw_h9_434) (fun _ h9 => h9) hfk_9_68 dX13_truth_79 ?_
  obtain ⟨⟨g910_0, g910_1, g910_2, g910_3, g910_4, g910_5, g910_6, g910_7, u10_8, u10_9, u10_10⟩, hu_10, hsp⟩ := ox_bind hsp
  try dsimp only at hsp
  have hPc := hP.sub (ws' := [(h0, .inr (13, z_9)), (qf73, .inl (cf73, 6200, .inl g907_1)), (qf74, .inl (cf74, 6200, .inl g907_2)), (qf75, .inl (cf75, 6200, .inl g907_3)), (qf76, .inl (cf76, 6200, .inl g907_4)), (qf77, .inl (cf77, 60000, .inl g907_5)), (qf69, .inl (cf69, 3000, .inl g909_0)), (qf49, .inl (cf49, 3000, .inl f49)), (qf86, .inl (cf86, 3000, .inl g907_7)), (qf85, .inl (cf85, 3000, .inl g907_6)), (qf67, .inl (cf67, 12000, .inl g908_0))]) [9, 0, 1, 2, 3, 4, 10, 5, 6, 7, 8] rfl
  have hDc := hD.sub (ws' := [(h0, .inr (13, z_9)), (qf73, .inl (cf73, 6200, .inl g907_1)), (qf74, .inl (cf74, 6200, .inl g907_2)), (qf75, .inl (cf75, 6200, .inl g907_3)), (qf76, .inl (cf76, 6200, .inl g907_4)), (qf77, .inl (cf77, 60000, .inl g907_5)), (qf69, .inl (cf69, 3000, .inl g909_0)), (qf49, .inl (cf49, 3000, .inl f49)), (qf86, .inl (cf86, 3000, .inl g907_7)), (qf85, .inl (cf85, 3000, .inl g907_6)), (qf67, .inl (cf67, 12000, .inl g908_0))]) [9, 0, 1, 2, 3, 4, 10, 5, 6, 7, 8] (by decide) rfl
  have hKc := hK.sub (tys' := [(cf73, .int), (cf74, .int), (cf75, .int), (cf76, .int), (cf77, .int), (cf69, .int), (cf49, .int), (cf86, .int), (cf85, .int), (cf67, .int)]) [0, 1, 2, 3, 4, 9, 5, 6, 7, 8] rfl
  have hFc := va_free (wc := [(h0, .inr (13, z_9)), (qf73, .inl (cf73, 6200, .inl g907_1)), (qf74, .inl (cf74, 6200, .inl g907_2)), (qf75, .inl (cf75, 6200, .inl g907_3)), (qf76, .inl (cf76, 6200, .inl g907_4)), (qf77, .inl (cf77, 60000, .inl g907_5)), (qf69, .inl (cf69, 3000, .inl g909_0)), (qf49, .inl (cf49, 3000, .inl f49)), (qf86, .inl (cf86, 3000, .inl g907_7)), (qf85, .inl (cf85, 3000, .inl g907_6)), (qf67, .inl (cf67, 12000, .inl g908_0))]) hD hS hA [9, 0, 1, 2, 3, 4, 10, 5, 6, 7, 8] rfl
  refine va_callv (va_runV (As := [.int u2_0, .int u8_1]) (rest := []) ⟨hx, hb, hml, hown, hts⟩ (vm_stands l dC dI H.size h0 z_9 u2_0 u8_1 qf49 v50 v52 v53 qf67 qf69 u9_1 qf73 qf74 qf75 qf76 qf77 u7_8 u7_9 qf85 qf86 u7_10 cf73 g907_1 cf74 g907_2 cf75 g907_3 cf76 g907_4 cf77 g907_5 cf69 g909_0 cf49 f49 cf86 g907_7 cf85 g907_6 cf67 g908_0 nf g910_0 g910_1 g910_2 g910_3 g910_4 g910_5 g910_6 g910_7 u10_8 u10_9 u10_10 hln_9 hfk_9_49 hfk_9_50 hfk_9_52 hfk_9_53 hfk_9_67 hfk_9_69 hch_9_70 hfk_9_73 hfk_9_74 hfk_9_75 hfk_9_76 hfk_9_77 hfk_9_78 hfk_9_79 hfk_9_85 hfk_9_86 hfk_9_87 hu_10) (cwV 2 hts gv_h9_84 rfl rfl rfl (by decide +kernel) ⟨Nat.le_of_ble_eq_true rfl, Nat.le_of_ble_eq_true rfl⟩) ⟨fun a U g mk q => by obtain ⟨q0, q1, qP, qK, qD⟩ := q; exact ⟨q0, q1, qP, va_K.moved (u := U) (U := U.calling g mk a) (Vm.Alike.refl U.vm) qK, qD⟩, va_recv hKc hPc (ci := 13) (q0 := 0) rfl rfl, fun U hU hW => ⟨rfl, by rw [hU], by rw [hU]; exact hPc, va_K.moved hW.alike hKc, hDc.weaken (fun _ _ _ _ => trivial)⟩⟩ rfl rfl hl.1 rfl (lv_room (Nat.le_of_ble_eq_true rfl)) dX13_truth_82 ⟨Nat.le_of_ble_eq_true rfl, Nat.le_of_ble_eq_true rfl⟩) hS (fun q _ h => hFc q h) hFc ?_
  clear hS
  intro u t H1 locs ht hvm hw hB hz1 hk1 hS
  obtain ⟨z_10, rfl⟩ : ∃ z, z = u := ⟨_, rfl⟩
  obtain ⟨hP1, hK1, hD1⟩ := hB
  rw [ht] at hP1
  have hK1 := va_K.moved hvm.symm hK1
  try dsimp only at hw
  have hPD := va_join (wr := []) (w1 := [(h0, .inr (13, z_10)), (qf73, .inl (cf73, 6200, .inl g910_1)), (qf74, .inl (cf74, 6200, .inl g910_2)), (qf75, .inl (cf75, 6200, .inl g910_3)), (qf76, .inl (cf76, 6200, .inl g910_4)), (qf77, .inl (cf77, 60000, .inl g910_5)), (qf69, .inl (cf69, 3000, .inl g909_0)), (qf49, .inl (cf49, 3000, .inl f49)), (qf86, .inl (cf86, 3000, .inl g910_7)), (qf85, .inl (cf85, 3000, .inl g910_6)), (qf67, .inl (cf67, 12000, .inl g910_0))]) hP hD [9, 0, 1, 2, 3, 4, 10, 5, 6, 7, 8] [] rfl rfl (by decide) (by decide) hk1 hFc hP1 hD1
  clear hP hD
  obtain ⟨hP, hD⟩ := hPD
  replace hK := (hK.sub (tys' := []) [] rfl).app hK1
  clear hPc hDc hKc hFc hP1 hK1 hD1 hz1 hk1 ht hvm
  generalize H1 = H at hP hS ⊢
  replace hP : va_P (dC, dI) vwCl [(h0, .inr (13, z_10)), (qf73, .inl (cf73, 6200, .inl g910_1)), (qf74, .inl (cf74, 6200, .inl g910_2)), (qf75, .inl (cf75, 6200, .inl g910_3)), (qf76, .inl (cf76, 6200, .inl g910_4)), (qf77, .inl (cf77, 60000, .inl g910_5)), (qf69, .inl (cf69, 3000, .inl g909_0)), (qf49, .inl (cf49, 3000, .inl f49)), (qf86, .inl (cf86, 3000, .inl g910_7)), (qf85, .inl (cf85, 3000, .inl g910_6)), (qf67, .inl (cf67, 12000, .inl g910_0))] H := hP
  replace hD : va_D A [(h0, .inr (13, z_10)), (qf73, .inl (cf73, 6200, .inl g910_1)), (qf74, .inl (cf74, 6200, .inl g910_2)), (qf75, .inl (cf75, 6200, .inl g910_3)), (qf76, .inl (cf76, 6200, .inl g910_4)), (qf77, .inl (cf77, 60000, .inl g910_5)), (qf69, .inl (cf69, 3000, .inl g909_0)), (qf49, .inl (cf49, 3000, .inl f49)), (qf86, .inl (cf86, 3000, .inl g910_7)), (qf85, .inl (cf85, 3000, .inl g910_6)), (qf67, .inl (cf67, 12000, .inl g910_0))] := hD
  replace hK : va_K (dC, dI) vwCl [(cf73, .int), (cf74, .int), (cf75, .int), (cf76, .int), (cf77, .int), (cf69, .int), (cf49, .int), (cf86, .int), (cf85, .int), (cf67, .int)] s := hK
  obtain ⟨hwa_10, hln_10, hre_10, hch_10_78, hch_10_79, hch_10_87⟩ := hw
  have hfk_10_49 : z_10[49]? = some (.ref qf49) := (hre_10 49 (by decide) (by decide) (by decide)).trans (hfk_9_49)
  have hfk_10_50 : z_10[50]? = some (.int v50) := (hre_10 50 (by decide) (by decide) (by decide)).trans (hfk_9_50)
  have hfk_10_52 : z_10[52]? = some (.int v52) := (hre_10 52 (by decide) (by decide) (by decide)).trans (hfk_9_52)
  have hfk_10_53 : z_10[53]? = some (.int v53) := (hre_10 53 (by decide) (by decide) (by decide)).trans (hfk_9_53)
  have hfk_10_67 : z_10[67]? = some (.ref qf67) := (hre_10 67 (by decide) (by decide) (by decide)).trans (hfk_9_67)
  have hfk_10_68 : z_10[68]? = some (.int u8_1) := (hre_10 68 (by decide) (by decide) (by decide)).trans (hfk_9_68)
  have hfk_10_69 : z_10[69]? = some (.ref qf69) := (hre_10 69 (by decide) (by decide) (by decide)).trans (hfk_9_69)
  have hfk_10_70 : z_10[70]? = some (.int u9_1) := (hre_10 70 (by decide) (by decide) (by decide)).trans (hch_9_70)
  have hfk_10_71 : z_10[71]? = some (.int u9_2) := (hre_10 71 (by decide) (by decide) (by decide)).trans (hch_9_71)
  have hfk_10_73 : z_10[73]? = some (.ref qf73) := (hre_10 73 (by decide) (by decide) (by decide)).trans (hfk_9_73)
  have hfk_10_74 : z_10[74]? = some (.ref qf74) := (hre_10 74 (by decide) (by decide) (by decide)).trans (hfk_9_74)
  have hfk_10_75 : z_10[75]? = some (.ref qf75) := (hre_10 75 (by decide) (by decide) (by decide)).trans (hfk_9_75)
  have hfk_10_76 : z_10[76]? = some (.ref qf76) := (hre_10 76 (by decide) (by decide) (by decide)).trans (hfk_9_76)
  have hfk_10_77 : z_10[77]? = some (.ref qf77) := (hre_10 77 (by decide) (by decide) (by decide)).trans (hfk_9_77)
  have hfk_10_85 : z_10[85]? = some (.ref qf85) := (hre_10 85 (by decide) (by decide) (by decide)).trans (hfk_9_85)
  have hfk_10_86 : z_10[86]? = some (.ref qf86) := (hre_10 86 (by decide) (by decide) (by decide)).trans (hfk_9_86)
  have hfk_10_88 : z_10[88]? = some (.int u2_1) := (hre_10 88 (by decide) (by decide) (by decide)).trans (hfk_9_88)
  have hrq_10 : ∀ j : Nat, j ≠ 68 → j ≠ 70 → j ≠ 71 → j ≠ 78 → j ≠ 79 → j ≠ 87 → j ≠ 88 → z_10[j]? = zs[j]? := fun j g68 g70 g71 g78 g79 g87 g88 => (hre_10 j g78 g79 g87).trans (hrq_9 j g68 g70 g71 g78 g79 g87 g88)
  have hr0 := Option.some.inj hsp
  clear hsp
  obtain ⟨hq0, hr1⟩ := Prod.mk.inj hr0
  clear hr0
  obtain ⟨hq1, hr2⟩ := Prod.mk.inj hr1
  clear hr1
  obtain ⟨hq2, hr3⟩ := Prod.mk.inj hr2
  clear hr2
  obtain ⟨hq3, hr4⟩ := Prod.mk.inj hr3
  clear hr3
  obtain ⟨hq4, hr5⟩ := Prod.mk.inj hr4
  clear hr4
  obtain ⟨hq5, hr6⟩ := Prod.mk.inj hr5
  clear hr5
  obtain ⟨hq6, hr7⟩ := Prod.mk.inj hr6
  clear hr6
  obtain ⟨hq7, hr8⟩ := Prod.mk.inj hr7
  clear hr7
  obtain ⟨hq8, hr9⟩ := Prod.mk.inj hr8
  clear hr8
  obtain ⟨hq9, hr10⟩ := Prod.mk.inj hr9
  clear hr9
  obtain ⟨hq10, hr11⟩ := Prod.mk.inj hr10
  clear hr10
  obtain ⟨hq11, hr12⟩ := Prod.mk.inj hr11
  clear hr11
  obtain ⟨hq12, hr13⟩ := Prod.mk.inj hr12
  clear hr12
  obtain ⟨hq13, hr14⟩ := Prod.mk.inj hr13
  clear hr13
  obtain ⟨hq14, hr15⟩ := Prod.mk.inj hr14
  clear hr14
  subst hq0
  subst hq1
  subst hq2
  subst hq3
  subst hq4
  subst hq5
  subst hq6
  subst hq7
  subst hq8
  subst hq9
  subst hq10
  subst hq11
  subst hq12
  subst hq13
  subst hq14
  subst hr15
  have hP9 := hP.sub (ws' := [(h0, .inr (13, z_10)), (qf85, .inl (cf85, 3000, .inl g910_6)), (qf86, .inl (cf86, 3000, .inl g910_7)), (qf67, .inl (cf67, 12000, .inl g910_0)), (qf69, .inl (cf69, 3000, .inl g909_0)), (qf73, .inl (cf73, 6200, .inl g910_1)), (qf74, .inl (cf74, 6200, .inl g910_2)), (qf75, .inl (cf75, 6200, .inl g910_3)), (qf76, .inl (cf76, 6200, .inl g910_4)), (qf77, .inl (cf77, 60000, .inl g910_5)), (qf49, .inl (cf49, 3000, .inl f49))]) [0, 9, 8, 10, 6, 1, 2, 3, 4, 5, 7] rfl
  have hD9 := hD.sub (ws' := [(h0, .inr (13, z_10)), (qf85, .inl (cf85, 3000, .inl g910_6)), (qf86, .inl (cf86, 3000, .inl g910_7)), (qf67, .inl (cf67, 12000, .inl g910_0)), (qf69, .inl (cf69, 3000, .inl g909_0)), (qf73, .inl (cf73, 6200, .inl g910_1)), (qf74, .inl (cf74, 6200, .inl g910_2)), (qf75, .inl (cf75, 6200, .inl g910_3)), (qf76, .inl (cf76, 6200, .inl g910_4)), (qf77, .inl (cf77, 60000, .inl g910_5)), (qf49, .inl (cf49, 3000, .inl f49))]) [0, 9, 8, 10, 6, 1, 2, 3, 4, 5, 7] (by decide) rfl
  have hK9 := hK.sub (tys' := [(cf85, .int), (cf86, .int), (cf67, .int), (cf69, .int), (cf73, .int), (cf74, .int), (cf75, .int), (cf76, .int), (cf77, .int), (cf49, .int)]) [8, 7, 9, 5, 0, 1, 2, 3, 4, 6] rfl
  exact W.vret hx hb hr (fun t ht hW => ⟨⟨(z_10), rfl, ⟨trivial, hln_10, hrq_10, hfk_10_68, hfk_10_70, hfk_10_71, hch_10_78, hch_10_79, hch_10_87, hfk_10_88⟩, by rw [ht]; exact hP9, va_K.moved hW.alike hK9, hD9⟩, hS.F ht⟩) hS.2.2 dX13_truth_85
def jn_vm_tellType_20 (nf : Nat) (a1 : Int32) (v62 : Int32) (v64 : Int32) (v66 : Int32) (v97 : Int32) (f96 : Nat → Int32) (f65 : Nat → Int32) (f25 : Nat → Int32) (f6 : Nat → Int32) (f5 : Nat → Int32) (f2 : Nat → Int32) (f58 : Nat → Int32) (f59 : Nat → Int32) (f60 : Nat → Int32) (f61 : Nat → Int32) (f63 : Nat → Int32) (nS477 : Nat) (fS477 : Nat → Int32)  (l1_20 : Int32) (s0_20 : Int32) (g58_20 : Nat → Int32) (g59_20 : Nat → Int32) (g60_20 : Nat → Int32) (g61_20 : Nat → Int32) (g63_20 : Nat → Int32) (g65_20 : Nat → Int32) (g96_20 : Nat → Int32) (x62_20 : Int32) (x64_20 : Int32) (x66_20 : Int32) (x97_20 : Int32) : Option ((Nat → Int32) × (Nat → Int32) × (Nat → Int32) × (Nat → Int32) × (Nat → Int32) × (Nat → Int32) × (Nat → Int32) × Int32 × Int32 × Int32 × Int32) := ((sp_tm_tell nf s0_20 x97_20 g96_20).bind (fun p1 => (if l1_20 ≤ 2 then (some (g58_20, g59_20, g60_20, g61_20, g63_20, g65_20, p1.1, x62_20, x64_20, x66_20, p1.2)) else ((sp_vm_classConstant nf l1_20 x62_20 x64_20 x66_20 g65_20 f25 f6 f5 f2 g58_20 g59_20 g60_20 g61_20 g63_20 nS477 fS477).bind (fun p2 => ((sp_tm_tell nf p2.1 p1.2 p1.1).bind (fun p3 => (some (p2.2.1, p2.2.2.1, p2.2.2.2.1, p2.2.2.2.2.1, p2.2.2.2.2.2.1, p2.2.2.2.2.2.2.1, p3.1, p2.2.2.2.2.2.2.2.1, p2.2.2.2.2.2.2.2.2.1, p2.2.2.2.2.2.2.2.2.2, p3.2)))))))))
def sp_vm_tellType (nf : Nat) (a1 : Int32) (v62 : Int32) (v64 : Int32) (v66 : Int32) (v97 : Int32) (f96 : Nat → Int32) (f65 : Nat → Int32) (f25 : Nat → Int32) (f6 : Nat → Int32) (f5 : Nat → Int32) (f2 : Nat → Int32) (f58 : Nat → Int32) (f59 : Nat → Int32) (f60 : Nat → Int32) (f61 : Nat → Int32) (f63 : Nat → Int32) (nS477 : Nat) (fS477 : Nat → Int32) : Option ((Nat → Int32) × (Nat → Int32) × (Nat → Int32) × (Nat → Int32) × (Nat → Int32) × (Nat → Int32) × (Nat → Int32) × Int32 × Int32 × Int32 × Int32) := (if 1 < a1 then (if a1 = 2 then (jn_vm_tellType_20 nf a1 v62 v64 v66 v97 f96 f65 f25 f6 f5 f2 f58 f59 f60 f61 f63 nS477 fS477  a1 2 f58 f59 f60 f61 f63 f65 f96 v62 v64 v66 v97) else (jn_vm_tellType_20 nf a1 v62 v64 v66 v97 f96 f65 f25 f6 f5 f2 f58 f59 f60 f61 f63 nS477 fS477  a1 3 f58 f59 f60 f61 f63 f65 f96 v62 v64 v66 v97)) else (jn_vm_tellType_20 nf a1 v62 v64 v66 v97 f96 f65 f25 f6 f5 f2 f58 f59 f60 f61 f63 nS477 fS477  a1 1 f58 f59 f60 f61 f63 f65 f96 v62 v64 v66 v97))
set_option maxHeartbeats 4000000 in
set_option maxRecDepth 100000 in
/-- ClassMillModel.tellType -/
theorem vm_tellType (l : Launch) (dC : Nat → ClassId) (dI : Nat → Nat → Nat) (sz : Nat) (h0 : Nat) (zs : (List Value)) (a1 : Int32) (qf2 : Nat) (qf5 : Nat) (qf6 : Nat) (qf25 : Nat) (qf58 : Nat) (qf59 : Nat) (qf60 : Nat) (qf61 : Nat) (v62 : Int32) (qf63 : Nat) (v64 : Int32) (qf65 : Nat) (v66 : Int32) (qf96 : Nat) (v97 : Int32) (cf96 : ClassId) (f96 : (Nat → Int32)) (cf65 : ClassId) (f65 : (Nat → Int32)) (cf25 : ClassId) (f25 : (Nat → Int32)) (cf6 : ClassId) (f6 : (Nat → Int32)) (cf5 : ClassId) (f5 : (Nat → Int32)) (cf2 : ClassId) (f2 : (Nat → Int32)) (cf58 : ClassId) (f58 : (Nat → Int32)) (cf59 : ClassId) (f59 : (Nat → Int32)) (cf60 : ClassId) (f60 : (Nat → Int32)) (cf61 : ClassId) (f61 : (Nat → Int32)) (cf63 : ClassId) (f63 : (Nat → Int32)) (nS477 : Nat) (fS477 : (Nat → Int32)) (hS477 : Nat) (qS477 : Nat) (tS477 : String) (nf : Nat) (o58 : (Nat → Int32)) (o59 : (Nat → Int32)) (o60 : (Nat → Int32)) (o61 : (Nat → Int32)) (o63 : (Nat → Int32)) (o65 : (Nat → Int32)) (o96 : (Nat → Int32)) (w62 : Int32) (w64 : Int32) (w66 : Int32) (w97 : Int32) (hlen : zs.length = 155) (hf2 : zs[2]? = some (.ref qf2)) (hf5 : zs[5]? = some (.ref qf5)) (hf6 : zs[6]? = some (.ref qf6)) (hf25 : zs[25]? = some (.ref qf25)) (hf58 : zs[58]? = some (.ref qf58)) (hf59 : zs[59]? = some (.ref qf59)) (hf60 : zs[60]? = some (.ref qf60)) (hf61 : zs[61]? = some (.ref qf61)) (hf62 : zs[62]? = some (.int v62)) (hf63 : zs[63]? = some (.ref qf63)) (hf64 : zs[64]? = some (.int v64)) (hf65 : zs[65]? = some (.ref qf65)) (hf66 : zs[66]? = some (.int v66)) (hf96 : zs[96]? = some (.ref qf96)) (hf97 : zs[97]? = some (.int v97)) (hsp : sp_vm_tellType nf a1 v62 v64 v66 v97 f96 f65 f25 f6 f5 f2 f58 f59 f60 f61 f63 nS477 fS477 = some (o58, o59, o60, o61, o63, o65, o96, w62, w64, w66, w97)) : Met l yX13_tellType (.code yX13_tellType cX13_tellType 2 none :: VS_h9) ({ frames := 7, cells := 0, slots := 0, locals := 150 }) (va_Pc [.ref h0, .int a1] (fun U => U.heap.size = sz ∧ va_P (dC, dI) vwCl [(h0, .inr (13, zs)), (qf96, .inl (cf96, 40000, .inl f96)), (qf65, .inl (cf65, 200, .inl f65)), (qf25, .inl (cf25, 400, .inl f25)), (qf6, .inl (cf6, 3002, .inl f6)), (qf5, .inl (cf5, 3002, .inl f5)), (qf2, .inl (cf2, 3000, .inl f2)), (qf58, .inl (cf58, 2000, .inl f58)), (qf59, .inl (cf59, 2000, .inl f59)), (qf60, .inl (cf60, 2000, .inl f60)), (qf61, .inl (cf61, 2000, .inl f61)), (qf63, .inl (cf63, 40000, .inl f63))] U.heap ∧ va_K (dC, dI) vwCl [(cf96, .int), (cf65, .int), (cf25, .int), (cf6, .int), (cf5, .int), (cf2, .int), (cf58, .int), (cf59, .int), (cf60, .int), (cf61, .int), (cf63, .int)] U ∧ va_D (fun _ => True) [(h0, .inr (13, zs)), (qf96, .inl (cf96, 40000, .inl f96)), (qf65, .inl (cf65, 200, .inl f65)), (qf25, .inl (cf25, 400, .inl f25)), (qf6, .inl (cf6, 3002, .inl f6)), (qf5, .inl (cf5, 3002, .inl f5)), (qf2, .inl (cf2, 3000, .inl f2)), (qf58, .inl (cf58, 2000, .inl f58)), (qf59, .inl (cf59, 2000, .inl f59)), (qf60, .inl (cf60, 2000, .inl f60)), (qf61, .inl (cf61, 2000, .inl f61)), (qf63, .inl (cf63, 40000, .inl f63))] ∧ pz_W nS477 fS477 hS477 qS477 (va_A [(h0, .inr (13, zs)), (qf96, .inl (cf96, 40000, .inl f96)), (qf65, .inl (cf65, 200, .inl f65)), (qf25, .inl (cf25, 400, .inl f25)), (qf6, .inl (cf6, 3002, .inl f6)), (qf5, .inl (cf5, 3002, .inl f5)), (qf2, .inl (cf2, 3000, .inl f2)), (qf58, .inl (cf58, 2000, .inl f58)), (qf59, .inl (cf59, 2000, .inl f59)), (qf60, .inl (cf60, 2000, .inl f60)), (qf61, .inl (cf61, 2000, .inl f61)), (qf63, .inl (cf63, 40000, .inl f63))] sz) U U.heap ∧ vk_R RX13 477 tS477 hS477 U)) (va_Qv (fun (u : (List Value)) => match u with | (zo1) => True ∧ zo1.length = 155 ∧ (∀ j : Nat, j ≠ 62 → j ≠ 64 → j ≠ 66 → j ≠ 97 → zo1[j]? = zs[j]?) ∧ zo1[62]? = some (.int w62) ∧ zo1[64]? = some (.int w64) ∧ zo1[66]? = some (.int w66) ∧ zo1[97]? = some (.int w97)) (fun (u : (List Value)) (t : State) => match u with | (zo1) => va_P (dC, dI) vwCl [(h0, .inr (13, zo1)), (qf96, .inl (cf96, 40000, .inl o96)), (qf65, .inl (cf65, 200, .inl o65)), (qf25, .inl (cf25, 400, .inl f25)), (qf6, .inl (cf6, 3002, .inl f6)), (qf5, .inl (cf5, 3002, .inl f5)), (qf2, .inl (cf2, 3000, .inl f2)), (qf58, .inl (cf58, 2000, .inl o58)), (qf59, .inl (cf59, 2000, .inl o59)), (qf60, .inl (cf60, 2000, .inl o60)), (qf61, .inl (cf61, 2000, .inl o61)), (qf63, .inl (cf63, 40000, .inl o63))] t.heap ∧ va_K (dC, dI) vwCl [(cf96, .int), (cf65, .int), (cf25, .int), (cf6, .int), (cf5, .int), (cf2, .int), (cf58, .int), (cf59, .int), (cf60, .int), (cf61, .int), (cf63, .int)] t ∧ va_D (va_A [(h0, .inr (13, zs)), (qf96, .inl (cf96, 40000, .inl f96)), (qf65, .inl (cf65, 200, .inl f65)), (qf25, .inl (cf25, 400, .inl f25)), (qf6, .inl (cf6, 3002, .inl f6)), (qf5, .inl (cf5, 3002, .inl f5)), (qf2, .inl (cf2, 3000, .inl f2)), (qf58, .inl (cf58, 2000, .inl f58)), (qf59, .inl (cf59, 2000, .inl f59)), (qf60, .inl (cf60, 2000, .inl f60)), (qf61, .inl (cf61, 2000, .inl f61)), (qf63, .inl (cf63, 40000, .inl f63))] sz) [(h0, .inr (13, zo1)), (qf96, .inl (cf96, 40000, .inl o96)), (qf65, .inl (cf65, 200, .inl o65)), (qf25, .inl (cf25, 400, .inl f25)), (qf6, .inl (cf6, 3002, .inl f6)), (qf5, .inl (cf5, 3002, .inl f5)), (qf2, .inl (cf2, 3000, .inl f2)), (qf58, .inl (cf58, 2000, .inl o58)), (qf59, .inl (cf59, 2000, .inl o59)), (qf60, .inl (cf60, 2000, .inl o60)), (qf61, .inl (cf61, 2000, .inl o61)), (qf63, .inl (cf63, 40000, .inl o63))]) (va_A [(h0, .inr (13, zs)), (qf96, .inl (cf96, 40000, .inl f96)), (qf65, .inl (cf65, 200, .inl f65)), (qf25, .inl (cf25, 400, .inl f25)), (qf6, .inl (cf6, 3002, .inl f6)), (qf5, .inl (cf5, 3002, .inl f5)), (qf2, .inl (cf2, 3000, .inl f2)), (qf58, .inl (cf58, 2000, .inl f58)), (qf59, .inl (cf59, 2000, .inl f59)), (qf60, .inl (cf60, 2000, .inl f60)), (qf61, .inl (cf61, 2000, .inl f61)), (qf63, .inl (cf63, 40000, .inl f63))] sz)) 0 0 (va_A [(h0, .inr (13, zs)), (qf96, .inl (cf96, 40000, .inl f96)), (qf65, .inl (cf65, 200, .inl f65)), (qf25, .inl (cf25, 400, .inl f25)), (qf6, .inl (cf6, 3002, .inl f6)), (qf5, .inl (cf5, 3002, .inl f5)), (qf2, .inl (cf2, 3000, .inl f2)), (qf58, .inl (cf58, 2000, .inl f58)), (qf59, .inl (cf59, 2000, .inl f59)), (qf60, .inl (cf60, 2000, .inl f60)), (qf61, .inl (cf61, 2000, .inl f61)), (qf63, .inl (cf63, 40000, .inl f63))] sz) := by
  refine Met.ofW (cc := cX13_tellType) (maxL := 2) (ret := none) (by decide) rfl ?_
  intro p e s m args below meth c s₁ B hml hv
  obtain ⟨rfl, hsz, hP, hK, hD0, hZWS477, hZRS477⟩ := hv
  have hx := B.exec
  have hb := B.bytes
  have hr := B.returns
  have hts := atoms_spec (ws := (.code yX13_tellType cX13_tellType 2 none :: VS_h9)) B.pre
  replace hts := fun w (h : w ∈ VS_h9) => hts w (List.mem_cons_of_mem _ h)
  have hown : s.vm.findClass RX13 = some m.cls := findClass_of_methodNamed B.named
  have hlocks := B.notSynchronized
  subst hsz
  have hD := hD0.self (sz := s.heap.size)
  generalize hAe : va_A [(h0, .inr (13, zs)), (qf96, .inl (cf96, 40000, .inl f96)), (qf65, .inl (cf65, 200, .inl f65)), (qf25, .inl (cf25, 400, .inl f25)), (qf6, .inl (cf6, 3002, .inl f6)), (qf5, .inl (cf5, 3002, .inl f5)), (qf2, .inl (cf2, 3000, .inl f2)), (qf58, .inl (cf58, 2000, .inl f58)), (qf59, .inl (cf59, 2000, .inl f59)), (qf60, .inl (cf60, 2000, .inl f60)), (qf61, .inl (cf61, 2000, .inl f61)), (qf63, .inl (cf63, 40000, .inl f63))] s.heap.size = A at hD hZWS477 ⊢
  have hA : ∀ q : Nat, s.heap.size ≤ q → A q := fun q h => by rw [← hAe]; exact Or.inr h
  have hP : va_P (dC, dI) vwCl [(h0, .inr (13, zs)), (qf96, .inl (cf96, 40000, .inl f96)), (qf65, .inl (cf65, 200, .inl f65)), (qf25, .inl (cf25, 400, .inl f25)), (qf6, .inl (cf6, 3002, .inl f6)), (qf5, .inl (cf5, 3002, .inl f5)), (qf2, .inl (cf2, 3000, .inl f2)), (qf58, .inl (cf58, 2000, .inl f58)), (qf59, .inl (cf59, 2000, .inl f59)), (qf60, .inl (cf60, 2000, .inl f60)), (qf61, .inl (cf61, 2000, .inl f61)), (qf63, .inl (cf63, 40000, .inl f63))] s.heap := hP
  have hl := lv_entry ([.ref h0, .int a1]) (n := 2) (Nat.le_of_ble_eq_true rfl)
  rw [lg_entry_eq]
  generalize (lg_sl ([.ref h0, .int a1]) ++ List.replicate (2 - (lg_sl ([.ref h0, .int a1])).length) Slot.unset).toArray = ls at hl ⊢
  have hl : lv_has ls 2 [(0, .ref h0), (1, .int a1)] := hl
  obtain ⟨H, hH⟩ : ∃ H : Heap, s.heap = H := ⟨_, rfl⟩
  rw [hH] at hP ⊢
  have hS : va_S A s.heap H [] := by rw [← hH]; exact va_S.rf
  obtain ⟨locs, hlo⟩ : ∃ locs : List Loc, locs = [] := ⟨_, rfl⟩
  rw [← hlo] at hS ⊢
  have hrs0 : ∀ j : Nat, j ≠ 62 → j ≠ 64 → j ≠ 66 → j ≠ 97 → zs[j]? = zs[j]? := fun _ _ _ _ _  => rfl
  unfold sp_vm_tellType at hsp
  refine jn_use (α := Heap × List Loc × Array Slot × List Value × Int32 × Int32 × (Nat → Int32) × (Nat → Int32) × (Nat → Int32) × (Nat → Int32) × (Nat → Int32) × (Nat → Int32) × (Nat → Int32) × Int32 × Int32 × Int32 × Int32) (fun x9 => x9.1) (fun x9 => x9.2.1) (fun x9 => F0 m 20 x9.2.2.1 [.int (x9.2.2.2.2.2.1), .ref h0]) (fun x9 => match x9 with | (H, locs, ls, z20, l1_20, s0_20, g58_20, g59_20, g60_20, g61_20, g63_20, g65_20, g96_20, x62_20, x64_20, x66_20, x97_20) => lv_has ls 2 [(0, .ref h0), (1, .int l1_20)] ∧ va_S A s.heap H locs ∧ va_D A [(h0, .inr (13, z20)), (qf96, .inl (cf96, 40000, .inl g96_20)), (qf65, .inl (cf65, 200, .inl g65_20)), (qf25, .inl (cf25, 400, .inl f25)), (qf6, .inl (cf6, 3002, .inl f6)), (qf5, .inl (cf5, 3002, .inl f5)), (qf2, .inl (cf2, 3000, .inl f2)), (qf58, .inl (cf58, 2000, .inl g58_20)), (qf59, .inl (cf59, 2000, .inl g59_20)), (qf60, .inl (cf60, 2000, .inl g60_20)), (qf61, .inl (cf61, 2000, .inl g61_20)), (qf63, .inl (cf63, 40000, .inl g63_20))] ∧ va_P (dC, dI) vwCl [(h0, .inr (13, z20)), (qf96, .inl (cf96, 40000, .inl g96_20)), (qf65, .inl (cf65, 200, .inl g65_20)), (qf25, .inl (cf25, 400, .inl f25)), (qf6, .inl (cf6, 3002, .inl f6)), (qf5, .inl (cf5, 3002, .inl f5)), (qf2, .inl (cf2, 3000, .inl f2)), (qf58, .inl (cf58, 2000, .inl g58_20)), (qf59, .inl (cf59, 2000, .inl g59_20)), (qf60, .inl (cf60, 2000, .inl g60_20)), (qf61, .inl (cf61, 2000, .inl g61_20)), (qf63, .inl (cf63, 40000, .inl g63_20))] H ∧ z20[2]? = some (.ref qf2) ∧ z20[5]? = some (.ref qf5) ∧ z20[6]? = some (.ref qf6) ∧ z20[25]? = some (.ref qf25) ∧ z20[58]? = some (.ref qf58) ∧ z20[59]? = some (.ref qf59) ∧ z20[60]? = some (.ref qf60) ∧ z20[61]? = some (.ref qf61) ∧ z20[62]? = some (.int x62_20) ∧ z20[63]? = some (.ref qf63) ∧ z20[64]? = some (.int x64_20) ∧ z20[65]? = some (.ref qf65) ∧ z20[66]? = some (.int x66_20) ∧ z20[96]? = some (.ref qf96) ∧ z20[97]? = some (.int x97_20) ∧ z20.length = 155 ∧ (∀ j : Nat, j ≠ 62 → j ≠ 64 → j ≠ 66 → j ≠ 97 → z20[j]? = zs[j]?) ∧ jn_vm_tellType_20 nf a1 v62 v64 v66 v97 f96 f65 f25 f6 f5 f2 f58 f59 f60 f61 f63 nS477 fS477 l1_20 s0_20 g58_20 g59_20 g60_20 g61_20 g63_20 g65_20 g96_20 x62_20 x64_20 x66_20 x97_20 = some (o58, o59, o60, o61, o63, o65, o96, w62, w64, w66, w97)) ?_ ?_
  · intro x9 hJ9
    obtain ⟨H, locs, ls, z20, l1_20, s0_20, g58_20, g59_20, g60_20, g61_20, g63_20, g65_20, g96_20, x62_20, x64_20, x66_20, x97_20⟩ := x9
    obtain ⟨hl, hS, hD, hP, hfh_20_2, hfh_20_5, hfh_20_6, hfh_20_25, hfh_20_58, hfh_20_59, hfh_20_60, hfh_20_61, hfh_20_62, hfh_20_63, hfh_20_64, hfh_20_65, hfh_20_66, hfh_20_96, hfh_20_97, hlh_20, hrh_20, hsp⟩ := hJ9
    replace hl : lv_has ls 2 [(0, .ref h0), (1, .int l1_20)] := hl
    replace hS : va_S A s.heap H locs := hS
    replace hD : va_D A [(h0, .inr (13, z20)), (qf96, .inl (cf96, 40000, .inl g96_20)), (qf65, .inl (cf65, 200, .inl g65_20)), (qf25, .inl (cf25, 400, .inl f25)), (qf6, .inl (cf6, 3002, .inl f6)), (qf5, .inl (cf5, 3002, .inl f5)), (qf2, .inl (cf2, 3000, .inl f2)), (qf58, .inl (cf58, 2000, .inl g58_20)), (qf59, .inl (cf59, 2000, .inl g59_20)), (qf60, .inl (cf60, 2000, .inl g60_20)), (qf61, .inl (cf61, 2000, .inl g61_20)), (qf63, .inl (cf63, 40000, .inl g63_20))] := hD
    replace hP : va_P (dC, dI) vwCl [(h0, .inr (13, z20)), (qf96, .inl (cf96, 40000, .inl g96_20)), (qf65, .inl (cf65, 200, .inl g65_20)), (qf25, .inl (cf25, 400, .inl f25)), (qf6, .inl (cf6, 3002, .inl f6)), (qf5, .inl (cf5, 3002, .inl f5)), (qf2, .inl (cf2, 3000, .inl f2)), (qf58, .inl (cf58, 2000, .inl g58_20)), (qf59, .inl (cf59, 2000, .inl g59_20)), (qf60, .inl (cf60, 2000, .inl g60_20)), (qf61, .inl (cf61, 2000, .inl g61_20)), (qf63, .inl (cf63, 40000, .inl g63_20))] H := hP
    replace hsp : jn_vm_tellType_20 nf a1 v62 v64 v66 v97 f96 f65 f25 f6 f5 f2 f58 f59 f60 f61 f63 nS477 fS477 l1_20 s0_20 g58_20 g59_20 g60_20 g61_20 g63_20 g65_20 g96_20 x62_20 x64_20 x66_20 x97_20 = some (o58, o59, o60, o61, o63, o65, o96, w62, w64, w66, w97) := hsp
    show W _ _ _ _ _ _ _ _ _ _ H locs _ _ _ (F0 m 20 ls [.int s0_20, .ref h0])
    unfold jn_vm_tellType_20 at hsp
    try dsimp only at hsp
    obtain ⟨⟨g901_0, u1_1⟩, hu_1, hsp⟩ := ox_bind hsp
    try dsimp only at hsp
    have hPc := hP.sub (ws' := [(h0, .inr (13, z20)), (qf96, .inl (cf96, 40000, .inl g96_20))]) [0, 1] rfl
    have hDc := hD.sub (ws' := [(h0, .inr (13, z20)), (qf96, .inl (cf96, 40000, .inl g96_20))]) [0, 1] (by decide) rfl
    have hKc := hK.sub (tys' := [(cf96, .int)]) [0] rfl
    have hFc := va_free (wc := [(h0, .inr (13, z20)), (qf96, .inl (cf96, 40000, .inl g96_20))]) hD hS hA [0, 1] rfl
    refine va_callv (va_runV (As := [.int s0_20]) (rest := []) ⟨hx, hb, hml, hown, hts⟩ (tm_tell l dC dI H.size h0 z20 s0_20 qf96 x97_20 cf96 g96_20 nf g901_0 u1_1 hlh_20 hfh_20_96 hfh_20_97 hu_1) (cwV 1 hts gv_h9_37 rfl rfl rfl (by decide +kernel) ⟨Nat.le_of_ble_eq_true rfl, Nat.le_of_ble_eq_true rfl⟩) ⟨fun a U g mk q => by obtain ⟨q0, q1, qP, qK, qD⟩ := q; exact ⟨q0, q1, qP, va_K.moved (u := U) (U := U.calling g mk a) (Vm.Alike.refl U.vm) qK, qD⟩, va_recv hKc hPc (ci := 13) (q0 := 0) rfl rfl, fun U hU hW => ⟨rfl, by rw [hU], by rw [hU]; exact hPc, va_K.moved hW.alike hKc, hDc.weaken (fun _ _ _ _ => trivial)⟩⟩ rfl rfl hl.1 rfl (lv_room (Nat.le_of_ble_eq_true rfl)) dX13_tellType_20 ⟨Nat.le_of_ble_eq_true rfl, Nat.le_of_ble_eq_true rfl⟩) hS (fun q _ h => hFc q h) hFc ?_
    clear hS
    intro u t H1 locs ht hvm hw hB hz1 hk1 hS
    obtain ⟨z_1, rfl⟩ : ∃ z, z = u := ⟨_, rfl⟩
    obtain ⟨hP1, hK1, hD1⟩ := hB
    rw [ht] at hP1
    have hK1 := va_K.moved hvm.symm hK1
    try dsimp only at hw
    have hPD := va_join (wr := [(qf65, .inl (cf65, 200, .inl g65_20)), (qf25, .inl (cf25, 400, .inl f25)), (qf6, .inl (cf6, 3002, .inl f6)), (qf5, .inl (cf5, 3002, .inl f5)), (qf2, .inl (cf2, 3000, .inl f2)), (qf58, .inl (cf58, 2000, .inl g58_20)), (qf59, .inl (cf59, 2000, .inl g59_20)), (qf60, .inl (cf60, 2000, .inl g60_20)), (qf61, .inl (cf61, 2000, .inl g61_20)), (qf63, .inl (cf63, 40000, .inl g63_20))]) (w1 := [(h0, .inr (13, z_1)), (qf96, .inl (cf96, 40000, .inl g901_0))]) hP hD [0, 1] [2, 3, 4, 5, 6, 7, 8, 9, 10, 11] rfl rfl (by decide) (by decide) hk1 hFc hP1 hD1
    clear hP hD
    obtain ⟨hP, hD⟩ := hPD
    replace hK := (hK.sub (tys' := [(cf65, .int), (cf25, .int), (cf6, .int), (cf5, .int), (cf2, .int), (cf58, .int), (cf59, .int), (cf60, .int), (cf61, .int), (cf63, .int)]) [1, 2, 3, 4, 5, 6, 7, 8, 9, 10] rfl).app hK1
    clear hPc hDc hKc hFc hP1 hK1 hD1 hz1 hk1 ht hvm
    generalize H1 = H at hP hS ⊢
    replace hP : va_P (dC, dI) vwCl [(qf65, .inl (cf65, 200, .inl g65_20)), (qf25, .inl (cf25, 400, .inl f25)), (qf6, .inl (cf6, 3002, .inl f6)), (qf5, .inl (cf5, 3002, .inl f5)), (qf2, .inl (cf2, 3000, .inl f2)), (qf58, .inl (cf58, 2000, .inl g58_20)), (qf59, .inl (cf59, 2000, .inl g59_20)), (qf60, .inl (cf60, 2000, .inl g60_20)), (qf61, .inl (cf61, 2000, .inl g61_20)), (qf63, .inl (cf63, 40000, .inl g63_20)), (h0, .inr (13, z_1)), (qf96, .inl (cf96, 40000, .inl g901_0))] H := hP
    replace hD : va_D A [(qf65, .inl (cf65, 200, .inl g65_20)), (qf25, .inl (cf25, 400, .inl f25)), (qf6, .inl (cf6, 3002, .inl f6)), (qf5, .inl (cf5, 3002, .inl f5)), (qf2, .inl (cf2, 3000, .inl f2)), (qf58, .inl (cf58, 2000, .inl g58_20)), (qf59, .inl (cf59, 2000, .inl g59_20)), (qf60, .inl (cf60, 2000, .inl g60_20)), (qf61, .inl (cf61, 2000, .inl g61_20)), (qf63, .inl (cf63, 40000, .inl g63_20)), (h0, .inr (13, z_1)), (qf96, .inl (cf96, 40000, .inl g901_0))] := hD
    replace hK : va_K (dC, dI) vwCl [(cf65, .int), (cf25, .int), (cf6, .int), (cf5, .int), (cf2, .int), (cf58, .int), (cf59, .int), (cf60, .int), (cf61, .int), (cf63, .int), (cf96, .int)] s := hK
    obtain ⟨hwa_1, hln_1, hre_1, hch_1_97⟩ := hw
    have hfk_1_2 : z_1[2]? = some (.ref qf2) := (hre_1 2 (by decide)).trans (hfh_20_2)
    have hfk_1_5 : z_1[5]? = some (.ref qf5) := (hre_1 5 (by decide)).trans (hfh_20_5)
    have hfk_1_6 : z_1[6]? = some (.ref qf6) := (hre_1 6 (by decide)).trans (hfh_20_6)
    have hfk_1_25 : z_1[25]? = some (.ref qf25) := (hre_1 25 (by decide)).trans (hfh_20_25)
    have hfk_1_58 : z_1[58]? = some (.ref qf58) := (hre_1 58 (by decide)).trans (hfh_20_58)
    have hfk_1_59 : z_1[59]? = some (.ref qf59) := (hre_1 59 (by decide)).trans (hfh_20_59)
    have hfk_1_60 : z_1[60]? = some (.ref qf60) := (hre_1 60 (by decide)).trans (hfh_20_60)
    have hfk_1_61 : z_1[61]? = some (.ref qf61) := (hre_1 61 (by decide)).trans (hfh_20_61)
    have hfk_1_62 : z_1[62]? = some (.int x62_20) := (hre_1 62 (by decide)).trans (hfh_20_62)
    have hfk_1_63 : z_1[63]? = some (.ref qf63) := (hre_1 63 (by decide)).trans (hfh_20_63)
    have hfk_1_64 : z_1[64]? = some (.int x64_20) := (hre_1 64 (by decide)).trans (hfh_20_64)
    have hfk_1_65 : z_1[65]? = some (.ref qf65) := (hre_1 65 (by decide)).trans (hfh_20_65)
    have hfk_1_66 : z_1[66]? = some (.int x66_20) := (hre_1 66 (by decide)).trans (hfh_20_66)
    have hfk_1_96 : z_1[96]? = some (.ref qf96) := (hre_1 96 (by decide)).trans (hfh_20_96)
    have hrq_1 : ∀ j : Nat, j ≠ 62 → j ≠ 64 → j ≠ 66 → j ≠ 97 → z_1[j]? = zs[j]? := fun j g62 g64 g66 g97 => (hre_1 j g97).trans (hrh_20 j g62 g64 g66 g97)
    refine lv_iload_n hx hb dX13_tellType_23 rfl (lv_at hl 1 rfl) ?_
    refine lv_iconst (v := 2) hx hb dX13_tellType_24 (by decide) ?_
    refine lv_icmp_le (tgt := 37) hx hb dX13_tellType_25 (by decide) (fun c_3 => ?_) (fun c_3 => ?_)
    · rw [if_pos c_3] at hsp
      have hr0 := Option.some.inj hsp
      clear hsp
      obtain ⟨hq0, hr1⟩ := Prod.mk.inj hr0
      clear hr0
      obtain ⟨hq1, hr2⟩ := Prod.mk.inj hr1
      clear hr1
      obtain ⟨hq2, hr3⟩ := Prod.mk.inj hr2
      clear hr2
      obtain ⟨hq3, hr4⟩ := Prod.mk.inj hr3
      clear hr3
      obtain ⟨hq4, hr5⟩ := Prod.mk.inj hr4
      clear hr4
      obtain ⟨hq5, hr6⟩ := Prod.mk.inj hr5
      clear hr5
      obtain ⟨hq6, hr7⟩ := Prod.mk.inj hr6
      clear hr6
      obtain ⟨hq7, hr8⟩ := Prod.mk.inj hr7
      clear hr7
      obtain ⟨hq8, hr9⟩ := Prod.mk.inj hr8
      clear hr8
      obtain ⟨hq9, hr10⟩ := Prod.mk.inj hr9
      clear hr9
      subst hq0
      subst hq1
      subst hq2
      subst hq3
      subst hq4
      subst hq5
      subst hq6
      subst hq7
      subst hq8
      subst hq9
      subst hr10
      have hP9 := hP.sub (ws' := [(h0, .inr (13, z_1)), (qf96, .inl (cf96, 40000, .inl g901_0)), (qf65, .inl (cf65, 200, .inl g65_20)), (qf25, .inl (cf25, 400, .inl f25)), (qf6, .inl (cf6, 3002, .inl f6)), (qf5, .inl (cf5, 3002, .inl f5)), (qf2, .inl (cf2, 3000, .inl f2)), (qf58, .inl (cf58, 2000, .inl g58_20)), (qf59, .inl (cf59, 2000, .inl g59_20)), (qf60, .inl (cf60, 2000, .inl g60_20)), (qf61, .inl (cf61, 2000, .inl g61_20)), (qf63, .inl (cf63, 40000, .inl g63_20))]) [10, 11, 0, 1, 2, 3, 4, 5, 6, 7, 8, 9] rfl
      have hD9 := hD.sub (ws' := [(h0, .inr (13, z_1)), (qf96, .inl (cf96, 40000, .inl g901_0)), (qf65, .inl (cf65, 200, .inl g65_20)), (qf25, .inl (cf25, 400, .inl f25)), (qf6, .inl (cf6, 3002, .inl f6)), (qf5, .inl (cf5, 3002, .inl f5)), (qf2, .inl (cf2, 3000, .inl f2)), (qf58, .inl (cf58, 2000, .inl g58_20)), (qf59, .inl (cf59, 2000, .inl g59_20)), (qf60, .inl (cf60, 2000, .inl g60_20)), (qf61, .inl (cf61, 2000, .inl g61_20)), (qf63, .inl (cf63, 40000, .inl g63_20))]) [10, 11, 0, 1, 2, 3, 4, 5, 6, 7, 8, 9] (by decide) rfl
      have hK9 := hK.sub (tys' := [(cf96, .int), (cf65, .int), (cf25, .int), (cf6, .int), (cf5, .int), (cf2, .int), (cf58, .int), (cf59, .int), (cf60, .int), (cf61, .int), (cf63, .int)]) [10, 0, 1, 2, 3, 4, 5, 6, 7, 8, 9] rfl
      exact W.vret hx hb hr (fun t ht hW => ⟨⟨(z_1), rfl, ⟨trivial, hln_1, hrq_1, hfk_1_62, hfk_1_64, hfk_1_66, hch_1_97⟩, by rw [ht]; exact hP9, va_K.moved hW.alike hK9, hD9⟩, hS.F ht⟩) hS.2.2 dX13_tellType_37
    · rw [if_neg c_3] at hsp
      refine lv_aload_n hx hb dX13_tellType_28 rfl (lv_at hl 0 rfl) ?_
      refine lv_aload_n hx hb dX13_tellType_29 rfl (lv_at hl 0 rfl) ?_
      refine lv_iload_n hx hb dX13_tellType_30 rfl (lv_at hl 1 rfl) ?_
      obtain ⟨⟨u2_0, g902_1, g902_2, g902_3, g902_4, g902_5, g902_6, u2_7, u2_8, u2_9⟩, hu_2, hsp⟩ := ox_bind hsp
      try dsimp only at hsp
      have hPc := hP.sub (ws' := [(h0, .inr (13, z_1)), (qf65, .inl (cf65, 200, .inl g65_20)), (qf25, .inl (cf25, 400, .inl f25)), (qf6, .inl (cf6, 3002, .inl f6)), (qf5, .inl (cf5, 3002, .inl f5)), (qf2, .inl (cf2, 3000, .inl f2)), (qf58, .inl (cf58, 2000, .inl g58_20)), (qf59, .inl (cf59, 2000, .inl g59_20)), (qf60, .inl (cf60, 2000, .inl g60_20)), (qf61, .inl (cf61, 2000, .inl g61_20)), (qf63, .inl (cf63, 40000, .inl g63_20))]) [10, 0, 1, 2, 3, 4, 5, 6, 7, 8, 9] rfl
      have hDc := hD.sub (ws' := [(h0, .inr (13, z_1)), (qf65, .inl (cf65, 200, .inl g65_20)), (qf25, .inl (cf25, 400, .inl f25)), (qf6, .inl (cf6, 3002, .inl f6)), (qf5, .inl (cf5, 3002, .inl f5)), (qf2, .inl (cf2, 3000, .inl f2)), (qf58, .inl (cf58, 2000, .inl g58_20)), (qf59, .inl (cf59, 2000, .inl g59_20)), (qf60, .inl (cf60, 2000, .inl g60_20)), (qf61, .inl (cf61, 2000, .inl g61_20)), (qf63, .inl (cf63, 40000, .inl g63_20))]) [10, 0, 1, 2, 3, 4, 5, 6, 7, 8, 9] (by decide) rfl
      have hKc := hK.sub (tys' := [(cf65, .int), (cf25, .int), (cf6, .int), (cf5, .int), (cf2, .int), (cf58, .int), (cf59, .int), (cf60, .int), (cf61, .int), (cf63, .int)]) [0, 1, 2, 3, 4, 5, 6, 7, 8, 9] rfl
      have hFc := va_free (wc := [(h0, .inr (13, z_1)), (qf65, .inl (cf65, 200, .inl g65_20)), (qf25, .inl (cf25, 400, .inl f25)), (qf6, .inl (cf6, 3002, .inl f6)), (qf5, .inl (cf5, 3002, .inl f5)), (qf2, .inl (cf2, 3000, .inl f2)), (qf58, .inl (cf58, 2000, .inl g58_20)), (qf59, .inl (cf59, 2000, .inl g59_20)), (qf60, .inl (cf60, 2000, .inl g60_20)), (qf61, .inl (cf61, 2000, .inl g61_20)), (qf63, .inl (cf63, 40000, .inl g63_20))]) hD hS hA [10, 0, 1, 2, 3, 4, 5, 6, 7, 8, 9] rfl
      refine va_calli (va_runV (As := [.int l1_20]) (rest := [.ref h0]) ⟨hx, hb, hml, hown, hts⟩ (vm_classConstant l dC dI H.size h0 z_1 l1_20 qf2 qf5 qf6 qf25 qf58 qf59 qf60 qf61 x62_20 qf63 x64_20 qf65 x66_20 cf65 g65_20 cf25 f25 cf6 f6 cf5 f5 cf2 f2 cf58 g58_20 cf59 g59_20 cf60 g60_20 cf61 g61_20 cf63 g63_20 nS477 fS477 hS477 qS477 tS477 nf u2_0 g902_1 g902_2 g902_3 g902_4 g902_5 g902_6 u2_7 u2_8 u2_9 hln_1 hfk_1_2 hfk_1_5 hfk_1_6 hfk_1_25 hfk_1_58 hfk_1_59 hfk_1_60 hfk_1_61 hfk_1_62 hfk_1_63 hfk_1_64 hfk_1_65 hfk_1_66 hu_2) (cwV 1 hts gv_h9_80 rfl rfl rfl (by decide +kernel) ⟨Nat.le_of_ble_eq_true rfl, Nat.le_of_ble_eq_true rfl⟩) ⟨fun a U g mk q => by obtain ⟨q0, q1, qP, qK, qD, qhZWS477, qhZRS477⟩ := q; exact ⟨q0, q1, qP, va_K.moved (u := U) (U := U.calling g mk a) (Vm.Alike.refl U.vm) qK, qD, pz_W.moved (u := U) (U := U.calling g mk a) (Vm.Alike.refl U.vm) qhZWS477, vk_R.same rfl qhZRS477⟩, va_recv hKc hPc (ci := 13) (q0 := 0) rfl rfl, fun U hU hW => ⟨rfl, by rw [hU], by rw [hU]; exact hPc, va_K.moved hW.alike hKc, hDc.weaken (fun _ _ _ _ => trivial), by rw [hU]; exact ((pz_W.moved hW.alike hZWS477).kept hS.2.1).narrow hFc, vk_R.warm hW hZRS477⟩⟩ rfl rfl hl.1 rfl (lv_room (Nat.le_of_ble_eq_true rfl)) dX13_tellType_31 ⟨Nat.le_of_ble_eq_true rfl, Nat.le_of_ble_eq_true rfl⟩) hS (fun q _ h => hFc q h) hFc ?_
      clear hS
      intro r_4 u t H1 locs ht hvm hw hB hz1 hk1 hS
      obtain ⟨z_2, rfl⟩ : ∃ z, z = u := ⟨_, rfl⟩
      obtain ⟨hP1, hK1, hD1⟩ := hB
      rw [ht] at hP1
      have hK1 := va_K.moved hvm.symm hK1
      try dsimp only at hw
      have hPD := va_join (wr := [(qf96, .inl (cf96, 40000, .inl g901_0))]) (w1 := [(h0, .inr (13, z_2)), (qf65, .inl (cf65, 200, .inl g902_6)), (qf25, .inl (cf25, 400, .inl f25)), (qf6, .inl (cf6, 3002, .inl f6)), (qf5, .inl (cf5, 3002, .inl f5)), (qf2, .inl (cf2, 3000, .inl f2)), (qf58, .inl (cf58, 2000, .inl g902_1)), (qf59, .inl (cf59, 2000, .inl g902_2)), (qf60, .inl (cf60, 2000, .inl g902_3)), (qf61, .inl (cf61, 2000, .inl g902_4)), (qf63, .inl (cf63, 40000, .inl g902_5))]) hP hD [10, 0, 1, 2, 3, 4, 5, 6, 7, 8, 9] [11] rfl rfl (by decide) (by decide) hk1 hFc hP1 hD1
      clear hP hD
      obtain ⟨hP, hD⟩ := hPD
      replace hK := (hK.sub (tys' := [(cf96, .int)]) [10] rfl).app hK1
      clear hPc hDc hKc hFc hP1 hK1 hD1 hz1 hk1 ht hvm
      generalize H1 = H at hP hS ⊢
      replace hP : va_P (dC, dI) vwCl [(qf96, .inl (cf96, 40000, .inl g901_0)), (h0, .inr (13, z_2)), (qf65, .inl (cf65, 200, .inl g902_6)), (qf25, .inl (cf25, 400, .inl f25)), (qf6, .inl (cf6, 3002, .inl f6)), (qf5, .inl (cf5, 3002, .inl f5)), (qf2, .inl (cf2, 3000, .inl f2)), (qf58, .inl (cf58, 2000, .inl g902_1)), (qf59, .inl (cf59, 2000, .inl g902_2)), (qf60, .inl (cf60, 2000, .inl g902_3)), (qf61, .inl (cf61, 2000, .inl g902_4)), (qf63, .inl (cf63, 40000, .inl g902_5))] H := hP
      replace hD : va_D A [(qf96, .inl (cf96, 40000, .inl g901_0)), (h0, .inr (13, z_2)), (qf65, .inl (cf65, 200, .inl g902_6)), (qf25, .inl (cf25, 400, .inl f25)), (qf6, .inl (cf6, 3002, .inl f6)), (qf5, .inl (cf5, 3002, .inl f5)), (qf2, .inl (cf2, 3000, .inl f2)), (qf58, .inl (cf58, 2000, .inl g902_1)), (qf59, .inl (cf59, 2000, .inl g902_2)), (qf60, .inl (cf60, 2000, .inl g902_3)), (qf61, .inl (cf61, 2000, .inl g902_4)), (qf63, .inl (cf63, 40000, .inl g902_5))] := hD
      replace hK : va_K (dC, dI) vwCl [(cf96, .int), (cf65, .int), (cf25, .int), (cf6, .int), (cf5, .int), (cf2, .int), (cf58, .int), (cf59, .int), (cf60, .int), (cf61, .int), (cf63, .int)] s := hK
      obtain ⟨hwa_2, hln_2, hre_2, hch_2_62, hch_2_64, hch_2_66⟩ := hw
      have hfk_2_2 : z_2[2]? = some (.ref qf2) := (hre_2 2 (by decide) (by decide) (by decide)).trans (hfk_1_2)
      have hfk_2_5 : z_2[5]? = some (.ref qf5) := (hre_2 5 (by decide) (by decide) (by decide)).trans (hfk_1_5)
      have hfk_2_6 : z_2[6]? = some (.ref qf6) := (hre_2 6 (by decide) (by decide) (by decide)).trans (hfk_1_6)
      have hfk_2_25 : z_2[25]? = some (.ref qf25) := (hre_2 25 (by decide) (by decide) (by decide)).trans (hfk_1_25)
      have hfk_2_58 : z_2[58]? = some (.ref qf58) := (hre_2 58 (by decide) (by decide) (by decide)).trans (hfk_1_58)
      have hfk_2_59 : z_2[59]? = some (.ref qf59) := (hre_2 59 (by decide) (by decide) (by decide)).trans (hfk_1_59)
      have hfk_2_60 : z_2[60]? = some (.ref qf60) := (hre_2 60 (by decide) (by decide) (by decide)).trans (hfk_1_60)
      have hfk_2_61 : z_2[61]? = some (.ref qf61) := (hre_2 61 (by decide) (by decide) (by decide)).trans (hfk_1_61)
      have hfk_2_63 : z_2[63]? = some (.ref qf63) := (hre_2 63 (by decide) (by decide) (by decide)).trans (hfk_1_63)
      have hfk_2_65 : z_2[65]? = some (.ref qf65) := (hre_2 65 (by decide) (by decide) (by decide)).trans (hfk_1_65)
      have hfk_2_96 : z_2[96]? = some (.ref qf96) := (hre_2 96 (by decide) (by decide) (by decide)).trans (hfk_1_96)
      have hfk_2_97 : z_2[97]? = some (.int u1_1) := (hre_2 97 (by decide) (by decide) (by decide)).trans (hch_1_97)
      have hrq_2 : ∀ j : Nat, j ≠ 62 → j ≠ 64 → j ≠ 66 → j ≠ 97 → z_2[j]? = zs[j]? := fun j g62 g64 g66 g97 => (hre_2 j g62 g64 g66).trans (hrq_1 j g62 g64 g66 g97)
      obtain rfl := hwa_2
      obtain ⟨⟨g903_0, u3_1⟩, hu_3, hsp⟩ := ox_bind hsp
      try dsimp only at hsp
      have hPc := hP.sub (ws' := [(h0, .inr (13, z_2)), (qf96, .inl (cf96, 40000, .inl g901_0))]) [1, 0] rfl
      have hDc := hD.sub (ws' := [(h0, .inr (13, z_2)), (qf96, .inl (cf96, 40000, .inl g901_0))]) [1, 0] (by decide) rfl
      have hKc := hK.sub (tys' := [(cf96, .int)]) [0] rfl
      have hFc := va_free (wc := [(h0, .inr (13, z_2)), (qf96, .inl (cf96, 40000, .inl g901_0))]) hD hS hA [1, 0] rfl
      refine va_callv (va_runV (As := [.int u2_0]) (rest := []) ⟨hx, hb, hml, hown, hts⟩ (tm_tell l dC dI H.size h0 z_2 u2_0 qf96 u1_1 cf96 g901_0 nf g903_0 u3_1 hln_2 hfk_2_96 hfk_2_97 hu_3) (cwV 1 hts gv_h9_37 rfl rfl rfl (by decide +kernel) ⟨Nat.le_of_ble_eq_true rfl, Nat.le_of_ble_eq_true rfl⟩) ⟨fun a U g mk q => by obtain ⟨q0, q1, qP, qK, qD⟩ := q; exact ⟨q0, q1, qP, va_K.moved (u := U) (U := U.calling g mk a) (Vm.Alike.refl U.vm) qK, qD⟩, va_recv hKc hPc (ci := 13) (q0 := 0) rfl rfl, fun U hU hW => ⟨rfl, by rw [hU], by rw [hU]; exact hPc, va_K.moved hW.alike hKc, hDc.weaken (fun _ _ _ _ => trivial)⟩⟩ rfl rfl hl.1 rfl (lv_room (Nat.le_of_ble_eq_true rfl)) dX13_tellType_34 ⟨Nat.le_of_ble_eq_true rfl, Nat.le_of_ble_eq_true rfl⟩) hS (fun q _ h => hFc q h) hFc ?_
      clear hS
      intro u t H1 locs ht hvm hw hB hz1 hk1 hS
      obtain ⟨z_3, rfl⟩ : ∃ z, z = u := ⟨_, rfl⟩
      obtain ⟨hP1, hK1, hD1⟩ := hB
      rw [ht] at hP1
      have hK1 := va_K.moved hvm.symm hK1
      try dsimp only at hw
      have hPD := va_join (wr := [(qf65, .inl (cf65, 200, .inl g902_6)), (qf25, .inl (cf25, 400, .inl f25)), (qf6, .inl (cf6, 3002, .inl f6)), (qf5, .inl (cf5, 3002, .inl f5)), (qf2, .inl (cf2, 3000, .inl f2)), (qf58, .inl (cf58, 2000, .inl g902_1)), (qf59, .inl (cf59, 2000, .inl g902_2)), (qf60, .inl (cf60, 2000, .inl g902_3)), (qf61, .inl (cf61, 2000, .inl g902_4)), (qf63, .inl (cf63, 40000, .inl g902_5))]) (w1 := [(h0, .inr (13, z_3)), (qf96, .inl (cf96, 40000, .inl g903_0))]) hP hD [1, 0] [2, 3, 4, 5, 6, 7, 8, 9, 10, 11] rfl rfl (by decide) (by decide) hk1 hFc hP1 hD1
      clear hP hD
      obtain ⟨hP, hD⟩ := hPD
      replace hK := (hK.sub (tys' := [(cf65, .int), (cf25, .int), (cf6, .int), (cf5, .int), (cf2, .int), (cf58, .int), (cf59, .int), (cf60, .int), (cf61, .int), (cf63, .int)]) [1, 2, 3, 4, 5, 6, 7, 8, 9, 10] rfl).app hK1
      clear hPc hDc hKc hFc hP1 hK1 hD1 hz1 hk1 ht hvm
      generalize H1 = H at hP hS ⊢
      replace hP : va_P (dC, dI) vwCl [(qf65, .inl (cf65, 200, .inl g902_6)), (qf25, .inl (cf25, 400, .inl f25)), (qf6, .inl (cf6, 3002, .inl f6)), (qf5, .inl (cf5, 3002, .inl f5)), (qf2, .inl (cf2, 3000, .inl f2)), (qf58, .inl (cf58, 2000, .inl g902_1)), (qf59, .inl (cf59, 2000, .inl g902_2)), (qf60, .inl (cf60, 2000, .inl g902_3)), (qf61, .inl (cf61, 2000, .inl g902_4)), (qf63, .inl (cf63, 40000, .inl g902_5)), (h0, .inr (13, z_3)), (qf96, .inl (cf96, 40000, .inl g903_0))] H := hP
      replace hD : va_D A [(qf65, .inl (cf65, 200, .inl g902_6)), (qf25, .inl (cf25, 400, .inl f25)), (qf6, .inl (cf6, 3002, .inl f6)), (qf5, .inl (cf5, 3002, .inl f5)), (qf2, .inl (cf2, 3000, .inl f2)), (qf58, .inl (cf58, 2000, .inl g902_1)), (qf59, .inl (cf59, 2000, .inl g902_2)), (qf60, .inl (cf60, 2000, .inl g902_3)), (qf61, .inl (cf61, 2000, .inl g902_4)), (qf63, .inl (cf63, 40000, .inl g902_5)), (h0, .inr (13, z_3)), (qf96, .inl (cf96, 40000, .inl g903_0))] := hD
      replace hK : va_K (dC, dI) vwCl [(cf65, .int), (cf25, .int), (cf6, .int), (cf5, .int), (cf2, .int), (cf58, .int), (cf59, .int), (cf60, .int), (cf61, .int), (cf63, .int), (cf96, .int)] s := hK
      obtain ⟨hwa_3, hln_3, hre_3, hch_3_97⟩ := hw
      have hfk_3_2 : z_3[2]? = some (.ref qf2) := (hre_3 2 (by decide)).trans (hfk_2_2)
      have hfk_3_5 : z_3[5]? = some (.ref qf5) := (hre_3 5 (by decide)).trans (hfk_2_5)
      have hfk_3_6 : z_3[6]? = some (.ref qf6) := (hre_3 6 (by decide)).trans (hfk_2_6)
      have hfk_3_25 : z_3[25]? = some (.ref qf25) := (hre_3 25 (by decide)).trans (hfk_2_25)
      have hfk_3_58 : z_3[58]? = some (.ref qf58) := (hre_3 58 (by decide)).trans (hfk_2_58)
      have hfk_3_59 : z_3[59]? = some (.ref qf59) := (hre_3 59 (by decide)).trans (hfk_2_59)
      have hfk_3_60 : z_3[60]? = some (.ref qf60) := (hre_3 60 (by decide)).trans (hfk_2_60)
      have hfk_3_61 : z_3[61]? = some (.ref qf61) := (hre_3 61 (by decide)).trans (hfk_2_61)
      have hfk_3_62 : z_3[62]? = some (.int u2_7) := (hre_3 62 (by decide)).trans (hch_2_62)
      have hfk_3_63 : z_3[63]? = some (.ref qf63) := (hre_3 63 (by decide)).trans (hfk_2_63)
      have hfk_3_64 : z_3[64]? = some (.int u2_8) := (hre_3 64 (by decide)).trans (hch_2_64)
      have hfk_3_65 : z_3[65]? = some (.ref qf65) := (hre_3 65 (by decide)).trans (hfk_2_65)
      have hfk_3_66 : z_3[66]? = some (.int u2_9) := (hre_3 66 (by decide)).trans (hch_2_66)
      have hfk_3_96 : z_3[96]? = some (.ref qf96) := (hre_3 96 (by decide)).trans (hfk_2_96)
      have hrq_3 : ∀ j : Nat, j ≠ 62 → j ≠ 64 → j ≠ 66 → j ≠ 97 → z_3[j]? = zs[j]? := fun j g62 g64 g66 g97 => (hre_3 j g97).trans (hrq_2 j g62 g64 g66 g97)
      have hr0 := Option.some.inj hsp
      clear hsp
      obtain ⟨hq0, hr1⟩ := Prod.mk.inj hr0
      clear hr0
      obtain ⟨hq1, hr2⟩ := Prod.mk.inj hr1
      clear hr1
      obtain ⟨hq2, hr3⟩ := Prod.mk.inj hr2
      clear hr2
      obtain ⟨hq3, hr4⟩ := Prod.mk.inj hr3
      clear hr3
      obtain ⟨hq4, hr5⟩ := Prod.mk.inj hr4
      clear hr4
      obtain ⟨hq5, hr6⟩ := Prod.mk.inj hr5
      clear hr5
      obtain ⟨hq6, hr7⟩ := Prod.mk.inj hr6
      clear hr6
      obtain ⟨hq7, hr8⟩ := Prod.mk.inj hr7
      clear hr7
      obtain ⟨hq8, hr9⟩ := Prod.mk.inj hr8
      clear hr8
      obtain ⟨hq9, hr10⟩ := Prod.mk.inj hr9
      clear hr9
      subst hq0
      subst hq1
      subst hq2
      subst hq3
      subst hq4
      subst hq5
      subst hq6
      subst hq7
      subst hq8
      subst hq9
      subst hr10
      have hP9 := hP.sub (ws' := [(h0, .inr (13, z_3)), (qf96, .inl (cf96, 40000, .inl g903_0)), (qf65, .inl (cf65, 200, .inl g902_6)), (qf25, .inl (cf25, 400, .inl f25)), (qf6, .inl (cf6, 3002, .inl f6)), (qf5, .inl (cf5, 3002, .inl f5)), (qf2, .inl (cf2, 3000, .inl f2)), (qf58, .inl (cf58, 2000, .inl g902_1)), (qf59, .inl (cf59, 2000, .inl g902_2)), (qf60, .inl (cf60, 2000, .inl g902_3)), (qf61, .inl (cf61, 2000, .inl g902_4)), (qf63, .inl (cf63, 40000, .inl g902_5))]) [10, 11, 0, 1, 2, 3, 4, 5, 6, 7, 8, 9] rfl
      have hD9 := hD.sub (ws' := [(h0, .inr (13, z_3)), (qf96, .inl (cf96, 40000, .inl g903_0)), (qf65, .inl (cf65, 200, .inl g902_6)), (qf25, .inl (cf25, 400, .inl f25)), (qf6, .inl (cf6, 3002, .inl f6)), (qf5, .inl (cf5, 3002, .inl f5)), (qf2, .inl (cf2, 3000, .inl f2)), (qf58, .inl (cf58, 2000, .inl g902_1)), (qf59, .inl (cf59, 2000, .inl g902_2)), (qf60, .inl (cf60, 2000, .inl g902_3)), (qf61, .inl (cf61, 2000, .inl g902_4)), (qf63, .inl (cf63, 40000, .inl g902_5))]) [10, 11, 0, 1, 2, 3, 4, 5, 6, 7, 8, 9] (by decide) rfl
      have hK9 := hK.sub (tys' := [(cf96, .int), (cf65, .int), (cf25, .int), (cf6, .int), (cf5, .int), (cf2, .int), (cf58, .int), (cf59, .int), (cf60, .int), (cf61, .int), (cf63, .int)]) [10, 0, 1, 2, 3, 4, 5, 6, 7, 8, 9] rfl
      exact W.vret hx hb hr (fun t ht hW => ⟨⟨(z_3), rfl, ⟨trivial, hln_3, hrq_3, hfk_3_62, hfk_3_64, hfk_3_66, hch_3_97⟩, by rw [ht]; exact hP9, va_K.moved hW.alike hK9, hD9⟩, hS.F ht⟩) hS.2.2 dX13_tellType_37
  intro hj_20
  refine lv_aload_n hx hb dX13_tellType_0 rfl (lv_at hl 0 rfl) ?_
  refine lv_iload_n hx hb dX13_tellType_1 rfl (lv_at hl 1 rfl) ?_
  refine lv_iconst (v := 1) hx hb dX13_tellType_2 (by decide) ?_
  refine lv_icmp_gt (tgt := 10) hx hb dX13_tellType_3 (by decide) (fun c_1 => ?_) (fun c_1 => ?_)
  · rw [if_pos c_1] at hsp
    refine lv_iload_n hx hb dX13_tellType_10 rfl (lv_at hl 1 rfl) ?_
    refine lv_iconst (v := 2) hx hb dX13_tellType_11 (by decide) ?_
    refine lv_icmp_ne (tgt := 19) hx hb dX13_tellType_12 (by decide) (fun c_2 => ?_) (fun c_2 => ?_)
    · rw [if_neg c_2] at hsp
      refine lv_iconst (v := 3) hx hb dX13_tellType_19 (by decide) ?_
      exact hj_20 (H, locs, ls, zs, a1, 3, f58, f59, f60, f61, f63, f65, f96, v62, v64, v66, v97) ⟨lv_sub hl [0, 1] rfl, hS, hD.sub (ws' := [(h0, .inr (13, zs)), (qf96, .inl (cf96, 40000, .inl f96)), (qf65, .inl (cf65, 200, .inl f65)), (qf25, .inl (cf25, 400, .inl f25)), (qf6, .inl (cf6, 3002, .inl f6)), (qf5, .inl (cf5, 3002, .inl f5)), (qf2, .inl (cf2, 3000, .inl f2)), (qf58, .inl (cf58, 2000, .inl f58)), (qf59, .inl (cf59, 2000, .inl f59)), (qf60, .inl (cf60, 2000, .inl f60)), (qf61, .inl (cf61, 2000, .inl f61)), (qf63, .inl (cf63, 40000, .inl f63))]) [0, 1, 2, 3, 4, 5, 6, 7, 8, 9, 10, 11] (by decide) rfl, hP.sub (ws' := [(h0, .inr (13, zs)), (qf96, .inl (cf96, 40000, .inl f96)), (qf65, .inl (cf65, 200, .inl f65)), (qf25, .inl (cf25, 400, .inl f25)), (qf6, .inl (cf6, 3002, .inl f6)), (qf5, .inl (cf5, 3002, .inl f5)), (qf2, .inl (cf2, 3000, .inl f2)), (qf58, .inl (cf58, 2000, .inl f58)), (qf59, .inl (cf59, 2000, .inl f59)), (qf60, .inl (cf60, 2000, .inl f60)), (qf61, .inl (cf61, 2000, .inl f61)), (qf63, .inl (cf63, 40000, .inl f63))]) [0, 1, 2, 3, 4, 5, 6, 7, 8, 9, 10, 11] rfl, hf2, hf5, hf6, hf25, hf58, hf59, hf60, hf61, hf62, hf63, hf64, hf65, hf66, hf96, hf97, hlen, hrs0, hsp⟩
    · rw [if_pos c_2] at hsp
      refine lv_iconst (v := 2) hx hb dX13_tellType_15 (by decide) ?_
      refine lv_goto (tgt := 20) hx hb dX13_tellType_16 (by decide) ?_
      exact hj_20 (H, locs, ls, zs, a1, 2, f58, f59, f60, f61, f63, f65, f96, v62, v64, v66, v97) ⟨lv_sub hl [0, 1] rfl, hS, hD.sub (ws' := [(h0, .inr (13, zs)), (qf96, .inl (cf96, 40000, .inl f96)), (qf65, .inl (cf65, 200, .inl f65)), (qf25, .inl (cf25, 400, .inl f25)), (qf6, .inl (cf6, 3002, .inl f6)), (qf5, .inl (cf5, 3002, .inl f5)), (qf2, .inl (cf2, 3000, .inl f2)), (qf58, .inl (cf58, 2000, .inl f58)), (qf59, .inl (cf59, 2000, .inl f59)), (qf60, .inl (cf60, 2000, .inl f60)), (qf61, .inl (cf61, 2000, .inl f61)), (qf63, .inl (cf63, 40000, .inl f63))]) [0, 1, 2, 3, 4, 5, 6, 7, 8, 9, 10, 11] (by decide) rfl, hP.sub (ws' := [(h0, .inr (13, zs)), (qf96, .inl (cf96, 40000, .inl f96)), (qf65, .inl (cf65, 200, .inl f65)), (qf25, .inl (cf25, 400, .inl f25)), (qf6, .inl (cf6, 3002, .inl f6)), (qf5, .inl (cf5, 3002, .inl f5)), (qf2, .inl (cf2, 3000, .inl f2)), (qf58, .inl (cf58, 2000, .inl f58)), (qf59, .inl (cf59, 2000, .inl f59)), (qf60, .inl (cf60, 2000, .inl f60)), (qf61, .inl (cf61, 2000, .inl f61)), (qf63, .inl (cf63, 40000, .inl f63))]) [0, 1, 2, 3, 4, 5, 6, 7, 8, 9, 10, 11] rfl, hf2, hf5, hf6, hf25, hf58, hf59, hf60, hf61, hf62, hf63, hf64, hf65, hf66, hf96, hf97, hlen, hrs0, hsp⟩
  · rw [if_neg c_1] at hsp
    refine lv_iconst (v := 1) hx hb dX13_tellType_6 (by decide) ?_
    refine lv_goto (tgt := 20) hx hb dX13_tellType_7 (by decide) ?_
    exact hj_20 (H, locs, ls, zs, a1, 1, f58, f59, f60, f61, f63, f65, f96, v62, v64, v66, v97) ⟨lv_sub hl [0, 1] rfl, hS, hD.sub (ws' := [(h0, .inr (13, zs)), (qf96, .inl (cf96, 40000, .inl f96)), (qf65, .inl (cf65, 200, .inl f65)), (qf25, .inl (cf25, 400, .inl f25)), (qf6, .inl (cf6, 3002, .inl f6)), (qf5, .inl (cf5, 3002, .inl f5)), (qf2, .inl (cf2, 3000, .inl f2)), (qf58, .inl (cf58, 2000, .inl f58)), (qf59, .inl (cf59, 2000, .inl f59)), (qf60, .inl (cf60, 2000, .inl f60)), (qf61, .inl (cf61, 2000, .inl f61)), (qf63, .inl (cf63, 40000, .inl f63))]) [0, 1, 2, 3, 4, 5, 6, 7, 8, 9, 10, 11] (by decide) rfl, hP.sub (ws' := [(h0, .inr (13, zs)), (qf96, .inl (cf96, 40000, .inl f96)), (qf65, .inl (cf65, 200, .inl f65)), (qf25, .inl (cf25, 400, .inl f25)), (qf6, .inl (cf6, 3002, .inl f6)), (qf5, .inl (cf5, 3002, .inl f5)), (qf2, .inl (cf2, 3000, .inl f2)), (qf58, .inl (cf58, 2000, .inl f58)), (qf59, .inl (cf59, 2000, .inl f59)), (qf60, .inl (cf60, 2000, .inl f60)), (qf61, .inl (cf61, 2000, .inl f61)), (qf63, .inl (cf63, 40000, .inl f63))]) [0, 1, 2, 3, 4, 5, 6, 7, 8, 9, 10, 11] rfl, hf2, hf5, hf6, hf25, hf58, hf59, hf60, hf61, hf62, hf63, hf64, hf65, hf66, hf96, hf97, hlen, hrs0, hsp⟩
def lp_vm_scanMethod_497 (nf n : Nat) (a1 : Int32) (a2 : Int32) (a3 : Int32) (v113 : Int32) (v114 : Int32) (v115 : Int32) (f112 : Nat → Int32) (f103 : Nat → Int32) (f102 : Nat → Int32) (f110 : Nat → Int32) (f111 : Nat → Int32)  (l4_497 : Int32) (l9_497 : Int32) (l10_497 : Int32) (g110_497 : Nat → Int32) (g111_497 : Nat → Int32) (x114_497 : Int32) : Option (Int32 × (Nat → Int32) × (Nat → Int32) × Int32) := match n with
  | 0 => none
  | n + 1 => (if l9_497 ≤ l10_497 then (some (l4_497, g110_497, g111_497, x114_497)) else (if x114_497 = (-1) then ((sp_tm_isByte nf (l4_497 + 1) v113 x114_497).bind (fun p1 => (if p1.1 = 0 then (some (l4_497, g110_497, g111_497, p1.2)) else ((sp_vm_scanTypes nf (l4_497 + 2) v113 p1.2 v115 f112 f103 f102).bind (fun p2 => ((sp_vm_scanTypes nf p2.1 v113 p2.2 v115 f112 f103 f102).bind (fun p3 => (lp_vm_scanMethod_497 nf n a1 a2 a3 v113 v114 v115 f112 f103 f102 f110 f111 p3.1 l9_497 (l10_497 + 1) g110_497 g111_497 p3.2)))))))) else (some (l4_497, g110_497, g111_497, x114_497))))
def jn_vm_scanMethod_491 (nf : Nat) (a1 : Int32) (a2 : Int32) (a3 : Int32) (v113 : Int32) (v114 : Int32) (v115 : Int32) (f112 : Nat → Int32) (f103 : Nat → Int32) (f102 : Nat → Int32) (f110 : Nat → Int32) (f111 : Nat → Int32)  (l4_491 : Int32) (l9_491 : Int32) (g110_491 : Nat → Int32) (g111_491 : Nat → Int32) (x114_491 : Int32) : Option (Int32 × (Nat → Int32) × (Nat → Int32) × Int32) := (lp_vm_scanMethod_497 nf nf a1 a2 a3 v113 v114 v115 f112 f103 f102 f110 f111  (l4_491 + 1) l9_491 0 g110_491 g111_491 x114_491)
def jn_vm_scanMethod_444 (nf : Nat) (a1 : Int32) (a2 : Int32) (a3 : Int32) (v113 : Int32) (v114 : Int32) (v115 : Int32) (f112 : Nat → Int32) (f103 : Nat → Int32) (f102 : Nat → Int32) (f110 : Nat → Int32) (f111 : Nat → Int32)  (l1_444 : Int32) (l2_444 : Int32) (l4_444 : Int32) (g110_444 : Nat → Int32) (g111_444 : Nat → Int32) (x114_444 : Int32) : Option (Int32 × (Nat → Int32) × (Nat → Int32) × Int32) := ((sp_tm_isByte nf l4_444 v113 x114_444).bind (fun p1 => (if p1.1 = 0 then (some (l4_444, g110_444, g111_444, p1.2)) else (if ((12 * l1_444) + l2_444) < 0 then none else if 96 ≤ (((12 * l1_444) + l2_444) : Int32).toNatClampNeg then none else (if l4_444 < 0 then none else if 6000 ≤ (l4_444 : Int32).toNatClampNeg then none else (if (f112 (l4_444 : Int32).toNatClampNeg) ≤ 100 then (jn_vm_scanMethod_491 nf a1 a2 a3 v113 v114 v115 f112 f103 f102 f110 f111  l4_444 (f112 (l4_444 : Int32).toNatClampNeg) g110_444 (upd g111_444 (((12 * l1_444) + l2_444) : Int32).toNatClampNeg l4_444) p1.2) else ((sp_tm_unfit nf l4_444 p1.2).bind (fun p2 => (jn_vm_scanMethod_491 nf a1 a2 a3 v113 v114 v115 f112 f103 f102 f110 f111  l4_444 (f112 (l4_444 : Int32).toNatClampNeg) g110_444 (upd g111_444 (((12 * l1_444) + l2_444) : Int32).toNatClampNeg l4_444) p2)))))))))
def lp_vm_scanMethod_381 (nf n : Nat) (a1 : Int32) (a2 : Int32) (a3 : Int32) (v113 : Int32) (v114 : Int32) (v115 : Int32) (f112 : Nat → Int32) (f103 : Nat → Int32) (f102 : Nat → Int32) (f110 : Nat → Int32) (f111 : Nat → Int32)  (l1_381 : Int32) (l2_381 : Int32) (l4_381 : Int32) (l8_381 : Int32) (l9_381 : Int32) (g110_381 : Nat → Int32) (g111_381 : Nat → Int32) (x114_381 : Int32) : Option (Int32 × (Nat → Int32) × (Nat → Int32) × Int32) := match n with
  | 0 => none
  | n + 1 => (if l8_381 ≤ l9_381 then (jn_vm_scanMethod_444 nf a1 a2 a3 v113 v114 v115 f112 f103 f102 f110 f111  l1_381 l2_381 l4_381 g110_381 g111_381 x114_381) else (if x114_381 = (-1) then ((sp_tm_isByte nf (l4_381 + 6) v113 x114_381).bind (fun p1 => (if p1.1 = 0 then (lp_vm_scanMethod_381 nf n a1 a2 a3 v113 v114 v115 f112 f103 f102 f110 f111 l1_381 l2_381 (l4_381 + 7) l8_381 (l9_381 + 1) g110_381 g111_381 p1.2) else (if (l4_381 + 6) < 0 then none else if 6000 ≤ ((l4_381 + 6) : Int32).toNatClampNeg then none else ((sp_tn_isClassConstant nf (f112 ((l4_381 + 6) : Int32).toNatClampNeg) 1 v115 f103 f102 f112).bind (fun p2 => (if p2 = 0 then ((sp_tm_unfit nf (l4_381 + 6) p1.2).bind (fun p3 => (lp_vm_scanMethod_381 nf n a1 a2 a3 v113 v114 v115 f112 f103 f102 f110 f111 l1_381 l2_381 (l4_381 + 7) l8_381 (l9_381 + 1) g110_381 g111_381 p3))) else (lp_vm_scanMethod_381 nf n a1 a2 a3 v113 v114 v115 f112 f103 f102 f110 f111 l1_381 l2_381 (l4_381 + 7) l8_381 (l9_381 + 1) g110_381 g111_381 p1.2)))))))) else (jn_vm_scanMethod_444 nf a1 a2 a3 v113 v114 v115 f112 f103 f102 f110 f111  l1_381 l2_381 l4_381 g110_381 g111_381 x114_381)))
def jn_vm_scanMethod_375 (nf : Nat) (a1 : Int32) (a2 : Int32) (a3 : Int32) (v113 : Int32) (v114 : Int32) (v115 : Int32) (f112 : Nat → Int32) (f103 : Nat → Int32) (f102 : Nat → Int32) (f110 : Nat → Int32) (f111 : Nat → Int32)  (l1_375 : Int32) (l2_375 : Int32) (l4_375 : Int32) (l8_375 : Int32) (g110_375 : Nat → Int32) (g111_375 : Nat → Int32) (x114_375 : Int32) : Option (Int32 × (Nat → Int32) × (Nat → Int32) × Int32) := (lp_vm_scanMethod_381 nf nf a1 a2 a3 v113 v114 v115 f112 f103 f102 f110 f111  l1_375 l2_375 (l4_375 + 1) l8_375 0 g110_375 g111_375 x114_375)
def jn_vm_scanMethod_328 (nf : Nat) (a1 : Int32) (a2 : Int32) (a3 : Int32) (v113 : Int32) (v114 : Int32) (v115 : Int32) (f112 : Nat → Int32) (f103 : Nat → Int32) (f102 : Nat → Int32) (f110 : Nat → Int32) (f111 : Nat → Int32)  (l1_328 : Int32) (l2_328 : Int32) (l4_328 : Int32) (g110_328 : Nat → Int32) (g111_328 : Nat → Int32) (x114_328 : Int32) : Option (Int32 × (Nat → Int32) × (Nat → Int32) × Int32) := ((sp_tm_isByte nf l4_328 v113 x114_328).bind (fun p1 => (if p1.1 = 0 then (some (l4_328, g110_328, g111_328, p1.2)) else (if ((12 * l1_328) + l2_328) < 0 then none else if 96 ≤ (((12 * l1_328) + l2_328) : Int32).toNatClampNeg then none else (if l4_328 < 0 then none else if 6000 ≤ (l4_328 : Int32).toNatClampNeg then none else (if (f112 (l4_328 : Int32).toNatClampNeg) ≤ 20 then (jn_vm_scanMethod_375 nf a1 a2 a3 v113 v114 v115 f112 f103 f102 f110 f111  l1_328 l2_328 l4_328 (f112 (l4_328 : Int32).toNatClampNeg) (upd g110_328 (((12 * l1_328) + l2_328) : Int32).toNatClampNeg l4_328) g111_328 p1.2) else ((sp_tm_unfit nf l4_328 p1.2).bind (fun p2 => (jn_vm_scanMethod_375 nf a1 a2 a3 v113 v114 v115 f112 f103 f102 f110 f111  l1_328 l2_328 l4_328 (f112 (l4_328 : Int32).toNatClampNeg) (upd g110_328 (((12 * l1_328) + l2_328) : Int32).toNatClampNeg l4_328) g111_328 p2)))))))))
def jn_vm_scanMethod_293 (nf : Nat) (a1 : Int32) (a2 : Int32) (a3 : Int32) (v113 : Int32) (v114 : Int32) (v115 : Int32) (f112 : Nat → Int32) (f103 : Nat → Int32) (f102 : Nat → Int32) (f110 : Nat → Int32) (f111 : Nat → Int32)  (l1_293 : Int32) (l2_293 : Int32) (l4_293 : Int32) (l7_293 : Int32) (g110_293 : Nat → Int32) (g111_293 : Nat → Int32) (x114_293 : Int32) : Option (Int32 × (Nat → Int32) × (Nat → Int32) × Int32) := (if x114_293 = (-1) then (if (l4_293 + (7 + l7_293)) ≤ v113 then (jn_vm_scanMethod_328 nf a1 a2 a3 v113 v114 v115 f112 f103 f102 f110 f111  l1_293 l2_293 (l4_293 + (7 + l7_293)) g110_293 g111_293 x114_293) else (jn_vm_scanMethod_328 nf a1 a2 a3 v113 v114 v115 f112 f103 f102 f110 f111  l1_293 l2_293 (l4_293 + (7 + l7_293)) g110_293 g111_293 v113)) else (jn_vm_scanMethod_328 nf a1 a2 a3 v113 v114 v115 f112 f103 f102 f110 f111  l1_293 l2_293 (l4_293 + (7 + l7_293)) g110_293 g111_293 x114_293))
def jn_vm_scanMethod_285 (nf : Nat) (a1 : Int32) (a2 : Int32) (a3 : Int32) (v113 : Int32) (v114 : Int32) (v115 : Int32) (f112 : Nat → Int32) (f103 : Nat → Int32) (f102 : Nat → Int32) (f110 : Nat → Int32) (f111 : Nat → Int32)  (l1_285 : Int32) (l2_285 : Int32) (l4_285 : Int32) (l7_285 : Int32) (g110_285 : Nat → Int32) (g111_285 : Nat → Int32) (x114_285 : Int32) : Option (Int32 × (Nat → Int32) × (Nat → Int32) × Int32) := ((sp_tm_unfit nf (l4_285 + 5) x114_285).bind (fun p1 => (jn_vm_scanMethod_293 nf a1 a2 a3 v113 v114 v115 f112 f103 f102 f110 f111  l1_285 l2_285 l4_285 l7_285 g110_285 g111_285 p1)))
def jn_vm_scanMethod_232 (nf : Nat) (a1 : Int32) (a2 : Int32) (a3 : Int32) (v113 : Int32) (v114 : Int32) (v115 : Int32) (f112 : Nat → Int32) (f103 : Nat → Int32) (f102 : Nat → Int32) (f110 : Nat → Int32) (f111 : Nat → Int32)  (l1_232 : Int32) (l2_232 : Int32) (l4_232 : Int32) (g110_232 : Nat → Int32) (g111_232 : Nat → Int32) (x114_232 : Int32) : Option (Int32 × (Nat → Int32) × (Nat → Int32) × Int32) := ((sp_tm_isByte nf (l4_232 + 5) v113 x114_232).bind (fun p1 => (if p1.1 = 0 then (some (l4_232, g110_232, g111_232, p1.2)) else ((sp_tm_isByte nf (l4_232 + 6) v113 p1.2).bind (fun p2 => (if p2.1 = 0 then (some (l4_232, g110_232, g111_232, p2.2)) else ((sp_tm_pairAt nf (l4_232 + 5) f112).bind (fun p3 => (if p3 < 1 then (jn_vm_scanMethod_285 nf a1 a2 a3 v113 v114 v115 f112 f103 f102 f110 f111  l1_232 l2_232 l4_232 p3 g110_232 g111_232 p2.2) else (if p3 ≤ 1500 then (jn_vm_scanMethod_293 nf a1 a2 a3 v113 v114 v115 f112 f103 f102 f110 f111  l1_232 l2_232 l4_232 p3 g110_232 g111_232 p2.2) else (jn_vm_scanMethod_285 nf a1 a2 a3 v113 v114 v115 f112 f103 f102 f110 f111  l1_232 l2_232 l4_232 p3 g110_232 g111_232 p2.2)))))))))))
def jn_vm_scanMethod_224 (nf : Nat) (a1 : Int32) (a2 : Int32) (a3 : Int32) (v113 : Int32) (v114 : Int32) (v115 : Int32) (f112 : Nat → Int32) (f103 : Nat → Int32) (f102 : Nat → Int32) (f110 : Nat → Int32) (f111 : Nat → Int32)  (l1_224 : Int32) (l2_224 : Int32) (l4_224 : Int32) (g110_224 : Nat → Int32) (g111_224 : Nat → Int32) (x114_224 : Int32) : Option (Int32 × (Nat → Int32) × (Nat → Int32) × Int32) := ((sp_tm_unfit nf (l4_224 + 4) x114_224).bind (fun p1 => (jn_vm_scanMethod_232 nf a1 a2 a3 v113 v114 v115 f112 f103 f102 f110 f111  l1_224 l2_224 l4_224 g110_224 g111_224 p1)))
def jn_vm_scanMethod_134 (nf : Nat) (a1 : Int32) (a2 : Int32) (a3 : Int32) (v113 : Int32) (v114 : Int32) (v115 : Int32) (f112 : Nat → Int32) (f103 : Nat → Int32) (f102 : Nat → Int32) (f110 : Nat → Int32) (f111 : Nat → Int32)  (l1_134 : Int32) (l2_134 : Int32) (l4_134 : Int32) (g110_134 : Nat → Int32) (g111_134 : Nat → Int32) (x114_134 : Int32) : Option (Int32 × (Nat → Int32) × (Nat → Int32) × Int32) := ((sp_tm_isByte nf (l4_134 + 4) v113 x114_134).bind (fun p1 => (if p1.1 = 0 then (some (l4_134, g110_134, g111_134, p1.2)) else (if (l4_134 + 2) < 0 then none else if 6000 ≤ ((l4_134 + 2) : Int32).toNatClampNeg then none else ((sp_tm_constantOf nf l1_134 (f112 ((l4_134 + 2) : Int32).toNatClampNeg) f103 f102).bind (fun p2 => (if (p2 + 1) < 0 then none else if 6000 ≤ ((p2 + 1) : Int32).toNatClampNeg then none else ((sp_vm_parametersIn nf (p2 + 2) (f112 ((p2 + 1) : Int32).toNatClampNeg) 6000 f112).bind (fun p3 => (if l4_134 < 0 then none else if 6000 ≤ (l4_134 : Int32).toNatClampNeg then none else (if (l4_134 + 4) < 0 then none else if 6000 ≤ ((l4_134 + 4) : Int32).toNatClampNeg then none else (if 30 < (f112 ((l4_134 + 4) : Int32).toNatClampNeg) then (jn_vm_scanMethod_224 nf a1 a2 a3 v113 v114 v115 f112 f103 f102 f110 f111  l1_134 l2_134 l4_134 g110_134 g111_134 p1.2) else (if (l4_134 + 4) < 0 then none else if 6000 ≤ ((l4_134 + 4) : Int32).toNatClampNeg then none else (if ((p3 + 1) - (f112 (l4_134 : Int32).toNatClampNeg)) ≤ (f112 ((l4_134 + 4) : Int32).toNatClampNeg) then (jn_vm_scanMethod_232 nf a1 a2 a3 v113 v114 v115 f112 f103 f102 f110 f111  l1_134 l2_134 l4_134 g110_134 g111_134 p1.2) else (jn_vm_scanMethod_224 nf a1 a2 a3 v113 v114 v115 f112 f103 f102 f110 f111  l1_134 l2_134 l4_134 g110_134 g111_134 p1.2)))))))))))))))
def jn_vm_scanMethod_101 (nf : Nat) (a1 : Int32) (a2 : Int32) (a3 : Int32) (v113 : Int32) (v114 : Int32) (v115 : Int32) (f112 : Nat → Int32) (f103 : Nat → Int32) (f102 : Nat → Int32) (f110 : Nat → Int32) (f111 : Nat → Int32)  (l1_101 : Int32) (l2_101 : Int32) (l4_101 : Int32) (g110_101 : Nat → Int32) (g111_101 : Nat → Int32) (x114_101 : Int32) : Option (Int32 × (Nat → Int32) × (Nat → Int32) × Int32) := ((sp_tm_isByte nf (l4_101 + 3) v113 x114_101).bind (fun p1 => (if p1.1 = 0 then (jn_vm_scanMethod_134 nf a1 a2 a3 v113 v114 v115 f112 f103 f102 f110 f111  l1_101 l2_101 l4_101 g110_101 g111_101 p1.2) else (if (l4_101 + 3) < 0 then none else if 6000 ≤ ((l4_101 + 3) : Int32).toNatClampNeg then none else (if (f112 ((l4_101 + 3) : Int32).toNatClampNeg) ≤ 30 then (jn_vm_scanMethod_134 nf a1 a2 a3 v113 v114 v115 f112 f103 f102 f110 f111  l1_101 l2_101 l4_101 g110_101 g111_101 p1.2) else ((sp_tm_unfit nf (l4_101 + 3) p1.2).bind (fun p2 => (jn_vm_scanMethod_134 nf a1 a2 a3 v113 v114 v115 f112 f103 f102 f110 f111  l1_101 l2_101 l4_101 g110_101 g111_101 p2))))))))
def jn_vm_scanMethod_65 (nf : Nat) (a1 : Int32) (a2 : Int32) (a3 : Int32) (v113 : Int32) (v114 : Int32) (v115 : Int32) (f112 : Nat → Int32) (f103 : Nat → Int32) (f102 : Nat → Int32) (f110 : Nat → Int32) (f111 : Nat → Int32)  (l1_65 : Int32) (l2_65 : Int32) (l4_65 : Int32) (g110_65 : Nat → Int32) (g111_65 : Nat → Int32) (x114_65 : Int32) : Option (Int32 × (Nat → Int32) × (Nat → Int32) × Int32) := ((sp_tm_isByte nf (l4_65 + 2) v113 x114_65).bind (fun p1 => (if p1.1 = 0 then (jn_vm_scanMethod_101 nf a1 a2 a3 v113 v114 v115 f112 f103 f102 f110 f111  l1_65 l2_65 l4_65 g110_65 g111_65 p1.2) else (if (l4_65 + 2) < 0 then none else if 6000 ≤ ((l4_65 + 2) : Int32).toNatClampNeg then none else ((sp_vm_isText nf (f112 ((l4_65 + 2) : Int32).toNatClampNeg) 2 v115 f103 f102 f112).bind (fun p2 => (if p2 = 0 then ((sp_tm_unfit nf (l4_65 + 2) p1.2).bind (fun p3 => (jn_vm_scanMethod_101 nf a1 a2 a3 v113 v114 v115 f112 f103 f102 f110 f111  l1_65 l2_65 l4_65 g110_65 g111_65 p3))) else (jn_vm_scanMethod_101 nf a1 a2 a3 v113 v114 v115 f112 f103 f102 f110 f111  l1_65 l2_65 l4_65 g110_65 g111_65 p1.2))))))))
def jn_vm_scanMethod_29 (nf : Nat) (a1 : Int32) (a2 : Int32) (a3 : Int32) (v113 : Int32) (v114 : Int32) (v115 : Int32) (f112 : Nat → Int32) (f103 : Nat → Int32) (f102 : Nat → Int32) (f110 : Nat → Int32) (f111 : Nat → Int32)  (l1_29 : Int32) (l2_29 : Int32) (l4_29 : Int32) (g110_29 : Nat → Int32) (g111_29 : Nat → Int32) (x114_29 : Int32) : Option (Int32 × (Nat → Int32) × (Nat → Int32) × Int32) := ((sp_tm_isByte nf (l4_29 + 1) v113 x114_29).bind (fun p1 => (if p1.1 = 0 then (jn_vm_scanMethod_65 nf a1 a2 a3 v113 v114 v115 f112 f103 f102 f110 f111  l1_29 l2_29 l4_29 g110_29 g111_29 p1.2) else (if (l4_29 + 1) < 0 then none else if 6000 ≤ ((l4_29 + 1) : Int32).toNatClampNeg then none else ((sp_vm_isText nf (f112 ((l4_29 + 1) : Int32).toNatClampNeg) 0 v115 f103 f102 f112).bind (fun p2 => (if p2 = 0 then ((sp_tm_unfit nf (l4_29 + 1) p1.2).bind (fun p3 => (jn_vm_scanMethod_65 nf a1 a2 a3 v113 v114 v115 f112 f103 f102 f110 f111  l1_29 l2_29 l4_29 g110_29 g111_29 p3))) else (jn_vm_scanMethod_65 nf a1 a2 a3 v113 v114 v115 f112 f103 f102 f110 f111  l1_29 l2_29 l4_29 g110_29 g111_29 p1.2))))))))
def sp_vm_scanMethod (nf : Nat) (a1 : Int32) (a2 : Int32) (a3 : Int32) (v113 : Int32) (v114 : Int32) (v115 : Int32) (f112 : Nat → Int32) (f103 : Nat → Int32) (f102 : Nat → Int32) (f110 : Nat → Int32) (f111 : Nat → Int32) : Option (Int32 × (Nat → Int32) × (Nat → Int32) × Int32) := ((sp_tm_isByte nf a3 v113 v114).bind (fun p1 => (if p1.1 = 0 then (jn_vm_scanMethod_29 nf a1 a2 a3 v113 v114 v115 f112 f103 f102 f110 f111  a1 a2 a3 f110 f111 p1.2) else (if a3 < 0 then none else if 6000 ≤ (a3 : Int32).toNatClampNeg then none else (if (f112 (a3 : Int32).toNatClampNeg) ≤ 1 then (jn_vm_scanMethod_29 nf a1 a2 a3 v113 v114 v115 f112 f103 f102 f110 f111  a1 a2 a3 f110 f111 p1.2) else ((sp_tm_unfit nf a3 p1.2).bind (fun p2 => (jn_vm_scanMethod_29 nf a1 a2 a3 v113 v114 v115 f112 f103 f102 f110 f111  a1 a2 a3 f110 f111 p2))))))))

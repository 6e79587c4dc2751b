set_option maxHeartbeats 4000000 in
set_option maxRecDepth 100000 in
/-- ClassMillModel.frame -/
theorem vm_frame (l : Launch) (dC : Nat → ClassId) (dI : Nat → Nat → Nat) (sz : Nat) (h0 : Nat) (zs : (List Value)) (a1 : Int32) (qf49 : Nat) (v50 : Int32) (v52 : Int32) (v53 : Int32) (qf69 : Nat) (v70 : Int32) (qf73 : Nat) (qf74 : Nat) (qf75 : Nat) (qf76 : Nat) (qf77 : Nat) (v78 : Int32) (v79 : Int32) (cf73 : ClassId) (f73 : (Nat → Int32)) (cf74 : ClassId) (f74 : (Nat → Int32)) (cf75 : ClassId) (f75 : (Nat → Int32)) (cf76 : ClassId) (f76 : (Nat → Int32)) (cf77 : ClassId) (f77 : (Nat → Int32)) (cf69 : ClassId) (f69 : (Nat → Int32)) (cf49 : ClassId) (f49 : (Nat → Int32)) (nf : Nat) (o73 : (Nat → Int32)) (o74 : (Nat → Int32)) (o75 : (Nat → Int32)) (o76 : (Nat → Int32)) (o77 : (Nat → Int32)) (w78 : Int32) (w79 : Int32) (hlen : zs.length = 155) (hf49 : zs[49]? = some (.ref qf49)) (hf50 : zs[50]? = some (.int v50)) (hf52 : zs[52]? = some (.int v52)) (hf53 : zs[53]? = some (.int v53)) (hf69 : zs[69]? = some (.ref qf69)) (hf70 : zs[70]? = some (.int v70)) (hf73 : zs[73]? = some (.ref qf73)) (hf74 : zs[74]? = some (.ref qf74)) (hf75 : zs[75]? = some (.ref qf75)) (hf76 : zs[76]? = some (.ref qf76)) (hf77 : zs[77]? = some (.ref qf77)) (hf78 : zs[78]? = some (.int v78)) (hf79 : zs[79]? = some (.int v79)) (hsp : sp_vm_frame nf a1 v50 v52 v53 v70 v78 v79 f73 f74 f75 f76 f77 f69 f49 = some (o73, o74, o75, o76, o77, w78, w79)) : Met l yX13_frame (.code yX13_frame cX13_frame 5 none :: VS_h9) ({ frames := 0, cells := 0, slots := 0, locals := 0 }) (va_Pc [.ref h0, .int a1] (fun U => U.heap.size = sz ∧ va_P (dC, dI) vwCl [(h0, .inr (13, zs)), (qf73, .inl (cf73, 6200, .inl f73)), (qf74, .inl (cf74, 6200, .inl f74)), (qf75, .inl (cf75, 6200, .inl f75)), (qf76, .inl (cf76, 6200, .inl f76)), (qf77, .inl (cf77, 60000, .inl f77)), (qf69, .inl (cf69, 3000, .inl f69)), (qf49, .inl (cf49, 3000, .inl f49))] U.heap ∧ va_K (dC, dI) vwCl [(cf73, .int), (cf74, .int), (cf75, .int), (cf76, .int), (cf77, .int), (cf69, .int), (cf49, .int)] U ∧ va_D (fun _ => True) [(h0, .inr (13, zs)), (qf73, .inl (cf73, 6200, .inl f73)), (qf74, .inl (cf74, 6200, .inl f74)), (qf75, .inl (cf75, 6200, .inl f75)), (qf76, .inl (cf76, 6200, .inl f76)), (qf77, .inl (cf77, 60000, .inl f77)), (qf69, .inl (cf69, 3000, .inl f69)), (qf49, .inl (cf49, 3000, .inl f49))])) (va_Qv (fun (u : (List Value)) => match u with | (zo1) => True ∧ zo1.length = 155 ∧ (∀ j : Nat, j ≠ 78 → j ≠ 79 → zo1[j]? = zs[j]?) ∧ zo1[78]? = some (.int w78) ∧ zo1[79]? = some (.int w79)) (fun (u : (List Value)) (t : State) => match u with | (zo1) => va_P (dC, dI) vwCl [(h0, .inr (13, zo1)), (qf73, .inl (cf73, 6200, .inl o73)), (qf74, .inl (cf74, 6200, .inl o74)), (qf75, .inl (cf75, 6200, .inl o75)), (qf76, .inl (cf76, 6200, .inl o76)), (qf77, .inl (cf77, 60000, .inl o77)), (qf69, .inl (cf69, 3000, .inl f69)), (qf49, .inl (cf49, 3000, .inl f49))] t.heap ∧ va_K (dC, dI) vwCl [(cf73, .int), (cf74, .int), (cf75, .int), (cf76, .int), (cf77, .int), (cf69, .int), (cf49, .int)] t ∧ va_D (va_A [(h0, .inr (13, zs)), (qf73, .inl (cf73, 6200, .inl f73)), (qf74, .inl (cf74, 6200, .inl f74)), (qf75, .inl (cf75, 6200, .inl f75)), (qf76, .inl (cf76, 6200, .inl f76)), (qf77, .inl (cf77, 60000, .inl f77)), (qf69, .inl (cf69, 3000, .inl f69)), (qf49, .inl (cf49, 3000, .inl f49))] sz) [(h0, .inr (13, zo1)), (qf73, .inl (cf73, 6200, .inl o73)), (qf74, .inl (cf74, 6200, .inl o74)), (qf75, .inl (cf75, 6200, .inl o75)), (qf76, .inl (cf76, 6200, .inl o76)), (qf77, .inl (cf77, 60000, .inl o77)), (qf69, .inl (cf69, 3000, .inl f69)), (qf49, .inl (cf49, 3000, .inl f49))]) (va_A [(h0, .inr (13, zs)), (qf73, .inl (cf73, 6200, .inl f73)), (qf74, .inl (cf74, 6200, .inl f74)), (qf75, .inl (cf75, 6200, .inl f75)), (qf76, .inl (cf76, 6200, .inl f76)), (qf77, .inl (cf77, 60000, .inl f77)), (qf69, .inl (cf69, 3000, .inl f69)), (qf49, .inl (cf49, 3000, .inl f49))] sz)) 0 0 (va_A [(h0, .inr (13, zs)), (qf73, .inl (cf73, 6200, .inl f73)), (qf74, .inl (cf74, 6200, .inl f74)), (qf75, .inl (cf75, 6200, .inl f75)), (qf76, .inl (cf76, 6200, .inl f76)), (qf77, .inl (cf77, 60000, .inl f77)), (qf69, .inl (cf69, 3000, .inl f69)), (qf49, .inl (cf49, 3000, .inl f49))] sz) := by
  refine Met.ofW (cc := cX13_frame) (maxL := 5) (ret := none) (by decide) rfl ?_
  intro p e s m args below meth c s₁ B hml hv
  obtain ⟨rfl, hsz, hP, hK, hD0⟩ := hv
  have hx := B.exec
  have hb := B.bytes
  have hr := B.returns
  have hts := atoms_spec (ws := (.code yX13_frame cX13_frame 5 none :: VS_h9)) B.pre
  replace hts := fun w (h : w ∈ VS_h9) => hts w (List.mem_cons_of_mem _ h)
  have hown : s.vm.findClass RX13 = some m.cls := findClass_of_methodNamed B.named
  have hlocks := B.notSynchronized
  subst hsz
  have hD := hD0.self (sz := s.heap.size)
  generalize hAe : va_A [(h0, .inr (13, zs)), (qf73, .inl (cf73, 6200, .inl f73)), (qf74, .inl (cf74, 6200, .inl f74)), (qf75, .inl (cf75, 6200, .inl f75)), (qf76, .inl (cf76, 6200, .inl f76)), (qf77, .inl (cf77, 60000, .inl f77)), (qf69, .inl (cf69, 3000, .inl f69)), (qf49, .inl (cf49, 3000, .inl f49))] s.heap.size = A at hD  ⊢
  have hA : ∀ q : Nat, s.heap.size ≤ q → A q := fun q h => by rw [← hAe]; exact Or.inr h
  have hP : va_P (dC, dI) vwCl [(h0, .inr (13, zs)), (qf73, .inl (cf73, 6200, .inl f73)), (qf74, .inl (cf74, 6200, .inl f74)), (qf75, .inl (cf75, 6200, .inl f75)), (qf76, .inl (cf76, 6200, .inl f76)), (qf77, .inl (cf77, 60000, .inl f77)), (qf69, .inl (cf69, 3000, .inl f69)), (qf49, .inl (cf49, 3000, .inl f49))] s.heap := hP
  have hl := lv_entry ([.ref h0, .int a1]) (n := 5) (Nat.le_of_ble_eq_true rfl)
  rw [lg_entry_eq]
  generalize (lg_sl ([.ref h0, .int a1]) ++ List.replicate (5 - (lg_sl ([.ref h0, .int a1])).length) Slot.unset).toArray = ls at hl ⊢
  have hl : lv_has ls 5 [(0, .ref h0), (1, .int a1)] := hl
  obtain ⟨H, hH⟩ : ∃ H : Heap, s.heap = H := ⟨_, rfl⟩
  rw [hH] at hP ⊢
  have hS : va_S A s.heap H [] := by rw [← hH]; exact va_S.rf
  obtain ⟨locs, hlo⟩ : ∃ locs : List Loc, locs = [] := ⟨_, rfl⟩
  rw [← hlo] at hS ⊢
  have hrs0 : ∀ j : Nat, j ≠ 78 → j ≠ 79 → zs[j]? = zs[j]? := fun _ _ _  => rfl
  unfold sp_vm_frame at hsp
  refine jn_use (α := Heap × List Loc × Array Slot × List Value × Int32 × (Nat → Int32) × (Nat → Int32) × (Nat → Int32) × (Nat → Int32) × (Nat → Int32) × Int32 × Int32) (fun x9 => x9.1) (fun x9 => x9.2.1) (fun x9 => F0 m 150 x9.2.2.1 []) (fun x9 => match x9 with | (H, locs, ls, z150, l3_150, g73_150, g74_150, g75_150, g76_150, g77_150, x78_150, x79_150) => lv_has ls 5 [(0, .ref h0), (3, .int l3_150)] ∧ va_S A s.heap H locs ∧ va_D A [(h0, .inr (13, z150)), (qf73, .inl (cf73, 6200, .inl g73_150)), (qf74, .inl (cf74, 6200, .inl g74_150)), (qf75, .inl (cf75, 6200, .inl g75_150)), (qf76, .inl (cf76, 6200, .inl g76_150)), (qf77, .inl (cf77, 60000, .inl g77_150)), (qf69, .inl (cf69, 3000, .inl f69)), (qf49, .inl (cf49, 3000, .inl f49))] ∧ va_P (dC, dI) vwCl [(h0, .inr (13, z150)), (qf73, .inl (cf73, 6200, .inl g73_150)), (qf74, .inl (cf74, 6200, .inl g74_150)), (qf75, .inl (cf75, 6200, .inl g75_150)), (qf76, .inl (cf76, 6200, .inl g76_150)), (qf77, .inl (cf77, 60000, .inl g77_150)), (qf69, .inl (cf69, 3000, .inl f69)), (qf49, .inl (cf49, 3000, .inl f49))] H ∧ z150[49]? = some (.ref qf49) ∧ z150[50]? = some (.int v50) ∧ z150[52]? = some (.int v52) ∧ z150[53]? = some (.int v53) ∧ z150[69]? = some (.ref qf69) ∧ z150[70]? = some (.int v70) ∧ z150[73]? = some (.ref qf73) ∧ z150[74]? = some (.ref qf74) ∧ z150[75]? = some (.ref qf75) ∧ z150[76]? = some (.ref qf76) ∧ z150[77]? = some (.ref qf77) ∧ z150[78]? = some (.int x78_150) ∧ z150[79]? = some (.int x79_150) ∧ z150.length = 155 ∧ (∀ j : Nat, j ≠ 78 → j ≠ 79 → z150[j]? = zs[j]?) ∧ jn_vm_frame_150 nf a1 v50 v52 v53 v70 v78 v79 f73 f74 f75 f76 f77 f69 f49 l3_150 g73_150 g74_150 g75_150 g76_150 g77_150 x78_150 x79_150 = some (o73, o74, o75, o76, o77, w78, w79)) ?_ ?_
  · intro x9 hJ9
    obtain ⟨H, locs, ls, z150, l3_150, g73_150, g74_150, g75_150, g76_150, g77_150, x78_150, x79_150⟩ := x9
    obtain ⟨hl, hS, hD, hP, hfh_150_49, hfh_150_50, hfh_150_52, hfh_150_53, hfh_150_69, hfh_150_70, hfh_150_73, hfh_150_74, hfh_150_75, hfh_150_76, hfh_150_77, hfh_150_78, hfh_150_79, hlh_150, hrh_150, hsp⟩ := hJ9
    replace hl : lv_has ls 5 [(0, .ref h0), (3, .int l3_150)] := hl
    replace hS : va_S A s.heap H locs := hS
    replace hD : va_D A [(h0, .inr (13, z150)), (qf73, .inl (cf73, 6200, .inl g73_150)), (qf74, .inl (cf74, 6200, .inl g74_150)), (qf75, .inl (cf75, 6200, .inl g75_150)), (qf76, .inl (cf76, 6200, .inl g76_150)), (qf77, .inl (cf77, 60000, .inl g77_150)), (qf69, .inl (cf69, 3000, .inl f69)), (qf49, .inl (cf49, 3000, .inl f49))] := hD
    replace hP : va_P (dC, dI) vwCl [(h0, .inr (13, z150)), (qf73, .inl (cf73, 6200, .inl g73_150)), (qf74, .inl (cf74, 6200, .inl g74_150)), (qf75, .inl (cf75, 6200, .inl g75_150)), (qf76, .inl (cf76, 6200, .inl g76_150)), (qf77, .inl (cf77, 60000, .inl g77_150)), (qf69, .inl (cf69, 3000, .inl f69)), (qf49, .inl (cf49, 3000, .inl f49))] H := hP
    replace hsp : jn_vm_frame_150 nf a1 v50 v52 v53 v70 v78 v79 f73 f74 f75 f76 f77 f69 f49 l3_150 g73_150 g74_150 g75_150 g76_150 g77_150 x78_150 x79_150 = some (o73, o74, o75, o76, o77, w78, w79) := hsp
    show W _ _ _ _ _ _ _ _ _ _ H locs _ _ _ (F0 m 150 ls [])
    unfold jn_vm_frame_150 at hsp
    try dsimp only at hsp
    refine lv_iconst (v := 0) hx hb dX13_frame_150 (by decide) ?_
    refine lv_istore (lv' := [(4, .int 0), (0, .ref h0), (3, .int l3_150)]) hx hb dX13_frame_151 hl (by decide) rfl (fun ls hl => ?_)
    replace hl : lv_has ls 5 [(4, .int 0), (0, .ref h0), (3, .int l3_150)] := lv_sub hl [0, 1, 2] rfl
    replace hP := hP.sub (ws' := [(h0, .inr (13, z150)), (qf73, .inl (cf73, 6200, .inl g73_150)), (qf74, .inl (cf74, 6200, .inl g74_150)), (qf75, .inl (cf75, 6200, .inl g75_150)), (qf76, .inl (cf76, 6200, .inl g76_150)), (qf77, .inl (cf77, 60000, .inl g77_150)), (qf69, .inl (cf69, 3000, .inl f69)), (qf49, .inl (cf49, 3000, .inl f49))]) [0, 1, 2, 3, 4, 5, 6, 7] rfl
    replace hD := hD.sub (ws' := [(h0, .inr (13, z150)), (qf73, .inl (cf73, 6200, .inl g73_150)), (qf74, .inl (cf74, 6200, .inl g74_150)), (qf75, .inl (cf75, 6200, .inl g75_150)), (qf76, .inl (cf76, 6200, .inl g76_150)), (qf77, .inl (cf77, 60000, .inl g77_150)), (qf69, .inl (cf69, 3000, .inl f69)), (qf49, .inl (cf49, 3000, .inl f49))]) [0, 1, 2, 3, 4, 5, 6, 7] (by decide) rfl
    replace hK := hK.sub (tys' := [(cf73, .int), (cf74, .int), (cf75, .int), (cf76, .int), (cf77, .int), (cf69, .int), (cf49, .int)]) [0, 1, 2, 3, 4, 5, 6] rfl
    obtain ⟨n_153, hn_153⟩ : ∃ z : Nat, z = nf := ⟨_, rfl⟩
    obtain ⟨l3_153, el3_153⟩ : ∃ z : Int32, z = l3_150 := ⟨_, rfl⟩
    obtain ⟨l4_153, el4_153⟩ : ∃ z : Int32, z = 0 := ⟨_, rfl⟩
    obtain ⟨g73_153, eg73_153⟩ : ∃ z : Nat → Int32, z = g73_150 := ⟨_, rfl⟩
    obtain ⟨g74_153, eg74_153⟩ : ∃ z : Nat → Int32, z = g74_150 := ⟨_, rfl⟩
    obtain ⟨g75_153, eg75_153⟩ : ∃ z : Nat → Int32, z = g75_150 := ⟨_, rfl⟩
    obtain ⟨g76_153, eg76_153⟩ : ∃ z : Nat → Int32, z = g76_150 := ⟨_, rfl⟩
    obtain ⟨g77_153, eg77_153⟩ : ∃ z : Nat → Int32, z = g77_150 := ⟨_, rfl⟩
    obtain ⟨x78_153, ex78_153⟩ : ∃ z : Int32, z = x78_150 := ⟨_, rfl⟩
    obtain ⟨x79_153, ex79_153⟩ : ∃ z : Int32, z = x79_150 := ⟨_, rfl⟩
    replace hsp : lp_vm_frame_153 nf n_153 a1 v50 v52 v53 v70 v78 v79 f73 f74 f75 f76 f77 f69 f49 l3_153 l4_153 g73_153 g74_153 g75_153 g76_153 g77_153 x78_153 x79_153 = some (o73, o74, o75, o76, o77, w78, w79) := by rw [hn_153, el3_153, el4_153, eg73_153, eg74_153, eg75_153, eg76_153, eg77_153, ex78_153, ex79_153]; exact hsp
    replace hl : lv_has ls 5 [(4, .int l4_153), (0, .ref h0), (3, .int l3_153)] := by rw [el3_153, el4_153]; exact hl
    obtain ⟨z153, ez153⟩ : ∃ z : List Value, z = z150 := ⟨_, rfl⟩
    have hfh_153_49 : z153[49]? = some (.ref qf49) := by rw [ez153]; exact hfh_150_49
    have hfh_153_50 : z153[50]? = some (.int v50) := by rw [ez153]; exact hfh_150_50
    have hfh_153_52 : z153[52]? = some (.int v52) := by rw [ez153]; exact hfh_150_52
    have hfh_153_53 : z153[53]? = some (.int v53) := by rw [ez153]; exact hfh_150_53
    have hfh_153_69 : z153[69]? = some (.ref qf69) := by rw [ez153]; exact hfh_150_69
    have hfh_153_70 : z153[70]? = some (.int v70) := by rw [ez153]; exact hfh_150_70
    have hfh_153_73 : z153[73]? = some (.ref qf73) := by rw [ez153]; exact hfh_150_73
    have hfh_153_74 : z153[74]? = some (.ref qf74) := by rw [ez153]; exact hfh_150_74
    have hfh_153_75 : z153[75]? = some (.ref qf75) := by rw [ez153]; exact hfh_150_75
    have hfh_153_76 : z153[76]? = some (.ref qf76) := by rw [ez153]; exact hfh_150_76
    have hfh_153_77 : z153[77]? = some (.ref qf77) := by rw [ez153]; exact hfh_150_77
    have hfh_153_78 : z153[78]? = some (.int x78_153) := by rw [ez153, ex78_153]; exact hfh_150_78
    have hfh_153_79 : z153[79]? = some (.int x79_153) := by rw [ez153, ex79_153]; exact hfh_150_79
    have hlh_153 : z153.length = 155 := by rw [ez153]; exact hlh_150
    have hrh_153 : ∀ j : Nat, j ≠ 78 → j ≠ 79 → z153[j]? = zs[j]? := by rw [ez153]; exact hrh_150
    replace hP : va_P (dC, dI) vwCl [(h0, .inr (13, z153)), (qf73, .inl (cf73, 6200, .inl g73_153)), (qf74, .inl (cf74, 6200, .inl g74_153)), (qf75, .inl (cf75, 6200, .inl g75_153)), (qf76, .inl (cf76, 6200, .inl g76_153)), (qf77, .inl (cf77, 60000, .inl g77_153)), (qf69, .inl (cf69, 3000, .inl f69)), (qf49, .inl (cf49, 3000, .inl f49))] H := by rw [ez153, eg73_153, eg74_153, eg75_153, eg76_153, eg77_153]; exact hP
    replace hD : va_D A [(h0, .inr (13, z153)), (qf73, .inl (cf73, 6200, .inl g73_153)), (qf74, .inl (cf74, 6200, .inl g74_153)), (qf75, .inl (cf75, 6200, .inl g75_153)), (qf76, .inl (cf76, 6200, .inl g76_153)), (qf77, .inl (cf77, 60000, .inl g77_153)), (qf69, .inl (cf69, 3000, .inl f69)), (qf49, .inl (cf49, 3000, .inl f49))] := by rw [ez153, eg73_153, eg74_153, eg75_153, eg76_153, eg77_153]; exact hD
    clear hn_153 ez153 el3_153 el4_153 eg73_153 eg74_153 eg75_153 eg76_153 eg77_153 ex78_153 ex79_153
    try clear hlo
    try clear hH
    revert hsp
    revert hP
    revert hD
    revert hS
    revert hl
    revert hrh_153
    revert hlh_153
    revert hfh_153_79
    revert hfh_153_78
    revert hfh_153_77
    revert hfh_153_76
    revert hfh_153_75
    revert hfh_153_74
    revert hfh_153_73
    revert hfh_153_70
    revert hfh_153_69
    revert hfh_153_53
    revert hfh_153_52
    revert hfh_153_50
    revert hfh_153_49
    revert x79_153
    revert x78_153
    revert g77_153
    revert g76_153
    revert g75_153
    revert g74_153
    revert g73_153
    revert l4_153
    revert l3_153
    revert z153
    revert ls
    revert locs
    revert H
    induction n_153 with
    | zero => intro H locs ls z153 l3_153 l4_153 g73_153 g74_153 g75_153 g76_153 g77_153 x78_153 x79_153 hfh_153_49 hfh_153_50 hfh_153_52 hfh_153_53 hfh_153_69 hfh_153_70 hfh_153_73 hfh_153_74 hfh_153_75 hfh_153_76 hfh_153_77 hfh_153_78 hfh_153_79 hlh_153 hrh_153 hl hS hD hP hsp; unfold lp_vm_frame_153 at hsp; cases hsp
    | succ n_153 ih_153 =>
      intro H locs ls z153 l3_153 l4_153 g73_153 g74_153 g75_153 g76_153 g77_153 x78_153 x79_153 hfh_153_49 hfh_153_50 hfh_153_52 hfh_153_53 hfh_153_69 hfh_153_70 hfh_153_73 hfh_153_74 hfh_153_75 hfh_153_76 hfh_153_77 hfh_153_78 hfh_153_79 hlh_153 hrh_153 hl hS hD hP hsp
      unfold lp_vm_frame_153 at hsp
      try dsimp only at hsp
      refine lv_iload hx hb dX13_frame_153 (lv_at hl 0 rfl) ?_
      refine lv_aload_n hx hb dX13_frame_155 rfl (lv_at hl 1 rfl) ?_
      refine va_get (D := (dC, dI)) (ci := 13) (v := .int v50) (C := RX13) (T := TX13) (N := 155) hx hb hts uV_h9_X13 hown hK hP 0 rfl rfl 50 (by decide) (hts (.fieldLink RX13 513 "ClassMillModel" "sight" "I") mw_h9_171) (fun _ h9 => h9) hfh_153_50 dX13_frame_156 ?_
      refine lv_icmp_ge (tgt := 189) hx hb dX13_frame_159 (by decide) (fun c_15 => ?_) (fun c_15 => ?_)
      · rw [if_pos c_15] at hsp
        refine lv_iconst (v := 0) hx hb dX13_frame_189 (by decide) ?_
        refine lv_istore (lv' := [(4, .int 0), (0, .ref h0), (3, .int l3_153)]) hx hb dX13_frame_190 hl (by decide) rfl (fun ls hl => ?_)
        replace hl : lv_has ls 5 [(4, .int 0), (0, .ref h0), (3, .int l3_153)] := lv_sub hl [0, 1, 2] rfl
        replace hP := hP.sub (ws' := [(h0, .inr (13, z153)), (qf73, .inl (cf73, 6200, .inl g73_153)), (qf74, .inl (cf74, 6200, .inl g74_153)), (qf75, .inl (cf75, 6200, .inl g75_153)), (qf76, .inl (cf76, 6200, .inl g76_153)), (qf77, .inl (cf77, 60000, .inl g77_153)), (qf69, .inl (cf69, 3000, .inl f69)), (qf49, .inl (cf49, 3000, .inl f49))]) [0, 1, 2, 3, 4, 5, 6, 7] rfl
        replace hD := hD.sub (ws' := [(h0, .inr (13, z153)), (qf73, .inl (cf73, 6200, .inl g73_153)), (qf74, .inl (cf74, 6200, .inl g74_153)), (qf75, .inl (cf75, 6200, .inl g75_153)), (qf76, .inl (cf76, 6200, .inl g76_153)), (qf77, .inl (cf77, 60000, .inl g77_153)), (qf69, .inl (cf69, 3000, .inl f69)), (qf49, .inl (cf49, 3000, .inl f49))]) [0, 1, 2, 3, 4, 5, 6, 7] (by decide) rfl
        replace hK := hK.sub (tys' := [(cf73, .int), (cf74, .int), (cf75, .int), (cf76, .int), (cf77, .int), (cf69, .int), (cf49, .int)]) [0, 1, 2, 3, 4, 5, 6] rfl
        obtain ⟨n_192, hn_192⟩ : ∃ z : Nat, z = nf := ⟨_, rfl⟩
        obtain ⟨l3_192, el3_192⟩ : ∃ z : Int32, z = l3_153 := ⟨_, rfl⟩
        obtain ⟨l4_192, el4_192⟩ : ∃ z : Int32, z = 0 := ⟨_, rfl⟩
        obtain ⟨g73_192, eg73_192⟩ : ∃ z : Nat → Int32, z = g73_153 := ⟨_, rfl⟩
        obtain ⟨g74_192, eg74_192⟩ : ∃ z : Nat → Int32, z = g74_153 := ⟨_, rfl⟩
        obtain ⟨g75_192, eg75_192⟩ : ∃ z : Nat → Int32, z = g75_153 := ⟨_, rfl⟩
        obtain ⟨g76_192, eg76_192⟩ : ∃ z : Nat → Int32, z = g76_153 := ⟨_, rfl⟩
        obtain ⟨g77_192, eg77_192⟩ : ∃ z : Nat → Int32, z = g77_153 := ⟨_, rfl⟩
        obtain ⟨x78_192, ex78_192⟩ : ∃ z : Int32, z = x78_153 := ⟨_, rfl⟩
        obtain ⟨x79_192, ex79_192⟩ : ∃ z : Int32, z = x79_153 := ⟨_, rfl⟩
        replace hsp : lp_vm_frame_192 nf n_192 a1 v50 v52 v53 v70 v78 v79 f73 f74 f75 f76 f77 f69 f49 l3_192 l4_192 g73_192 g74_192 g75_192 g76_192 g77_192 x78_192 x79_192 = some (o73, o74, o75, o76, o77, w78, w79) := by rw [hn_192, el3_192, el4_192, eg73_192, eg74_192, eg75_192, eg76_192, eg77_192, ex78_192, ex79_192]; exact hsp
        replace hl : lv_has ls 5 [(4, .int l4_192), (0, .ref h0), (3, .int l3_192)] := by rw [el3_192, el4_192]; exact hl
        obtain ⟨z192, ez192⟩ : ∃ z : List Value, z = z153 := ⟨_, rfl⟩
        have hfh_192_49 : z192[49]? = some (.ref qf49) := by rw [ez192]; exact hfh_153_49
        have hfh_192_50 : z192[50]? = some (.int v50) := by rw [ez192]; exact hfh_153_50
        have hfh_192_52 : z192[52]? = some (.int v52) := by rw [ez192]; exact hfh_153_52
        have hfh_192_53 : z192[53]? = some (.int v53) := by rw [ez192]; exact hfh_153_53
        have hfh_192_69 : z192[69]? = some (.ref qf69) := by rw [ez192]; exact hfh_153_69
        have hfh_192_70 : z192[70]? = some (.int v70) := by rw [ez192]; exact hfh_153_70
        have hfh_192_73 : z192[73]? = some (.ref qf73) := by rw [ez192]; exact hfh_153_73
        have hfh_192_74 : z192[74]? = some (.ref qf74) := by rw [ez192]; exact hfh_153_74
        have hfh_192_75 : z192[75]? = some (.ref qf75) := by rw [ez192]; exact hfh_153_75
        have hfh_192_76 : z192[76]? = some (.ref qf76) := by rw [ez192]; exact hfh_153_76
        have hfh_192_77 : z192[77]? = some (.ref qf77) := by rw [ez192]; exact hfh_153_77
        have hfh_192_78 : z192[78]? = some (.int x78_192) := by rw [ez192, ex78_192]; exact hfh_153_78
        have hfh_192_79 : z192[79]? = some (.int x79_192) := by rw [ez192, ex79_192]; exact hfh_153_79
        have hlh_192 : z192.length = 155 := by rw [ez192]; exact hlh_153
        have hrh_192 : ∀ j : Nat, j ≠ 78 → j ≠ 79 → z192[j]? = zs[j]? := by rw [ez192]; exact hrh_153
        replace hP : va_P (dC, dI) vwCl [(h0, .inr (13, z192)), (qf73, .inl (cf73, 6200, .inl g73_192)), (qf74, .inl (cf74, 6200, .inl g74_192)), (qf75, .inl (cf75, 6200, .inl g75_192)), (qf76, .inl (cf76, 6200, .inl g76_192)), (qf77, .inl (cf77, 60000, .inl g77_192)), (qf69, .inl (cf69, 3000, .inl f69)), (qf49, .inl (cf49, 3000, .inl f49))] H := by rw [ez192, eg73_192, eg74_192, eg75_192, eg76_192, eg77_192]; exact hP
        replace hD : va_D A [(h0, .inr (13, z192)), (qf73, .inl (cf73, 6200, .inl g73_192)), (qf74, .inl (cf74, 6200, .inl g74_192)), (qf75, .inl (cf75, 6200, .inl g75_192)), (qf76, .inl (cf76, 6200, .inl g76_192)), (qf77, .inl (cf77, 60000, .inl g77_192)), (qf69, .inl (cf69, 3000, .inl f69)), (qf49, .inl (cf49, 3000, .inl f49))] := by rw [ez192, eg73_192, eg74_192, eg75_192, eg76_192, eg77_192]; exact hD
        clear hn_192 ez192 el3_192 el4_192 eg73_192 eg74_192 eg75_192 eg76_192 eg77_192 ex78_192 ex79_192
        try clear hlo
        try clear hH
        revert hsp
        revert hP
        revert hD
        revert hS
        revert hl
        revert hrh_192
        revert hlh_192
        revert hfh_192_79
        revert hfh_192_78
        revert hfh_192_77
        revert hfh_192_76
        revert hfh_192_75
        revert hfh_192_74
        revert hfh_192_73
        revert hfh_192_70
        revert hfh_192_69
        revert hfh_192_53
        revert hfh_192_52
        revert hfh_192_50
        revert hfh_192_49
        revert x79_192
        revert x78_192
        revert g77_192
        revert g76_192
        revert g75_192
        revert g74_192
        revert g73_192
        revert l4_192
        revert l3_192
        revert z192
        revert ls
        revert locs
        revert H
        induction n_192 with
        | zero => intro H locs ls z192 l3_192 l4_192 g73_192 g74_192 g75_192 g76_192 g77_192 x78_192 x79_192 hfh_192_49 hfh_192_50 hfh_192_52 hfh_192_53 hfh_192_69 hfh_192_70 hfh_192_73 hfh_192_74 hfh_192_75 hfh_192_76 hfh_192_77 hfh_192_78 hfh_192_79 hlh_192 hrh_192 hl hS hD hP hsp; unfold lp_vm_frame_192 at hsp; cases hsp
        | succ n_192 ih_192 =>
          intro H locs ls z192 l3_192 l4_192 g73_192 g74_192 g75_192 g76_192 g77_192 x78_192 x79_192 hfh_192_49 hfh_192_50 hfh_192_52 hfh_192_53 hfh_192_69 hfh_192_70 hfh_192_73 hfh_192_74 hfh_192_75 hfh_192_76 hfh_192_77 hfh_192_78 hfh_192_79 hlh_192 hrh_192 hl hS hD hP hsp
          unfold lp_vm_frame_192 at hsp
          try dsimp only at hsp
          refine lv_iload hx hb dX13_frame_192 (lv_at hl 0 rfl) ?_
          refine lv_aload_n hx hb dX13_frame_194 rfl (lv_at hl 1 rfl) ?_
          refine va_get (D := (dC, dI)) (ci := 13) (v := .int v70) (C := RX13) (T := TX13) (N := 155) hx hb hts uV_h9_X13 hown hK hP 0 rfl rfl 70 (by decide) (hts (.fieldLink RX13 629 "ClassMillModel" "piled" "I") mw_h9_172) (fun _ h9 => h9) hfh_192_70 dX13_frame_195 ?_
          refine lv_icmp_ge (tgt := 233) hx hb dX13_frame_198 (by decide) (fun c_16 => ?_) (fun c_16 => ?_)
          · rw [if_pos c_16] at hsp
            refine lv_aload_n hx hb dX13_frame_233 rfl (lv_at hl 1 rfl) ?_
            refine lv_dup hx hb dX13_frame_234 rfl ?_
            refine va_get (D := (dC, dI)) (ci := 13) (v := .int x79_192) (C := RX13) (T := TX13) (N := 155) hx hb hts uV_h9_X13 hown hK hP 0 rfl rfl 79 (by decide) (hts (.fieldLink RX13 655 "ClassMillModel" "frameWords" "I") mw_h9_173) (fun _ h9 => h9) hfh_192_79 dX13_frame_235 ?_
            refine lv_iload_n hx hb dX13_frame_238 rfl (lv_at hl 2 rfl) ?_
            refine lv_aload_n hx hb dX13_frame_239 rfl (lv_at hl 1 rfl) ?_
            refine va_get (D := (dC, dI)) (ci := 13) (v := .int v50) (C := RX13) (T := TX13) (N := 155) hx hb hts uV_h9_X13 hown hK hP 0 rfl rfl 50 (by decide) (hts (.fieldLink RX13 513 "ClassMillModel" "sight" "I") mw_h9_171) (fun _ h9 => h9) hfh_192_50 dX13_frame_240 ?_
            refine lv_iadd hx hb dX13_frame_243 ?_
            refine lv_aload_n hx hb dX13_frame_244 rfl (lv_at hl 1 rfl) ?_
            refine va_get (D := (dC, dI)) (ci := 13) (v := .int v70) (C := RX13) (T := TX13) (N := 155) hx hb hts uV_h9_X13 hown hK hP 0 rfl rfl 70 (by decide) (hts (.fieldLink RX13 629 "ClassMillModel" "piled" "I") mw_h9_172) (fun _ h9 => h9) hfh_192_70 dX13_frame_245 ?_
            refine lv_iadd hx hb dX13_frame_248 ?_
            refine lv_iadd hx hb dX13_frame_249 ?_
            refine va_put (D := (dC, dI)) (ci := 13) (v := .int (x79_192 + ((l3_192 + v50) + v70))) (ty := .int) (C := RX13) (T := TX13) (N := 155) hx hb hts uV_h9_X13 tyX13 tyX13_ok nmX13 hown hK hP hD hS 0 rfl rfl 79 (by decide) (hts (.fieldLink RX13 655 "ClassMillModel" "frameWords" "I") mw_h9_173) (fun _ h9 => h9) rfl (by decide +kernel) rfl rfl (by rw [hlh_192]; decide) dX13_frame_250 ?_
            clear hP hD hS
            intro H locs hP hD hS
            obtain ⟨fs_17, efs_17⟩ : ∃ zf : List Value, zf = z192.set 79 (.int (x79_192 + ((l3_192 + v50) + v70))) := ⟨_, rfl⟩
            rw [← efs_17] at hP hD
            have hlfs_17 : fs_17.length = 155 := by rw [efs_17, List.length_set]; exact hlh_192
            have hfs_17_49 : fs_17[49]? = some (.ref qf49) := by rw [efs_17, List.getElem?_set_ne (by decide)]; exact hfh_192_49
            have hfs_17_50 : fs_17[50]? = some (.int v50) := by rw [efs_17, List.getElem?_set_ne (by decide)]; exact hfh_192_50
            have hfs_17_52 : fs_17[52]? = some (.int v52) := by rw [efs_17, List.getElem?_set_ne (by decide)]; exact hfh_192_52
            have hfs_17_53 : fs_17[53]? = some (.int v53) := by rw [efs_17, List.getElem?_set_ne (by decide)]; exact hfh_192_53
            have hfs_17_69 : fs_17[69]? = some (.ref qf69) := by rw [efs_17, List.getElem?_set_ne (by decide)]; exact hfh_192_69
            have hfs_17_70 : fs_17[70]? = some (.int v70) := by rw [efs_17, List.getElem?_set_ne (by decide)]; exact hfh_192_70
            have hfs_17_73 : fs_17[73]? = some (.ref qf73) := by rw [efs_17, List.getElem?_set_ne (by decide)]; exact hfh_192_73
            have hfs_17_74 : fs_17[74]? = some (.ref qf74) := by rw [efs_17, List.getElem?_set_ne (by decide)]; exact hfh_192_74
            have hfs_17_75 : fs_17[75]? = some (.ref qf75) := by rw [efs_17, List.getElem?_set_ne (by decide)]; exact hfh_192_75
            have hfs_17_76 : fs_17[76]? = some (.ref qf76) := by rw [efs_17, List.getElem?_set_ne (by decide)]; exact hfh_192_76
            have hfs_17_77 : fs_17[77]? = some (.ref qf77) := by rw [efs_17, List.getElem?_set_ne (by decide)]; exact hfh_192_77
            have hfs_17_78 : fs_17[78]? = some (.int x78_192) := by rw [efs_17, List.getElem?_set_ne (by decide)]; exact hfh_192_78
            have hfs_17_79 : fs_17[79]? = some (.int (x79_192 + ((l3_192 + v50) + v70))) := by rw [efs_17, List.getElem?_set_self (by rw [hlh_192]; decide)]
            replace hP : va_P (dC, dI) vwCl [(h0, .inr (13, fs_17)), (qf73, .inl (cf73, 6200, .inl g73_192)), (qf74, .inl (cf74, 6200, .inl g74_192)), (qf75, .inl (cf75, 6200, .inl g75_192)), (qf76, .inl (cf76, 6200, .inl g76_192)), (qf77, .inl (cf77, 60000, .inl g77_192)), (qf69, .inl (cf69, 3000, .inl f69)), (qf49, .inl (cf49, 3000, .inl f49))] H := hP
            replace hD : va_D A [(h0, .inr (13, fs_17)), (qf73, .inl (cf73, 6200, .inl g73_192)), (qf74, .inl (cf74, 6200, .inl g74_192)), (qf75, .inl (cf75, 6200, .inl g75_192)), (qf76, .inl (cf76, 6200, .inl g76_192)), (qf77, .inl (cf77, 60000, .inl g77_192)), (qf69, .inl (cf69, 3000, .inl f69)), (qf49, .inl (cf49, 3000, .inl f49))] := hD
            have hrs_18 : ∀ j : Nat, j ≠ 78 → j ≠ 79 → fs_17[j]? = zs[j]? := fun j g78 g79 => ((congrArg (fun z : List Value => z[j]?) efs_17).trans (List.getElem?_set_ne (Ne.symm g79))).trans (hrh_192 j g78 g79)
            have hr0 := Option.some.inj hsp
            clear hsp
            obtain ⟨hq0, hr1⟩ := Prod.mk.inj hr0
            clear hr0
            obtain ⟨hq1, hr2⟩ := Prod.mk.inj hr1
            clear hr1
            obtain ⟨hq2, hr3⟩ := Prod.mk.inj hr2
            clear hr2
            obtain ⟨hq3, hr4⟩ := Prod.mk.inj hr3
            clear hr3
            obtain ⟨hq4, hr5⟩ := Prod.mk.inj hr4
            clear hr4
            obtain ⟨hq5, hr6⟩ := Prod.mk.inj hr5
            clear hr5
            subst hq0
            subst hq1
            subst hq2
            subst hq3
            subst hq4
            subst hq5
            subst hr6
            have hP9 := hP.sub (ws' := [(h0, .inr (13, fs_17)), (qf73, .inl (cf73, 6200, .inl g73_192)), (qf74, .inl (cf74, 6200, .inl g74_192)), (qf75, .inl (cf75, 6200, .inl g75_192)), (qf76, .inl (cf76, 6200, .inl g76_192)), (qf77, .inl (cf77, 60000, .inl g77_192)), (qf69, .inl (cf69, 3000, .inl f69)), (qf49, .inl (cf49, 3000, .inl f49))]) [0, 1, 2, 3, 4, 5, 6, 7] rfl
            have hD9 := hD.sub (ws' := [(h0, .inr (13, fs_17)), (qf73, .inl (cf73, 6200, .inl g73_192)), (qf74, .inl (cf74, 6200, .inl g74_192)), (qf75, .inl (cf75, 6200, .inl g75_192)), (qf76, .inl (cf76, 6200, .inl g76_192)), (qf77, .inl (cf77, 60000, .inl g77_192)), (qf69, .inl (cf69, 3000, .inl f69)), (qf49, .inl (cf49, 3000, .inl f49))]) [0, 1, 2, 3, 4, 5, 6, 7] (by decide) rfl
            have hK9 := hK.sub (tys' := [(cf73, .int), (cf74, .int), (cf75, .int), (cf76, .int), (cf77, .int), (cf69, .int), (cf49, .int)]) [0, 1, 2, 3, 4, 5, 6] rfl
            exact W.vret hx hb hr (fun t ht hW => ⟨⟨(fs_17), rfl, ⟨trivial, hlfs_17, hrs_18, hfs_17_78, hfs_17_79⟩, by rw [ht]; exact hP9, va_K.moved hW.alike hK9, hD9⟩, hS.F ht⟩) hS.2.2 dX13_frame_253
          · rw [if_neg c_16] at hsp
            refine lv_aload_n hx hb dX13_frame_201 rfl (lv_at hl 1 rfl) ?_
            refine va_get (D := (dC, dI)) (ci := 13) (v := .ref qf77) (C := RX13) (T := TX13) (N := 155) hx hb hts uV_h9_X13 hown hK hP 0 rfl rfl 77 (by decide) (hts (.fieldLink RX13 166 "ClassMillModel" "frameTypes" "[I") mw_h9_174) (fun _ h9 => h9) hfh_192_77 dX13_frame_202 ?_
            refine lv_aload_n hx hb dX13_frame_205 rfl (lv_at hl 1 rfl) ?_
            refine va_get (D := (dC, dI)) (ci := 13) (v := .int x79_192) (C := RX13) (T := TX13) (N := 155) hx hb hts uV_h9_X13 hown hK hP 0 rfl rfl 79 (by decide) (hts (.fieldLink RX13 655 "ClassMillModel" "frameWords" "I") mw_h9_173) (fun _ h9 => h9) hfh_192_79 dX13_frame_206 ?_
            refine lv_iload_n hx hb dX13_frame_209 rfl (lv_at hl 2 rfl) ?_
            refine lv_iadd hx hb dX13_frame_210 ?_
            refine lv_aload_n hx hb dX13_frame_211 rfl (lv_at hl 1 rfl) ?_
            refine va_get (D := (dC, dI)) (ci := 13) (v := .int v50) (C := RX13) (T := TX13) (N := 155) hx hb hts uV_h9_X13 hown hK hP 0 rfl rfl 50 (by decide) (hts (.fieldLink RX13 513 "ClassMillModel" "sight" "I") mw_h9_171) (fun _ h9 => h9) hfh_192_50 dX13_frame_212 ?_
            refine lv_iadd hx hb dX13_frame_215 ?_
            refine lv_iload hx hb dX13_frame_216 (lv_at hl 0 rfl) ?_
            refine lv_iadd hx hb dX13_frame_218 ?_
            refine lv_aload_n hx hb dX13_frame_219 rfl (lv_at hl 1 rfl) ?_
            refine va_get (D := (dC, dI)) (ci := 13) (v := .ref qf69) (C := RX13) (T := TX13) (N := 155) hx hb hts uV_h9_X13 hown hK hP 0 rfl rfl 69 (by decide) (hts (.fieldLink RX13 150 "ClassMillModel" "pile" "[I") mw_h9_175) (fun _ h9 => h9) hfh_192_69 dX13_frame_220 ?_
            refine lv_iload hx hb dX13_frame_223 (lv_at hl 0 rfl) ?_
            obtain ⟨hi_19, hsp⟩ := ox_in hsp
            refine va_iald hx hb hK hP 6 5 rfl rfl (i := l4_192) hi_19 dX13_frame_225 ?_
            obtain ⟨hi_20, hsp⟩ := ox_in hsp
            refine va_iast hx hb hK hP hD hS 5 4 rfl rfl (i := (((x79_192 + l3_192) + v50) + l4_192)) (x := (f69 (l4_192 : Int32).toNatClampNeg)) hi_20 dX13_frame_226 ?_
            clear hP hD hS
            intro H locs hP hD hS
            replace hP : va_P (dC, dI) vwCl [(h0, .inr (13, z192)), (qf73, .inl (cf73, 6200, .inl g73_192)), (qf74, .inl (cf74, 6200, .inl g74_192)), (qf75, .inl (cf75, 6200, .inl g75_192)), (qf76, .inl (cf76, 6200, .inl g76_192)), (qf77, .inl (cf77, 60000, .inl (upd g77_192 ((((x79_192 + l3_192) + v50) + l4_192) : Int32).toNatClampNeg (f69 (l4_192 : Int32).toNatClampNeg)))), (qf69, .inl (cf69, 3000, .inl f69)), (qf49, .inl (cf49, 3000, .inl f49))] H := hP
            replace hD : va_D A [(h0, .inr (13, z192)), (qf73, .inl (cf73, 6200, .inl g73_192)), (qf74, .inl (cf74, 6200, .inl g74_192)), (qf75, .inl (cf75, 6200, .inl g75_192)), (qf76, .inl (cf76, 6200, .inl g76_192)), (qf77, .inl (cf77, 60000, .inl (upd g77_192 ((((x79_192 + l3_192) + v50) + l4_192) : Int32).toNatClampNeg (f69 (l4_192 : Int32).toNatClampNeg)))), (qf69, .inl (cf69, 3000, .inl f69)), (qf49, .inl (cf49, 3000, .inl f49))] := hD
            refine lv_iinc (v := (l4_192 + 1)) (lv' := [(4, .int (l4_192 + 1)), (0, .ref h0), (3, .int l3_192)]) hx hb dX13_frame_227 hl (k := 0) rfl rfl (by decide) rfl (fun ls hl => ?_)
            refine lv_goto (tgt := 192) hx hb dX13_frame_230 (by decide) ?_
            exact ih_192 H locs ls z192 l3_192 (l4_192 + 1) g73_192 g74_192 g75_192 g76_192 (upd g77_192 ((((x79_192 + l3_192) + v50) + l4_192) : Int32).toNatClampNeg (f69 (l4_192 : Int32).toNatClampNeg)) x78_192 x79_192 (hfh_192_49) (hfh_192_50) (hfh_192_52) (hfh_192_53) (hfh_192_69) (hfh_192_70) (hfh_192_73) (hfh_192_74) (hfh_192_75) (hfh_192_76) (hfh_192_77) (hfh_192_78) (hfh_192_79) hlh_192 hrh_192 (lv_sub hl [0, 1, 2] rfl) hS (hD.sub (ws' := [(h0, .inr (13, z192)), (qf73, .inl (cf73, 6200, .inl g73_192)), (qf74, .inl (cf74, 6200, .inl g74_192)), (qf75, .inl (cf75, 6200, .inl g75_192)), (qf76, .inl (cf76, 6200, .inl g76_192)), (qf77, .inl (cf77, 60000, .inl (upd g77_192 ((((x79_192 + l3_192) + v50) + l4_192) : Int32).toNatClampNeg (f69 (l4_192 : Int32).toNatClampNeg)))), (qf69, .inl (cf69, 3000, .inl f69)), (qf49, .inl (cf49, 3000, .inl f49))]) [0, 1, 2, 3, 4, 5, 6, 7] (by decide) rfl) (hP.sub (ws' := [(h0, .inr (13, z192)), (qf73, .inl (cf73, 6200, .inl g73_192)), (qf74, .inl (cf74, 6200, .inl g74_192)), (qf75, .inl (cf75, 6200, .inl g75_192)), (qf76, .inl (cf76, 6200, .inl g76_192)), (qf77, .inl (cf77, 60000, .inl (upd g77_192 ((((x79_192 + l3_192) + v50) + l4_192) : Int32).toNatClampNeg (f69 (l4_192 : Int32).toNatClampNeg)))), (qf69, .inl (cf69, 3000, .inl f69)), (qf49, .inl (cf49, 3000, .inl f49))]) [0, 1, 2, 3, 4, 5, 6, 7] rfl) hsp
      · rw [if_neg c_15] at hsp
        refine lv_aload_n hx hb dX13_frame_162 rfl (lv_at hl 1 rfl) ?_
        refine va_get (D := (dC, dI)) (ci := 13) (v := .ref qf77) (C := RX13) (T := TX13) (N := 155) hx hb hts uV_h9_X13 hown hK hP 0 rfl rfl 77 (by decide) (hts (.fieldLink RX13 166 "ClassMillModel" "frameTypes" "[I") mw_h9_174) (fun _ h9 => h9) hfh_153_77 dX13_frame_163 ?_
        refine lv_aload_n hx hb dX13_frame_166 rfl (lv_at hl 1 rfl) ?_
        refine va_get (D := (dC, dI)) (ci := 13) (v := .int x79_153) (C := RX13) (T := TX13) (N := 155) hx hb hts uV_h9_X13 hown hK hP 0 rfl rfl 79 (by decide) (hts (.fieldLink RX13 655 "ClassMillModel" "frameWords" "I") mw_h9_173) (fun _ h9 => h9) hfh_153_79 dX13_frame_167 ?_
        refine lv_iload_n hx hb dX13_frame_170 rfl (lv_at hl 2 rfl) ?_
        refine lv_iadd hx hb dX13_frame_171 ?_
        refine lv_iload hx hb dX13_frame_172 (lv_at hl 0 rfl) ?_
        refine lv_iadd hx hb dX13_frame_174 ?_
        refine lv_aload_n hx hb dX13_frame_175 rfl (lv_at hl 1 rfl) ?_
        refine va_get (D := (dC, dI)) (ci := 13) (v := .ref qf49) (C := RX13) (T := TX13) (N := 155) hx hb hts uV_h9_X13 hown hK hP 0 rfl rfl 49 (by decide) (hts (.fieldLink RX13 119 "ClassMillModel" "sightType" "[I") mw_h9_139) (fun _ h9 => h9) hfh_153_49 dX13_frame_176 ?_
        refine lv_iload hx hb dX13_frame_179 (lv_at hl 0 rfl) ?_
        obtain ⟨hi_21, hsp⟩ := ox_in hsp
        refine va_iald hx hb hK hP 7 6 rfl rfl (i := l4_153) hi_21 dX13_frame_181 ?_
        obtain ⟨hi_22, hsp⟩ := ox_in hsp
        refine va_iast hx hb hK hP hD hS 5 4 rfl rfl (i := ((x79_153 + l3_153) + l4_153)) (x := (f49 (l4_153 : Int32).toNatClampNeg)) hi_22 dX13_frame_182 ?_
        clear hP hD hS
        intro H locs hP hD hS
        replace hP : va_P (dC, dI) vwCl [(h0, .inr (13, z153)), (qf73, .inl (cf73, 6200, .inl g73_153)), (qf74, .inl (cf74, 6200, .inl g74_153)), (qf75, .inl (cf75, 6200, .inl g75_153)), (qf76, .inl (cf76, 6200, .inl g76_153)), (qf77, .inl (cf77, 60000, .inl (upd g77_153 (((x79_153 + l3_153) + l4_153) : Int32).toNatClampNeg (f49 (l4_153 : Int32).toNatClampNeg)))), (qf69, .inl (cf69, 3000, .inl f69)), (qf49, .inl (cf49, 3000, .inl f49))] H := hP
        replace hD : va_D A [(h0, .inr (13, z153)), (qf73, .inl (cf73, 6200, .inl g73_153)), (qf74, .inl (cf74, 6200, .inl g74_153)), (qf75, .inl (cf75, 6200, .inl g75_153)), (qf76, .inl (cf76, 6200, .inl g76_153)), (qf77, .inl (cf77, 60000, .inl (upd g77_153 (((x79_153 + l3_153) + l4_153) : Int32).toNatClampNeg (f49 (l4_153 : Int32).toNatClampNeg)))), (qf69, .inl (cf69, 3000, .inl f69)), (qf49, .inl (cf49, 3000, .inl f49))] := hD
        refine lv_iinc (v := (l4_153 + 1)) (lv' := [(4, .int (l4_153 + 1)), (0, .ref h0), (3, .int l3_153)]) hx hb dX13_frame_183 hl (k := 0) rfl rfl (by decide) rfl (fun ls hl => ?_)
        refine lv_goto (tgt := 153) hx hb dX13_frame_186 (by decide) ?_
        exact ih_153 H locs ls z153 l3_153 (l4_153 + 1) g73_153 g74_153 g75_153 g76_153 (upd g77_153 (((x79_153 + l3_153) + l4_153) : Int32).toNatClampNeg (f49 (l4_153 : Int32).toNatClampNeg)) x78_153 x79_153 (hfh_153_49) (hfh_153_50) (hfh_153_52) (hfh_153_53) (hfh_153_69) (hfh_153_70) (hfh_153_73) (hfh_153_74) (hfh_153_75) (hfh_153_76) (hfh_153_77) (hfh_153_78) (hfh_153_79) hlh_153 hrh_153 (lv_sub hl [0, 1, 2] rfl) hS (hD.sub (ws' := [(h0, .inr (13, z153)), (qf73, .inl (cf73, 6200, .inl g73_153)), (qf74, .inl (cf74, 6200, .inl g74_153)), (qf75, .inl (cf75, 6200, .inl g75_153)), (qf76, .inl (cf76, 6200, .inl g76_153)), (qf77, .inl (cf77, 60000, .inl (upd g77_153 (((x79_153 + l3_153) + l4_153) : Int32).toNatClampNeg (f49 (l4_153 : Int32).toNatClampNeg)))), (qf69, .inl (cf69, 3000, .inl f69)), (qf49, .inl (cf49, 3000, .inl f49))]) [0, 1, 2, 3, 4, 5, 6, 7] (by decide) rfl) (hP.sub (ws' := [(h0, .inr (13, z153)), (qf73, .inl (cf73, 6200, .inl g73_153)), (qf74, .inl (cf74, 6200, .inl g74_153)), (qf75, .inl (cf75, 6200, .inl g75_153)), (qf76, .inl (cf76, 6200, .inl g76_153)), (qf77, .inl (cf77, 60000, .inl (upd g77_153 (((x79_153 + l3_153) + l4_153) : Int32).toNatClampNeg (f49 (l4_153 : Int32).toNatClampNeg)))), (qf69, .inl (cf69, 3000, .inl f69)), (qf49, .inl (cf49, 3000, .inl f49))]) [0, 1, 2, 3, 4, 5, 6, 7] rfl) hsp
  intro hj_150
  refine jn_use (α := Heap × List Loc × Array Slot × List Value × Int32 × Int32 × (Nat → Int32) × (Nat → Int32) × (Nat → Int32) × (Nat → Int32) × (Nat → Int32) × Int32 × Int32) (fun x9 => x9.1) (fun x9 => x9.2.1) (fun x9 => F0 m 80 x9.2.2.1 [.int (x9.2.2.2.2.2.1)]) (fun x9 => match x9 with | (H, locs, ls, z80, l2_80, s0_80, g73_80, g74_80, g75_80, g76_80, g77_80, x78_80, x79_80) => lv_has ls 5 [(0, .ref h0), (2, .int l2_80)] ∧ va_S A s.heap H locs ∧ va_D A [(h0, .inr (13, z80)), (qf73, .inl (cf73, 6200, .inl g73_80)), (qf74, .inl (cf74, 6200, .inl g74_80)), (qf75, .inl (cf75, 6200, .inl g75_80)), (qf76, .inl (cf76, 6200, .inl g76_80)), (qf77, .inl (cf77, 60000, .inl g77_80)), (qf69, .inl (cf69, 3000, .inl f69)), (qf49, .inl (cf49, 3000, .inl f49))] ∧ va_P (dC, dI) vwCl [(h0, .inr (13, z80)), (qf73, .inl (cf73, 6200, .inl g73_80)), (qf74, .inl (cf74, 6200, .inl g74_80)), (qf75, .inl (cf75, 6200, .inl g75_80)), (qf76, .inl (cf76, 6200, .inl g76_80)), (qf77, .inl (cf77, 60000, .inl g77_80)), (qf69, .inl (cf69, 3000, .inl f69)), (qf49, .inl (cf49, 3000, .inl f49))] H ∧ z80[49]? = some (.ref qf49) ∧ z80[50]? = some (.int v50) ∧ z80[52]? = some (.int v52) ∧ z80[53]? = some (.int v53) ∧ z80[69]? = some (.ref qf69) ∧ z80[70]? = some (.int v70) ∧ z80[73]? = some (.ref qf73) ∧ z80[74]? = some (.ref qf74) ∧ z80[75]? = some (.ref qf75) ∧ z80[76]? = some (.ref qf76) ∧ z80[77]? = some (.ref qf77) ∧ z80[78]? = some (.int x78_80) ∧ z80[79]? = some (.int x79_80) ∧ z80.length = 155 ∧ (∀ j : Nat, j ≠ 78 → j ≠ 79 → z80[j]? = zs[j]?) ∧ jn_vm_frame_80 nf a1 v50 v52 v53 v70 v78 v79 f73 f74 f75 f76 f77 f69 f49 l2_80 s0_80 g73_80 g74_80 g75_80 g76_80 g77_80 x78_80 x79_80 = some (o73, o74, o75, o76, o77, w78, w79)) ?_ ?_
  · intro x9 hJ9
    obtain ⟨H, locs, ls, z80, l2_80, s0_80, g73_80, g74_80, g75_80, g76_80, g77_80, x78_80, x79_80⟩ := x9
    obtain ⟨hl, hS, hD, hP, hfh_80_49, hfh_80_50, hfh_80_52, hfh_80_53, hfh_80_69, hfh_80_70, hfh_80_73, hfh_80_74, hfh_80_75, hfh_80_76, hfh_80_77, hfh_80_78, hfh_80_79, hlh_80, hrh_80, hsp⟩ := hJ9
    replace hl : lv_has ls 5 [(0, .ref h0), (2, .int l2_80)] := hl
    replace hS : va_S A s.heap H locs := hS
    replace hD : va_D A [(h0, .inr (13, z80)), (qf73, .inl (cf73, 6200, .inl g73_80)), (qf74, .inl (cf74, 6200, .inl g74_80)), (qf75, .inl (cf75, 6200, .inl g75_80)), (qf76, .inl (cf76, 6200, .inl g76_80)), (qf77, .inl (cf77, 60000, .inl g77_80)), (qf69, .inl (cf69, 3000, .inl f69)), (qf49, .inl (cf49, 3000, .inl f49))] := hD
    replace hP : va_P (dC, dI) vwCl [(h0, .inr (13, z80)), (qf73, .inl (cf73, 6200, .inl g73_80)), (qf74, .inl (cf74, 6200, .inl g74_80)), (qf75, .inl (cf75, 6200, .inl g75_80)), (qf76, .inl (cf76, 6200, .inl g76_80)), (qf77, .inl (cf77, 60000, .inl g77_80)), (qf69, .inl (cf69, 3000, .inl f69)), (qf49, .inl (cf49, 3000, .inl f49))] H := hP
    replace hsp : jn_vm_frame_80 nf a1 v50 v52 v53 v70 v78 v79 f73 f74 f75 f76 f77 f69 f49 l2_80 s0_80 g73_80 g74_80 g75_80 g76_80 g77_80 x78_80 x79_80 = some (o73, o74, o75, o76, o77, w78, w79) := hsp
    show W _ _ _ _ _ _ _ _ _ _ H locs _ _ _ (F0 m 80 ls [.int s0_80])
    unfold jn_vm_frame_80 at hsp
    try dsimp only at hsp
    refine lv_istore_n (lv' := [(3, .int s0_80), (0, .ref h0), (2, .int l2_80)]) hx hb dX13_frame_80 rfl hl (by decide) rfl (fun ls hl => ?_)
    refine lv_aload_n hx hb dX13_frame_81 rfl (lv_at hl 1 rfl) ?_
    refine va_get (D := (dC, dI)) (ci := 13) (v := .ref qf75) (C := RX13) (T := TX13) (N := 155) hx hb hts uV_h9_X13 hown hK hP 0 rfl rfl 75 (by decide) (hts (.fieldLink RX13 159 "ClassMillModel" "frameLocals" "[I") mw_h9_176) (fun _ h9 => h9) hfh_80_75 dX13_frame_82 ?_
    refine lv_iload_n hx hb dX13_frame_85 rfl (lv_at hl 2 rfl) ?_
    refine lv_aload_n hx hb dX13_frame_86 rfl (lv_at hl 1 rfl) ?_
    refine va_get (D := (dC, dI)) (ci := 13) (v := .int v50) (C := RX13) (T := TX13) (N := 155) hx hb hts uV_h9_X13 hown hK hP 0 rfl rfl 50 (by decide) (hts (.fieldLink RX13 513 "ClassMillModel" "sight" "I") mw_h9_171) (fun _ h9 => h9) hfh_80_50 dX13_frame_87 ?_
    refine lv_iload_n hx hb dX13_frame_90 rfl (lv_at hl 0 rfl) ?_
    refine lv_iadd hx hb dX13_frame_91 ?_
    obtain ⟨hi_10, hsp⟩ := ox_in hsp
    refine va_iast hx hb hK hP hD hS 3 2 rfl rfl (i := l2_80) (x := (v50 + s0_80)) hi_10 dX13_frame_92 ?_
    clear hP hD hS
    intro H locs hP hD hS
    replace hP : va_P (dC, dI) vwCl [(h0, .inr (13, z80)), (qf73, .inl (cf73, 6200, .inl g73_80)), (qf74, .inl (cf74, 6200, .inl g74_80)), (qf75, .inl (cf75, 6200, .inl (upd g75_80 (l2_80 : Int32).toNatClampNeg (v50 + s0_80)))), (qf76, .inl (cf76, 6200, .inl g76_80)), (qf77, .inl (cf77, 60000, .inl g77_80)), (qf69, .inl (cf69, 3000, .inl f69)), (qf49, .inl (cf49, 3000, .inl f49))] H := hP
    replace hD : va_D A [(h0, .inr (13, z80)), (qf73, .inl (cf73, 6200, .inl g73_80)), (qf74, .inl (cf74, 6200, .inl g74_80)), (qf75, .inl (cf75, 6200, .inl (upd g75_80 (l2_80 : Int32).toNatClampNeg (v50 + s0_80)))), (qf76, .inl (cf76, 6200, .inl g76_80)), (qf77, .inl (cf77, 60000, .inl g77_80)), (qf69, .inl (cf69, 3000, .inl f69)), (qf49, .inl (cf49, 3000, .inl f49))] := hD
    refine lv_aload_n hx hb dX13_frame_93 rfl (lv_at hl 1 rfl) ?_
    refine va_get (D := (dC, dI)) (ci := 13) (v := .ref qf76) (C := RX13) (T := TX13) (N := 155) hx hb hts uV_h9_X13 hown hK hP 0 rfl rfl 76 (by decide) (hts (.fieldLink RX13 162 "ClassMillModel" "frameStack" "[I") mw_h9_177) (fun _ h9 => h9) hfh_80_76 dX13_frame_94 ?_
    refine lv_iload_n hx hb dX13_frame_97 rfl (lv_at hl 2 rfl) ?_
    refine lv_aload_n hx hb dX13_frame_98 rfl (lv_at hl 1 rfl) ?_
    refine va_get (D := (dC, dI)) (ci := 13) (v := .int v70) (C := RX13) (T := TX13) (N := 155) hx hb hts uV_h9_X13 hown hK hP 0 rfl rfl 70 (by decide) (hts (.fieldLink RX13 629 "ClassMillModel" "piled" "I") mw_h9_172) (fun _ h9 => h9) hfh_80_70 dX13_frame_99 ?_
    obtain ⟨hi_11, hsp⟩ := ox_in hsp
    refine va_iast hx hb hK hP hD hS 4 3 rfl rfl (i := l2_80) (x := v70) hi_11 dX13_frame_102 ?_
    clear hP hD hS
    intro H locs hP hD hS
    replace hP : va_P (dC, dI) vwCl [(h0, .inr (13, z80)), (qf73, .inl (cf73, 6200, .inl g73_80)), (qf74, .inl (cf74, 6200, .inl g74_80)), (qf75, .inl (cf75, 6200, .inl (upd g75_80 (l2_80 : Int32).toNatClampNeg (v50 + s0_80)))), (qf76, .inl (cf76, 6200, .inl (upd g76_80 (l2_80 : Int32).toNatClampNeg v70))), (qf77, .inl (cf77, 60000, .inl g77_80)), (qf69, .inl (cf69, 3000, .inl f69)), (qf49, .inl (cf49, 3000, .inl f49))] H := hP
    replace hD : va_D A [(h0, .inr (13, z80)), (qf73, .inl (cf73, 6200, .inl g73_80)), (qf74, .inl (cf74, 6200, .inl g74_80)), (qf75, .inl (cf75, 6200, .inl (upd g75_80 (l2_80 : Int32).toNatClampNeg (v50 + s0_80)))), (qf76, .inl (cf76, 6200, .inl (upd g76_80 (l2_80 : Int32).toNatClampNeg v70))), (qf77, .inl (cf77, 60000, .inl g77_80)), (qf69, .inl (cf69, 3000, .inl f69)), (qf49, .inl (cf49, 3000, .inl f49))] := hD
    refine lv_aload_n hx hb dX13_frame_103 rfl (lv_at hl 1 rfl) ?_
    refine va_get (D := (dC, dI)) (ci := 13) (v := .int x79_80) (C := RX13) (T := TX13) (N := 155) hx hb hts uV_h9_X13 hown hK hP 0 rfl rfl 79 (by decide) (hts (.fieldLink RX13 655 "ClassMillModel" "frameWords" "I") mw_h9_173) (fun _ h9 => h9) hfh_80_79 dX13_frame_104 ?_
    refine lv_aload_n hx hb dX13_frame_107 rfl (lv_at hl 1 rfl) ?_
    refine va_get (D := (dC, dI)) (ci := 13) (v := .int v50) (C := RX13) (T := TX13) (N := 155) hx hb hts uV_h9_X13 hown hK hP 0 rfl rfl 50 (by decide) (hts (.fieldLink RX13 513 "ClassMillModel" "sight" "I") mw_h9_171) (fun _ h9 => h9) hfh_80_50 dX13_frame_108 ?_
    refine lv_iadd hx hb dX13_frame_111 ?_
    refine lv_iconst (v := 1) hx hb dX13_frame_112 (by decide) ?_
    refine lv_iadd hx hb dX13_frame_113 ?_
    refine lv_aload_n hx hb dX13_frame_114 rfl (lv_at hl 1 rfl) ?_
    refine va_get (D := (dC, dI)) (ci := 13) (v := .int v70) (C := RX13) (T := TX13) (N := 155) hx hb hts uV_h9_X13 hown hK hP 0 rfl rfl 70 (by decide) (hts (.fieldLink RX13 629 "ClassMillModel" "piled" "I") mw_h9_172) (fun _ h9 => h9) hfh_80_70 dX13_frame_115 ?_
    refine lv_iadd hx hb dX13_frame_118 ?_
    refine lv_ldc (v := 60000) hx hb hown (hts (.constant RX13 165 60000) mw_h9_178) dX13_frame_119 ?_
    refine lv_icmp_le (tgt := 125) hx hb dX13_frame_121 (by decide) (fun c_12 => ?_) (fun c_12 => ?_)
    · rw [if_pos c_12] at hsp
      refine lv_aload_n hx hb dX13_frame_125 rfl (lv_at hl 1 rfl) ?_
      refine va_get (D := (dC, dI)) (ci := 13) (v := .int v53) (C := RX13) (T := TX13) (N := 155) hx hb hts uV_h9_X13 hown hK hP 0 rfl rfl 53 (by decide) (hts (.fieldLink RX13 510 "ClassMillModel" "still" "Z") mw_h9_138) (fun _ h9 => h9) hfh_80_53 dX13_frame_126 ?_
      refine lv_if_ne (tgt := 150) hx hb dX13_frame_129 (by decide) (fun c_13 => ?_) (fun c_13 => ?_)
      · rw [if_neg c_13] at hsp
        exact hj_150 (H, locs, ls, z80, s0_80, g73_80, g74_80, (upd g75_80 (l2_80 : Int32).toNatClampNeg (v50 + s0_80)), (upd g76_80 (l2_80 : Int32).toNatClampNeg v70), g77_80, x78_80, x79_80) ⟨lv_sub hl [1, 0] rfl, hS, hD.sub (ws' := [(h0, .inr (13, z80)), (qf73, .inl (cf73, 6200, .inl g73_80)), (qf74, .inl (cf74, 6200, .inl g74_80)), (qf75, .inl (cf75, 6200, .inl (upd g75_80 (l2_80 : Int32).toNatClampNeg (v50 + s0_80)))), (qf76, .inl (cf76, 6200, .inl (upd g76_80 (l2_80 : Int32).toNatClampNeg v70))), (qf77, .inl (cf77, 60000, .inl g77_80)), (qf69, .inl (cf69, 3000, .inl f69)), (qf49, .inl (cf49, 3000, .inl f49))]) [0, 1, 2, 3, 4, 5, 6, 7] (by decide) rfl, hP.sub (ws' := [(h0, .inr (13, z80)), (qf73, .inl (cf73, 6200, .inl g73_80)), (qf74, .inl (cf74, 6200, .inl g74_80)), (qf75, .inl (cf75, 6200, .inl (upd g75_80 (l2_80 : Int32).toNatClampNeg (v50 + s0_80)))), (qf76, .inl (cf76, 6200, .inl (upd g76_80 (l2_80 : Int32).toNatClampNeg v70))), (qf77, .inl (cf77, 60000, .inl g77_80)), (qf69, .inl (cf69, 3000, .inl f69)), (qf49, .inl (cf49, 3000, .inl f49))]) [0, 1, 2, 3, 4, 5, 6, 7] rfl, hfh_80_49, hfh_80_50, hfh_80_52, hfh_80_53, hfh_80_69, hfh_80_70, hfh_80_73, hfh_80_74, hfh_80_75, hfh_80_76, hfh_80_77, hfh_80_78, hfh_80_79, hlh_80, hrh_80, hsp⟩
      · rw [if_pos c_13] at hsp
        refine lv_aload_n hx hb dX13_frame_132 rfl (lv_at hl 1 rfl) ?_
        refine va_get (D := (dC, dI)) (ci := 13) (v := .ref qf77) (C := RX13) (T := TX13) (N := 155) hx hb hts uV_h9_X13 hown hK hP 0 rfl rfl 77 (by decide) (hts (.fieldLink RX13 166 "ClassMillModel" "frameTypes" "[I") mw_h9_174) (fun _ h9 => h9) hfh_80_77 dX13_frame_133 ?_
        refine lv_aload_n hx hb dX13_frame_136 rfl (lv_at hl 1 rfl) ?_
        refine va_get (D := (dC, dI)) (ci := 13) (v := .int x79_80) (C := RX13) (T := TX13) (N := 155) hx hb hts uV_h9_X13 hown hK hP 0 rfl rfl 79 (by decide) (hts (.fieldLink RX13 655 "ClassMillModel" "frameWords" "I") mw_h9_173) (fun _ h9 => h9) hfh_80_79 dX13_frame_137 ?_
        refine lv_bipush (v := 8) hx hb dX13_frame_140 (by decide) ?_
        refine lv_iconst (v := 2) hx hb dX13_frame_142 (by decide) ?_
        refine lv_aload_n hx hb dX13_frame_143 rfl (lv_at hl 1 rfl) ?_
        refine va_get (D := (dC, dI)) (ci := 13) (v := .int v52) (C := RX13) (T := TX13) (N := 155) hx hb hts uV_h9_X13 hown hK hP 0 rfl rfl 52 (by decide) (hts (.fieldLink RX13 519 "ClassMillModel" "owner" "I") mw_h9_137) (fun _ h9 => h9) hfh_80_52 dX13_frame_144 ?_
        refine lv_imul hx hb dX13_frame_147 ?_
        refine lv_iadd hx hb dX13_frame_148 ?_
        obtain ⟨hi_14, hsp⟩ := ox_in hsp
        refine va_iast hx hb hK hP hD hS 5 4 rfl rfl (i := x79_80) (x := (8 + (2 * v52))) hi_14 dX13_frame_149 ?_
        clear hP hD hS
        intro H locs hP hD hS
        replace hP : va_P (dC, dI) vwCl [(h0, .inr (13, z80)), (qf73, .inl (cf73, 6200, .inl g73_80)), (qf74, .inl (cf74, 6200, .inl g74_80)), (qf75, .inl (cf75, 6200, .inl (upd g75_80 (l2_80 : Int32).toNatClampNeg (v50 + s0_80)))), (qf76, .inl (cf76, 6200, .inl (upd g76_80 (l2_80 : Int32).toNatClampNeg v70))), (qf77, .inl (cf77, 60000, .inl (upd g77_80 (x79_80 : Int32).toNatClampNeg (8 + (2 * v52))))), (qf69, .inl (cf69, 3000, .inl f69)), (qf49, .inl (cf49, 3000, .inl f49))] H := hP
        replace hD : va_D A [(h0, .inr (13, z80)), (qf73, .inl (cf73, 6200, .inl g73_80)), (qf74, .inl (cf74, 6200, .inl g74_80)), (qf75, .inl (cf75, 6200, .inl (upd g75_80 (l2_80 : Int32).toNatClampNeg (v50 + s0_80)))), (qf76, .inl (cf76, 6200, .inl (upd g76_80 (l2_80 : Int32).toNatClampNeg v70))), (qf77, .inl (cf77, 60000, .inl (upd g77_80 (x79_80 : Int32).toNatClampNeg (8 + (2 * v52))))), (qf69, .inl (cf69, 3000, .inl f69)), (qf49, .inl (cf49, 3000, .inl f49))] := hD
        exact hj_150 (H, locs, ls, z80, s0_80, g73_80, g74_80, (upd g75_80 (l2_80 : Int32).toNatClampNeg (v50 + s0_80)), (upd g76_80 (l2_80 : Int32).toNatClampNeg v70), (upd g77_80 (x79_80 : Int32).toNatClampNeg (8 + (2 * v52))), x78_80, x79_80) ⟨lv_sub hl [1, 0] rfl, hS, hD.sub (ws' := [(h0, .inr (13, z80)), (qf73, .inl (cf73, 6200, .inl g73_80)), (qf74, .inl (cf74, 6200, .inl g74_80)), (qf75, .inl (cf75, 6200, .inl (upd g75_80 (l2_80 : Int32).toNatClampNeg (v50 + s0_80)))), (qf76, .inl (cf76, 6200, .inl (upd g76_80 (l2_80 : Int32).toNatClampNeg v70))), (qf77, .inl (cf77, 60000, .inl (upd g77_80 (x79_80 : Int32).toNatClampNeg (8 + (2 * v52))))), (qf69, .inl (cf69, 3000, .inl f69)), (qf49, .inl (cf49, 3000, .inl f49))]) [0, 1, 2, 3, 4, 5, 6, 7] (by decide) rfl, hP.sub (ws' := [(h0, .inr (13, z80)), (qf73, .inl (cf73, 6200, .inl g73_80)), (qf74, .inl (cf74, 6200, .inl g74_80)), (qf75, .inl (cf75, 6200, .inl (upd g75_80 (l2_80 : Int32).toNatClampNeg (v50 + s0_80)))), (qf76, .inl (cf76, 6200, .inl (upd g76_80 (l2_80 : Int32).toNatClampNeg v70))), (qf77, .inl (cf77, 60000, .inl (upd g77_80 (x79_80 : Int32).toNatClampNeg (8 + (2 * v52))))), (qf69, .inl (cf69, 3000, .inl f69)), (qf49, .inl (cf49, 3000, .inl f49))]) [0, 1, 2, 3, 4, 5, 6, 7] rfl, hfh_80_49, hfh_80_50, hfh_80_52, hfh_80_53, hfh_80_69, hfh_80_70, hfh_80_73, hfh_80_74, hfh_80_75, hfh_80_76, hfh_80_77, hfh_80_78, hfh_80_79, hlh_80, hrh_80, hsp⟩
    · rw [if_neg c_12] at hsp
      have hr0 := Option.some.inj hsp
      clear hsp
      obtain ⟨hq0, hr1⟩ := Prod.mk.inj hr0
      clear hr0
      obtain ⟨hq1, hr2⟩ := Prod.mk.inj hr1
      clear hr1
      obtain ⟨hq2, hr3⟩ := Prod.mk.inj hr2
      clear hr2
      obtain ⟨hq3, hr4⟩ := Prod.mk.inj hr3
      clear hr3
      obtain ⟨hq4, hr5⟩ := Prod.mk.inj hr4
      clear hr4
      obtain ⟨hq5, hr6⟩ := Prod.mk.inj hr5
      clear hr5
      subst hq0
      subst hq1
      subst hq2
      subst hq3
      subst hq4
      subst hq5
      subst hr6
      have hP9 := hP.sub (ws' := [(h0, .inr (13, z80)), (qf73, .inl (cf73, 6200, .inl g73_80)), (qf74, .inl (cf74, 6200, .inl g74_80)), (qf75, .inl (cf75, 6200, .inl (upd g75_80 (l2_80 : Int32).toNatClampNeg (v50 + s0_80)))), (qf76, .inl (cf76, 6200, .inl (upd g76_80 (l2_80 : Int32).toNatClampNeg v70))), (qf77, .inl (cf77, 60000, .inl g77_80)), (qf69, .inl (cf69, 3000, .inl f69)), (qf49, .inl (cf49, 3000, .inl f49))]) [0, 1, 2, 3, 4, 5, 6, 7] rfl
      have hD9 := hD.sub (ws' := [(h0, .inr (13, z80)), (qf73, .inl (cf73, 6200, .inl g73_80)), (qf74, .inl (cf74, 6200, .inl g74_80)), (qf75, .inl (cf75, 6200, .inl (upd g75_80 (l2_80 : Int32).toNatClampNeg (v50 + s0_80)))), (qf76, .inl (cf76, 6200, .inl (upd g76_80 (l2_80 : Int32).toNatClampNeg v70))), (qf77, .inl (cf77, 60000, .inl g77_80)), (qf69, .inl (cf69, 3000, .inl f69)), (qf49, .inl (cf49, 3000, .inl f49))]) [0, 1, 2, 3, 4, 5, 6, 7] (by decide) rfl
      have hK9 := hK.sub (tys' := [(cf73, .int), (cf74, .int), (cf75, .int), (cf76, .int), (cf77, .int), (cf69, .int), (cf49, .int)]) [0, 1, 2, 3, 4, 5, 6] rfl
      exact W.vret hx hb hr (fun t ht hW => ⟨⟨(z80), rfl, ⟨trivial, hlh_80, hrh_80, hfh_80_78, hfh_80_79⟩, by rw [ht]; exact hP9, va_K.moved hW.alike hK9, hD9⟩, hS.F ht⟩) hS.2.2 dX13_frame_124
  intro hj_80
  refine jn_use (α := Heap × List Loc × Array Slot × List Value × Int32 × Int32 × (Nat → Int32) × (Nat → Int32) × (Nat → Int32) × (Nat → Int32) × (Nat → Int32) × Int32 × Int32) (fun x9 => x9.1) (fun x9 => x9.2.1) (fun x9 => F0 m 51 x9.2.2.1 []) (fun x9 => match x9 with | (H, locs, ls, z51, l1_51, l2_51, g73_51, g74_51, g75_51, g76_51, g77_51, x78_51, x79_51) => lv_has ls 5 [(0, .ref h0), (1, .int l1_51), (2, .int l2_51)] ∧ va_S A s.heap H locs ∧ va_D A [(h0, .inr (13, z51)), (qf73, .inl (cf73, 6200, .inl g73_51)), (qf74, .inl (cf74, 6200, .inl g74_51)), (qf75, .inl (cf75, 6200, .inl g75_51)), (qf76, .inl (cf76, 6200, .inl g76_51)), (qf77, .inl (cf77, 60000, .inl g77_51)), (qf69, .inl (cf69, 3000, .inl f69)), (qf49, .inl (cf49, 3000, .inl f49))] ∧ va_P (dC, dI) vwCl [(h0, .inr (13, z51)), (qf73, .inl (cf73, 6200, .inl g73_51)), (qf74, .inl (cf74, 6200, .inl g74_51)), (qf75, .inl (cf75, 6200, .inl g75_51)), (qf76, .inl (cf76, 6200, .inl g76_51)), (qf77, .inl (cf77, 60000, .inl g77_51)), (qf69, .inl (cf69, 3000, .inl f69)), (qf49, .inl (cf49, 3000, .inl f49))] H ∧ z51[49]? = some (.ref qf49) ∧ z51[50]? = some (.int v50) ∧ z51[52]? = some (.int v52) ∧ z51[53]? = some (.int v53) ∧ z51[69]? = some (.ref qf69) ∧ z51[70]? = some (.int v70) ∧ z51[73]? = some (.ref qf73) ∧ z51[74]? = some (.ref qf74) ∧ z51[75]? = some (.ref qf75) ∧ z51[76]? = some (.ref qf76) ∧ z51[77]? = some (.ref qf77) ∧ z51[78]? = some (.int x78_51) ∧ z51[79]? = some (.int x79_51) ∧ z51.length = 155 ∧ (∀ j : Nat, j ≠ 78 → j ≠ 79 → z51[j]? = zs[j]?) ∧ jn_vm_frame_51 nf a1 v50 v52 v53 v70 v78 v79 f73 f74 f75 f76 f77 f69 f49 l1_51 l2_51 g73_51 g74_51 g75_51 g76_51 g77_51 x78_51 x79_51 = some (o73, o74, o75, o76, o77, w78, w79)) ?_ ?_
  · intro x9 hJ9
    obtain ⟨H, locs, ls, z51, l1_51, l2_51, g73_51, g74_51, g75_51, g76_51, g77_51, x78_51, x79_51⟩ := x9
    obtain ⟨hl, hS, hD, hP, hfh_51_49, hfh_51_50, hfh_51_52, hfh_51_53, hfh_51_69, hfh_51_70, hfh_51_73, hfh_51_74, hfh_51_75, hfh_51_76, hfh_51_77, hfh_51_78, hfh_51_79, hlh_51, hrh_51, hsp⟩ := hJ9
    replace hl : lv_has ls 5 [(0, .ref h0), (1, .int l1_51), (2, .int l2_51)] := hl
    replace hS : va_S A s.heap H locs := hS
    replace hD : va_D A [(h0, .inr (13, z51)), (qf73, .inl (cf73, 6200, .inl g73_51)), (qf74, .inl (cf74, 6200, .inl g74_51)), (qf75, .inl (cf75, 6200, .inl g75_51)), (qf76, .inl (cf76, 6200, .inl g76_51)), (qf77, .inl (cf77, 60000, .inl g77_51)), (qf69, .inl (cf69, 3000, .inl f69)), (qf49, .inl (cf49, 3000, .inl f49))] := hD
    replace hP : va_P (dC, dI) vwCl [(h0, .inr (13, z51)), (qf73, .inl (cf73, 6200, .inl g73_51)), (qf74, .inl (cf74, 6200, .inl g74_51)), (qf75, .inl (cf75, 6200, .inl g75_51)), (qf76, .inl (cf76, 6200, .inl g76_51)), (qf77, .inl (cf77, 60000, .inl g77_51)), (qf69, .inl (cf69, 3000, .inl f69)), (qf49, .inl (cf49, 3000, .inl f49))] H := hP
    replace hsp : jn_vm_frame_51 nf a1 v50 v52 v53 v70 v78 v79 f73 f74 f75 f76 f77 f69 f49 l1_51 l2_51 g73_51 g74_51 g75_51 g76_51 g77_51 x78_51 x79_51 = some (o73, o74, o75, o76, o77, w78, w79) := hsp
    show W _ _ _ _ _ _ _ _ _ _ H locs _ _ _ (F0 m 51 ls [])
    unfold jn_vm_frame_51 at hsp
    try dsimp only at hsp
    refine lv_aload_n hx hb dX13_frame_51 rfl (lv_at hl 0 rfl) ?_
    refine va_get (D := (dC, dI)) (ci := 13) (v := .ref qf73) (C := RX13) (T := TX13) (N := 155) hx hb hts uV_h9_X13 hown hK hP 0 rfl rfl 73 (by decide) (hts (.fieldLink RX13 153 "ClassMillModel" "framePlace" "[I") mw_h9_179) (fun _ h9 => h9) hfh_51_73 dX13_frame_52 ?_
    refine lv_iload_n hx hb dX13_frame_55 rfl (lv_at hl 2 rfl) ?_
    refine lv_iload_n hx hb dX13_frame_56 rfl (lv_at hl 1 rfl) ?_
    obtain ⟨hi_7, hsp⟩ := ox_in hsp
    refine va_iast hx hb hK hP hD hS 1 0 rfl rfl (i := l2_51) (x := l1_51) hi_7 dX13_frame_57 ?_
    clear hP hD hS
    intro H locs hP hD hS
    replace hP : va_P (dC, dI) vwCl [(h0, .inr (13, z51)), (qf73, .inl (cf73, 6200, .inl (upd g73_51 (l2_51 : Int32).toNatClampNeg l1_51))), (qf74, .inl (cf74, 6200, .inl g74_51)), (qf75, .inl (cf75, 6200, .inl g75_51)), (qf76, .inl (cf76, 6200, .inl g76_51)), (qf77, .inl (cf77, 60000, .inl g77_51)), (qf69, .inl (cf69, 3000, .inl f69)), (qf49, .inl (cf49, 3000, .inl f49))] H := hP
    replace hD : va_D A [(h0, .inr (13, z51)), (qf73, .inl (cf73, 6200, .inl (upd g73_51 (l2_51 : Int32).toNatClampNeg l1_51))), (qf74, .inl (cf74, 6200, .inl g74_51)), (qf75, .inl (cf75, 6200, .inl g75_51)), (qf76, .inl (cf76, 6200, .inl g76_51)), (qf77, .inl (cf77, 60000, .inl g77_51)), (qf69, .inl (cf69, 3000, .inl f69)), (qf49, .inl (cf49, 3000, .inl f49))] := hD
    refine lv_aload_n hx hb dX13_frame_58 rfl (lv_at hl 0 rfl) ?_
    refine va_get (D := (dC, dI)) (ci := 13) (v := .ref qf74) (C := RX13) (T := TX13) (N := 155) hx hb hts uV_h9_X13 hown hK hP 0 rfl rfl 74 (by decide) (hts (.fieldLink RX13 156 "ClassMillModel" "frameAt" "[I") mw_h9_180) (fun _ h9 => h9) hfh_51_74 dX13_frame_59 ?_
    refine lv_iload_n hx hb dX13_frame_62 rfl (lv_at hl 2 rfl) ?_
    refine lv_aload_n hx hb dX13_frame_63 rfl (lv_at hl 0 rfl) ?_
    refine va_get (D := (dC, dI)) (ci := 13) (v := .int x79_51) (C := RX13) (T := TX13) (N := 155) hx hb hts uV_h9_X13 hown hK hP 0 rfl rfl 79 (by decide) (hts (.fieldLink RX13 655 "ClassMillModel" "frameWords" "I") mw_h9_173) (fun _ h9 => h9) hfh_51_79 dX13_frame_64 ?_
    obtain ⟨hi_8, hsp⟩ := ox_in hsp
    refine va_iast hx hb hK hP hD hS 2 1 rfl rfl (i := l2_51) (x := x79_51) hi_8 dX13_frame_67 ?_
    clear hP hD hS
    intro H locs hP hD hS
    replace hP : va_P (dC, dI) vwCl [(h0, .inr (13, z51)), (qf73, .inl (cf73, 6200, .inl (upd g73_51 (l2_51 : Int32).toNatClampNeg l1_51))), (qf74, .inl (cf74, 6200, .inl (upd g74_51 (l2_51 : Int32).toNatClampNeg x79_51))), (qf75, .inl (cf75, 6200, .inl g75_51)), (qf76, .inl (cf76, 6200, .inl g76_51)), (qf77, .inl (cf77, 60000, .inl g77_51)), (qf69, .inl (cf69, 3000, .inl f69)), (qf49, .inl (cf49, 3000, .inl f49))] H := hP
    replace hD : va_D A [(h0, .inr (13, z51)), (qf73, .inl (cf73, 6200, .inl (upd g73_51 (l2_51 : Int32).toNatClampNeg l1_51))), (qf74, .inl (cf74, 6200, .inl (upd g74_51 (l2_51 : Int32).toNatClampNeg x79_51))), (qf75, .inl (cf75, 6200, .inl g75_51)), (qf76, .inl (cf76, 6200, .inl g76_51)), (qf77, .inl (cf77, 60000, .inl g77_51)), (qf69, .inl (cf69, 3000, .inl f69)), (qf49, .inl (cf49, 3000, .inl f49))] := hD
    refine lv_aload_n hx hb dX13_frame_68 rfl (lv_at hl 0 rfl) ?_
    refine va_get (D := (dC, dI)) (ci := 13) (v := .int v53) (C := RX13) (T := TX13) (N := 155) hx hb hts uV_h9_X13 hown hK hP 0 rfl rfl 53 (by decide) (hts (.fieldLink RX13 510 "ClassMillModel" "still" "Z") mw_h9_138) (fun _ h9 => h9) hfh_51_53 dX13_frame_69 ?_
    refine lv_if_eq (tgt := 79) hx hb dX13_frame_72 (by decide) (fun c_9 => ?_) (fun c_9 => ?_)
    · rw [if_pos c_9] at hsp
      refine lv_iconst (v := 1) hx hb dX13_frame_79 (by decide) ?_
      exact hj_80 (H, locs, ls, z51, l2_51, 1, (upd g73_51 (l2_51 : Int32).toNatClampNeg l1_51), (upd g74_51 (l2_51 : Int32).toNatClampNeg x79_51), g75_51, g76_51, g77_51, x78_51, x79_51) ⟨lv_sub hl [0, 2] rfl, hS, hD.sub (ws' := [(h0, .inr (13, z51)), (qf73, .inl (cf73, 6200, .inl (upd g73_51 (l2_51 : Int32).toNatClampNeg l1_51))), (qf74, .inl (cf74, 6200, .inl (upd g74_51 (l2_51 : Int32).toNatClampNeg x79_51))), (qf75, .inl (cf75, 6200, .inl g75_51)), (qf76, .inl (cf76, 6200, .inl g76_51)), (qf77, .inl (cf77, 60000, .inl g77_51)), (qf69, .inl (cf69, 3000, .inl f69)), (qf49, .inl (cf49, 3000, .inl f49))]) [0, 1, 2, 3, 4, 5, 6, 7] (by decide) rfl, hP.sub (ws' := [(h0, .inr (13, z51)), (qf73, .inl (cf73, 6200, .inl (upd g73_51 (l2_51 : Int32).toNatClampNeg l1_51))), (qf74, .inl (cf74, 6200, .inl (upd g74_51 (l2_51 : Int32).toNatClampNeg x79_51))), (qf75, .inl (cf75, 6200, .inl g75_51)), (qf76, .inl (cf76, 6200, .inl g76_51)), (qf77, .inl (cf77, 60000, .inl g77_51)), (qf69, .inl (cf69, 3000, .inl f69)), (qf49, .inl (cf49, 3000, .inl f49))]) [0, 1, 2, 3, 4, 5, 6, 7] rfl, hfh_51_49, hfh_51_50, hfh_51_52, hfh_51_53, hfh_51_69, hfh_51_70, hfh_51_73, hfh_51_74, hfh_51_75, hfh_51_76, hfh_51_77, hfh_51_78, hfh_51_79, hlh_51, hrh_51, hsp⟩
    · rw [if_neg c_9] at hsp
      refine lv_iconst (v := 0) hx hb dX13_frame_75 (by decide) ?_
      refine lv_goto (tgt := 80) hx hb dX13_frame_76 (by decide) ?_
      exact hj_80 (H, locs, ls, z51, l2_51, 0, (upd g73_51 (l2_51 : Int32).toNatClampNeg l1_51), (upd g74_51 (l2_51 : Int32).toNatClampNeg x79_51), g75_51, g76_51, g77_51, x78_51, x79_51) ⟨lv_sub hl [0, 2] rfl, hS, hD.sub (ws' := [(h0, .inr (13, z51)), (qf73, .inl (cf73, 6200, .inl (upd g73_51 (l2_51 : Int32).toNatClampNeg l1_51))), (qf74, .inl (cf74, 6200, .inl (upd g74_51 (l2_51 : Int32).toNatClampNeg x79_51))), (qf75, .inl (cf75, 6200, .inl g75_51)), (qf76, .inl (cf76, 6200, .inl g76_51)), (qf77, .inl (cf77, 60000, .inl g77_51)), (qf69, .inl (cf69, 3000, .inl f69)), (qf49, .inl (cf49, 3000, .inl f49))]) [0, 1, 2, 3, 4, 5, 6, 7] (by decide) rfl, hP.sub (ws' := [(h0, .inr (13, z51)), (qf73, .inl (cf73, 6200, .inl (upd g73_51 (l2_51 : Int32).toNatClampNeg l1_51))), (qf74, .inl (cf74, 6200, .inl (upd g74_51 (l2_51 : Int32).toNatClampNeg x79_51))), (qf75, .inl (cf75, 6200, .inl g75_51)), (qf76, .inl (cf76, 6200, .inl g76_51)), (qf77, .inl (cf77, 60000, .inl g77_51)), (qf69, .inl (cf69, 3000, .inl f69)), (qf49, .inl (cf49, 3000, .inl f49))]) [0, 1, 2, 3, 4, 5, 6, 7] rfl, hfh_51_49, hfh_51_50, hfh_51_52, hfh_51_53, hfh_51_69, hfh_51_70, hfh_51_73, hfh_51_74, hfh_51_75, hfh_51_76, hfh_51_77, hfh_51_78, hfh_51_79, hlh_51, hrh_51, hsp⟩
  intro hj_51
  refine lv_aload_n hx hb dX13_frame_0 rfl (lv_at hl 0 rfl) ?_
  refine va_get (D := (dC, dI)) (ci := 13) (v := .int v78) (C := RX13) (T := TX13) (N := 155) hx hb hts uV_h9_X13 hown hK hP 0 rfl rfl 78 (by decide) (hts (.fieldLink RX13 652 "ClassMillModel" "frames" "I") mw_h9_181) (fun _ h9 => h9) hf78 dX13_frame_1 ?_
  refine lv_istore_n (lv' := [(2, .int v78), (0, .ref h0), (1, .int a1)]) hx hb dX13_frame_4 rfl hl (by decide) rfl (fun ls hl => ?_)
  refine lv_iconst (v := 0) hx hb dX13_frame_5 (by decide) ?_
  refine lv_istore_n (lv' := [(3, .int 0), (2, .int v78), (0, .ref h0), (1, .int a1)]) hx hb dX13_frame_6 rfl hl (by decide) rfl (fun ls hl => ?_)
  replace hl : lv_has ls 5 [(3, .int 0), (2, .int v78), (0, .ref h0), (1, .int a1)] := lv_sub hl [0, 1, 2, 3] rfl
  replace hP := hP.sub (ws' := [(h0, .inr (13, zs)), (qf73, .inl (cf73, 6200, .inl f73)), (qf74, .inl (cf74, 6200, .inl f74)), (qf75, .inl (cf75, 6200, .inl f75)), (qf76, .inl (cf76, 6200, .inl f76)), (qf77, .inl (cf77, 60000, .inl f77)), (qf69, .inl (cf69, 3000, .inl f69)), (qf49, .inl (cf49, 3000, .inl f49))]) [0, 1, 2, 3, 4, 5, 6, 7] rfl
  replace hD := hD.sub (ws' := [(h0, .inr (13, zs)), (qf73, .inl (cf73, 6200, .inl f73)), (qf74, .inl (cf74, 6200, .inl f74)), (qf75, .inl (cf75, 6200, .inl f75)), (qf76, .inl (cf76, 6200, .inl f76)), (qf77, .inl (cf77, 60000, .inl f77)), (qf69, .inl (cf69, 3000, .inl f69)), (qf49, .inl (cf49, 3000, .inl f49))]) [0, 1, 2, 3, 4, 5, 6, 7] (by decide) rfl
  replace hK := hK.sub (tys' := [(cf73, .int), (cf74, .int), (cf75, .int), (cf76, .int), (cf77, .int), (cf69, .int), (cf49, .int)]) [0, 1, 2, 3, 4, 5, 6] rfl
  obtain ⟨n_7, hn_7⟩ : ∃ z : Nat, z = nf := ⟨_, rfl⟩
  obtain ⟨l1_7, el1_7⟩ : ∃ z : Int32, z = a1 := ⟨_, rfl⟩
  obtain ⟨l2_7, el2_7⟩ : ∃ z : Int32, z = v78 := ⟨_, rfl⟩
  obtain ⟨l3_7, el3_7⟩ : ∃ z : Int32, z = 0 := ⟨_, rfl⟩
  obtain ⟨g73_7, eg73_7⟩ : ∃ z : Nat → Int32, z = f73 := ⟨_, rfl⟩
  obtain ⟨g74_7, eg74_7⟩ : ∃ z : Nat → Int32, z = f74 := ⟨_, rfl⟩
  obtain ⟨g75_7, eg75_7⟩ : ∃ z : Nat → Int32, z = f75 := ⟨_, rfl⟩
  obtain ⟨g76_7, eg76_7⟩ : ∃ z : Nat → Int32, z = f76 := ⟨_, rfl⟩
  obtain ⟨g77_7, eg77_7⟩ : ∃ z : Nat → Int32, z = f77 := ⟨_, rfl⟩
  obtain ⟨x78_7, ex78_7⟩ : ∃ z : Int32, z = v78 := ⟨_, rfl⟩
  obtain ⟨x79_7, ex79_7⟩ : ∃ z : Int32, z = v79 := ⟨_, rfl⟩
  replace hsp : lp_vm_frame_7 nf n_7 a1 v50 v52 v53 v70 v78 v79 f73 f74 f75 f76 f77 f69 f49 l1_7 l2_7 l3_7 g73_7 g74_7 g75_7 g76_7 g77_7 x78_7 x79_7 = some (o73, o74, o75, o76, o77, w78, w79) := by rw [hn_7, el1_7, el2_7, el3_7, eg73_7, eg74_7, eg75_7, eg76_7, eg77_7, ex78_7, ex79_7]; exact hsp
  replace hl : lv_has ls 5 [(3, .int l3_7), (2, .int l2_7), (0, .ref h0), (1, .int l1_7)] := by rw [el1_7, el2_7, el3_7]; exact hl
  obtain ⟨z7, ez7⟩ : ∃ z : List Value, z = zs := ⟨_, rfl⟩
  have hfh_7_49 : z7[49]? = some (.ref qf49) := by rw [ez7]; exact hf49
  have hfh_7_50 : z7[50]? = some (.int v50) := by rw [ez7]; exact hf50
  have hfh_7_52 : z7[52]? = some (.int v52) := by rw [ez7]; exact hf52
  have hfh_7_53 : z7[53]? = some (.int v53) := by rw [ez7]; exact hf53
  have hfh_7_69 : z7[69]? = some (.ref qf69) := by rw [ez7]; exact hf69
  have hfh_7_70 : z7[70]? = some (.int v70) := by rw [ez7]; exact hf70
  have hfh_7_73 : z7[73]? = some (.ref qf73) := by rw [ez7]; exact hf73
  have hfh_7_74 : z7[74]? = some (.ref qf74) := by rw [ez7]; exact hf74
  have hfh_7_75 : z7[75]? = some (.ref qf75) := by rw [ez7]; exact hf75
  have hfh_7_76 : z7[76]? = some (.ref qf76) := by rw [ez7]; exact hf76
  have hfh_7_77 : z7[77]? = some (.ref qf77) := by rw [ez7]; exact hf77
  have hfh_7_78 : z7[78]? = some (.int x78_7) := by rw [ez7, ex78_7]; exact hf78
  have hfh_7_79 : z7[79]? = some (.int x79_7) := by rw [ez7, ex79_7]; exact hf79
  have hlh_7 : z7.length = 155 := by rw [ez7]; exact hlen
  have hrh_7 : ∀ j : Nat, j ≠ 78 → j ≠ 79 → z7[j]? = zs[j]? := by rw [ez7]; exact hrs0
  replace hP : va_P (dC, dI) vwCl [(h0, .inr (13, z7)), (qf73, .inl (cf73, 6200, .inl g73_7)), (qf74, .inl (cf74, 6200, .inl g74_7)), (qf75, .inl (cf75, 6200, .inl g75_7)), (qf76, .inl (cf76, 6200, .inl g76_7)), (qf77, .inl (cf77, 60000, .inl g77_7)), (qf69, .inl (cf69, 3000, .inl f69)), (qf49, .inl (cf49, 3000, .inl f49))] H := by rw [ez7, eg73_7, eg74_7, eg75_7, eg76_7, eg77_7]; exact hP
  replace hD : va_D A [(h0, .inr (13, z7)), (qf73, .inl (cf73, 6200, .inl g73_7)), (qf74, .inl (cf74, 6200, .inl g74_7)), (qf75, .inl (cf75, 6200, .inl g75_7)), (qf76, .inl (cf76, 6200, .inl g76_7)), (qf77, .inl (cf77, 60000, .inl g77_7)), (qf69, .inl (cf69, 3000, .inl f69)), (qf49, .inl (cf49, 3000, .inl f49))] := by rw [ez7, eg73_7, eg74_7, eg75_7, eg76_7, eg77_7]; exact hD
  clear hn_7 ez7 el1_7 el2_7 el3_7 eg73_7 eg74_7 eg75_7 eg76_7 eg77_7 ex78_7 ex79_7
  try clear hlo
  try clear hH
  revert hsp
  revert hP
  revert hD
  revert hS
  revert hl
  revert hrh_7
  revert hlh_7
  revert hfh_7_79
  revert hfh_7_78
  revert hfh_7_77
  revert hfh_7_76
  revert hfh_7_75
  revert hfh_7_74
  revert hfh_7_73
  revert hfh_7_70
  revert hfh_7_69
  revert hfh_7_53
  revert hfh_7_52
  revert hfh_7_50
  revert hfh_7_49
  revert x79_7
  revert x78_7
  revert g77_7
  revert g76_7
  revert g75_7
  revert g74_7
  revert g73_7
  revert l3_7
  revert l2_7
  revert l1_7
  revert z7
  revert ls
  revert locs
  revert H
  induction n_7 with
  | zero => intro H locs ls z7 l1_7 l2_7 l3_7 g73_7 g74_7 g75_7 g76_7 g77_7 x78_7 x79_7 hfh_7_49 hfh_7_50 hfh_7_52 hfh_7_53 hfh_7_69 hfh_7_70 hfh_7_73 hfh_7_74 hfh_7_75 hfh_7_76 hfh_7_77 hfh_7_78 hfh_7_79 hlh_7 hrh_7 hl hS hD hP hsp; unfold lp_vm_frame_7 at hsp; cases hsp
  | succ n_7 ih_7 =>
    intro H locs ls z7 l1_7 l2_7 l3_7 g73_7 g74_7 g75_7 g76_7 g77_7 x78_7 x79_7 hfh_7_49 hfh_7_50 hfh_7_52 hfh_7_53 hfh_7_69 hfh_7_70 hfh_7_73 hfh_7_74 hfh_7_75 hfh_7_76 hfh_7_77 hfh_7_78 hfh_7_79 hlh_7 hrh_7 hl hS hD hP hsp
    unfold lp_vm_frame_7 at hsp
    try dsimp only at hsp
    refine lv_iload_n hx hb dX13_frame_7 rfl (lv_at hl 0 rfl) ?_
    refine lv_aload_n hx hb dX13_frame_8 rfl (lv_at hl 2 rfl) ?_
    refine va_get (D := (dC, dI)) (ci := 13) (v := .int x78_7) (C := RX13) (T := TX13) (N := 155) hx hb hts uV_h9_X13 hown hK hP 0 rfl rfl 78 (by decide) (hts (.fieldLink RX13 652 "ClassMillModel" "frames" "I") mw_h9_181) (fun _ h9 => h9) hfh_7_78 dX13_frame_9 ?_
    refine lv_icmp_ge (tgt := 33) hx hb dX13_frame_12 (by decide) (fun c_1 => ?_) (fun c_1 => ?_)
    · rw [if_pos c_1] at hsp
      refine lv_iload_n hx hb dX13_frame_33 rfl (lv_at hl 1 rfl) ?_
      refine lv_aload_n hx hb dX13_frame_34 rfl (lv_at hl 2 rfl) ?_
      refine va_get (D := (dC, dI)) (ci := 13) (v := .int x78_7) (C := RX13) (T := TX13) (N := 155) hx hb hts uV_h9_X13 hown hK hP 0 rfl rfl 78 (by decide) (hts (.fieldLink RX13 652 "ClassMillModel" "frames" "I") mw_h9_181) (fun _ h9 => h9) hfh_7_78 dX13_frame_35 ?_
      refine lv_icmp_ne (tgt := 51) hx hb dX13_frame_38 (by decide) (fun c_2 => ?_) (fun c_2 => ?_)
      · rw [if_neg c_2] at hsp
        exact hj_51 (H, locs, ls, z7, l1_7, l2_7, g73_7, g74_7, g75_7, g76_7, g77_7, x78_7, x79_7) ⟨lv_sub hl [2, 3, 1] rfl, hS, hD.sub (ws' := [(h0, .inr (13, z7)), (qf73, .inl (cf73, 6200, .inl g73_7)), (qf74, .inl (cf74, 6200, .inl g74_7)), (qf75, .inl (cf75, 6200, .inl g75_7)), (qf76, .inl (cf76, 6200, .inl g76_7)), (qf77, .inl (cf77, 60000, .inl g77_7)), (qf69, .inl (cf69, 3000, .inl f69)), (qf49, .inl (cf49, 3000, .inl f49))]) [0, 1, 2, 3, 4, 5, 6, 7] (by decide) rfl, hP.sub (ws' := [(h0, .inr (13, z7)), (qf73, .inl (cf73, 6200, .inl g73_7)), (qf74, .inl (cf74, 6200, .inl g74_7)), (qf75, .inl (cf75, 6200, .inl g75_7)), (qf76, .inl (cf76, 6200, .inl g76_7)), (qf77, .inl (cf77, 60000, .inl g77_7)), (qf69, .inl (cf69, 3000, .inl f69)), (qf49, .inl (cf49, 3000, .inl f49))]) [0, 1, 2, 3, 4, 5, 6, 7] rfl, hfh_7_49, hfh_7_50, hfh_7_52, hfh_7_53, hfh_7_69, hfh_7_70, hfh_7_73, hfh_7_74, hfh_7_75, hfh_7_76, hfh_7_77, hfh_7_78, hfh_7_79, hlh_7, hrh_7, hsp⟩
      · rw [if_pos c_2] at hsp
        refine lv_aload_n hx hb dX13_frame_41 rfl (lv_at hl 2 rfl) ?_
        refine lv_dup hx hb dX13_frame_42 rfl ?_
        refine va_get (D := (dC, dI)) (ci := 13) (v := .int x78_7) (C := RX13) (T := TX13) (N := 155) hx hb hts uV_h9_X13 hown hK hP 0 rfl rfl 78 (by decide) (hts (.fieldLink RX13 652 "ClassMillModel" "frames" "I") mw_h9_181) (fun _ h9 => h9) hfh_7_78 dX13_frame_43 ?_
        refine lv_iconst (v := 1) hx hb dX13_frame_46 (by decide) ?_
        refine lv_iadd hx hb dX13_frame_47 ?_
        refine va_put (D := (dC, dI)) (ci := 13) (v := .int (x78_7 + 1)) (ty := .int) (C := RX13) (T := TX13) (N := 155) hx hb hts uV_h9_X13 tyX13 tyX13_ok nmX13 hown hK hP hD hS 0 rfl rfl 78 (by decide) (hts (.fieldLink RX13 652 "ClassMillModel" "frames" "I") mw_h9_181) (fun _ h9 => h9) rfl (by decide +kernel) rfl rfl (by rw [hlh_7]; decide) dX13_frame_48 ?_
        clear hP hD hS
        intro H locs hP hD hS
        obtain ⟨fs_3, efs_3⟩ : ∃ zf : List Value, zf = z7.set 78 (.int (x78_7 + 1)) := ⟨_, rfl⟩
        rw [← efs_3] at hP hD
        have hlfs_3 : fs_3.length = 155 := by rw [efs_3, List.length_set]; exact hlh_7
        have hfs_3_49 : fs_3[49]? = some (.ref qf49) := by rw [efs_3, List.getElem?_set_ne (by decide)]; exact hfh_7_49
        have hfs_3_50 : fs_3[50]? = some (.int v50) := by rw [efs_3, List.getElem?_set_ne (by decide)]; exact hfh_7_50
        have hfs_3_52 : fs_3[52]? = some (.int v52) := by rw [efs_3, List.getElem?_set_ne (by decide)]; exact hfh_7_52
        have hfs_3_53 : fs_3[53]? = some (.int v53) := by rw [efs_3, List.getElem?_set_ne (by decide)]; exact hfh_7_53
        have hfs_3_69 : fs_3[69]? = some (.ref qf69) := by rw [efs_3, List.getElem?_set_ne (by decide)]; exact hfh_7_69
        have hfs_3_70 : fs_3[70]? = some (.int v70) := by rw [efs_3, List.getElem?_set_ne (by decide)]; exact hfh_7_70
        have hfs_3_73 : fs_3[73]? = some (.ref qf73) := by rw [efs_3, List.getElem?_set_ne (by decide)]; exact hfh_7_73
        have hfs_3_74 : fs_3[74]? = some (.ref qf74) := by rw [efs_3, List.getElem?_set_ne (by decide)]; exact hfh_7_74
        have hfs_3_75 : fs_3[75]? = some (.ref qf75) := by rw [efs_3, List.getElem?_set_ne (by decide)]; exact hfh_7_75
        have hfs_3_76 : fs_3[76]? = some (.ref qf76) := by rw [efs_3, List.getElem?_set_ne (by decide)]; exact hfh_7_76
        have hfs_3_77 : fs_3[77]? = some (.ref qf77) := by rw [efs_3, List.getElem?_set_ne (by decide)]; exact hfh_7_77
        have hfs_3_79 : fs_3[79]? = some (.int x79_7) := by rw [efs_3, List.getElem?_set_ne (by decide)]; exact hfh_7_79
        have hfs_3_78 : fs_3[78]? = some (.int (x78_7 + 1)) := by rw [efs_3, List.getElem?_set_self (by rw [hlh_7]; decide)]
        replace hP : va_P (dC, dI) vwCl [(h0, .inr (13, fs_3)), (qf73, .inl (cf73, 6200, .inl g73_7)), (qf74, .inl (cf74, 6200, .inl g74_7)), (qf75, .inl (cf75, 6200, .inl g75_7)), (qf76, .inl (cf76, 6200, .inl g76_7)), (qf77, .inl (cf77, 60000, .inl g77_7)), (qf69, .inl (cf69, 3000, .inl f69)), (qf49, .inl (cf49, 3000, .inl f49))] H := hP
        replace hD : va_D A [(h0, .inr (13, fs_3)), (qf73, .inl (cf73, 6200, .inl g73_7)), (qf74, .inl (cf74, 6200, .inl g74_7)), (qf75, .inl (cf75, 6200, .inl g75_7)), (qf76, .inl (cf76, 6200, .inl g76_7)), (qf77, .inl (cf77, 60000, .inl g77_7)), (qf69, .inl (cf69, 3000, .inl f69)), (qf49, .inl (cf49, 3000, .inl f49))] := hD
        have hrs_4 : ∀ j : Nat, j ≠ 78 → j ≠ 79 → fs_3[j]? = zs[j]? := fun j g78 g79 => ((congrArg (fun z : List Value => z[j]?) efs_3).trans (List.getElem?_set_ne (Ne.symm g78))).trans (hrh_7 j g78 g79)
        exact hj_51 (H, locs, ls, fs_3, l1_7, l2_7, g73_7, g74_7, g75_7, g76_7, g77_7, (x78_7 + 1), x79_7) ⟨lv_sub hl [2, 3, 1] rfl, hS, hD.sub (ws' := [(h0, .inr (13, fs_3)), (qf73, .inl (cf73, 6200, .inl g73_7)), (qf74, .inl (cf74, 6200, .inl g74_7)), (qf75, .inl (cf75, 6200, .inl g75_7)), (qf76, .inl (cf76, 6200, .inl g76_7)), (qf77, .inl (cf77, 60000, .inl g77_7)), (qf69, .inl (cf69, 3000, .inl f69)), (qf49, .inl (cf49, 3000, .inl f49))]) [0, 1, 2, 3, 4, 5, 6, 7] (by decide) rfl, hP.sub (ws' := [(h0, .inr (13, fs_3)), (qf73, .inl (cf73, 6200, .inl g73_7)), (qf74, .inl (cf74, 6200, .inl g74_7)), (qf75, .inl (cf75, 6200, .inl g75_7)), (qf76, .inl (cf76, 6200, .inl g76_7)), (qf77, .inl (cf77, 60000, .inl g77_7)), (qf69, .inl (cf69, 3000, .inl f69)), (qf49, .inl (cf49, 3000, .inl f49))]) [0, 1, 2, 3, 4, 5, 6, 7] rfl, hfs_3_49, hfs_3_50, hfs_3_52, hfs_3_53, hfs_3_69, hfs_3_70, hfs_3_73, hfs_3_74, hfs_3_75, hfs_3_76, hfs_3_77, hfs_3_78, hfs_3_79, hlfs_3, hrs_4, hsp⟩
    · rw [if_neg c_1] at hsp
      refine lv_aload_n hx hb dX13_frame_15 rfl (lv_at hl 2 rfl) ?_
      refine va_get (D := (dC, dI)) (ci := 13) (v := .ref qf73) (C := RX13) (T := TX13) (N := 155) hx hb hts uV_h9_X13 hown hK hP 0 rfl rfl 73 (by decide) (hts (.fieldLink RX13 153 "ClassMillModel" "framePlace" "[I") mw_h9_179) (fun _ h9 => h9) hfh_7_73 dX13_frame_16 ?_
      refine lv_iload_n hx hb dX13_frame_19 rfl (lv_at hl 0 rfl) ?_
      obtain ⟨hi_5, hsp⟩ := ox_in hsp
      refine va_iald hx hb hK hP 1 0 rfl rfl (i := l3_7) hi_5 dX13_frame_20 ?_
      refine lv_iload_n hx hb dX13_frame_21 rfl (lv_at hl 3 rfl) ?_
      refine lv_icmp_ne (tgt := 27) hx hb dX13_frame_22 (by decide) (fun c_6 => ?_) (fun c_6 => ?_)
      · rw [if_neg c_6] at hsp
        refine lv_iinc (v := (l3_7 + 1)) (lv' := [(3, .int (l3_7 + 1)), (2, .int l2_7), (0, .ref h0), (1, .int l1_7)]) hx hb dX13_frame_27 hl (k := 0) rfl rfl (by decide) rfl (fun ls hl => ?_)
        refine lv_goto (tgt := 7) hx hb dX13_frame_30 (by decide) ?_
        exact ih_7 H locs ls z7 l1_7 l2_7 (l3_7 + 1) g73_7 g74_7 g75_7 g76_7 g77_7 x78_7 x79_7 (hfh_7_49) (hfh_7_50) (hfh_7_52) (hfh_7_53) (hfh_7_69) (hfh_7_70) (hfh_7_73) (hfh_7_74) (hfh_7_75) (hfh_7_76) (hfh_7_77) (hfh_7_78) (hfh_7_79) hlh_7 hrh_7 (lv_sub hl [0, 1, 2, 3] rfl) hS (hD.sub (ws' := [(h0, .inr (13, z7)), (qf73, .inl (cf73, 6200, .inl g73_7)), (qf74, .inl (cf74, 6200, .inl g74_7)), (qf75, .inl (cf75, 6200, .inl g75_7)), (qf76, .inl (cf76, 6200, .inl g76_7)), (qf77, .inl (cf77, 60000, .inl g77_7)), (qf69, .inl (cf69, 3000, .inl f69)), (qf49, .inl (cf49, 3000, .inl f49))]) [0, 1, 2, 3, 4, 5, 6, 7] (by decide) rfl) (hP.sub (ws' := [(h0, .inr (13, z7)), (qf73, .inl (cf73, 6200, .inl g73_7)), (qf74, .inl (cf74, 6200, .inl g74_7)), (qf75, .inl (cf75, 6200, .inl g75_7)), (qf76, .inl (cf76, 6200, .inl g76_7)), (qf77, .inl (cf77, 60000, .inl g77_7)), (qf69, .inl (cf69, 3000, .inl f69)), (qf49, .inl (cf49, 3000, .inl f49))]) [0, 1, 2, 3, 4, 5, 6, 7] rfl) hsp
      · rw [if_pos c_6] at hsp
        refine lv_iload_n hx hb dX13_frame_25 rfl (lv_at hl 0 rfl) ?_
        refine lv_istore_n (lv' := [(2, .int l3_7), (3, .int l3_7), (0, .ref h0), (1, .int l1_7)]) hx hb dX13_frame_26 rfl hl (by decide) rfl (fun ls hl => ?_)
        refine lv_iinc (v := (l3_7 + 1)) (lv' := [(3, .int (l3_7 + 1)), (2, .int l3_7), (0, .ref h0), (1, .int l1_7)]) hx hb dX13_frame_27 hl (k := 1) rfl rfl (by decide) rfl (fun ls hl => ?_)
        refine lv_goto (tgt := 7) hx hb dX13_frame_30 (by decide) ?_
        exact ih_7 H locs ls z7 l1_7 l3_7 (l3_7 + 1) g73_7 g74_7 g75_7 g76_7 g77_7 x78_7 x79_7 (hfh_7_49) (hfh_7_50) (hfh_7_52) (hfh_7_53) (hfh_7_69) (hfh_7_70) (hfh_7_73) (hfh_7_74) (hfh_7_75) (hfh_7_76) (hfh_7_77) (hfh_7_78) (hfh_7_79) hlh_7 hrh_7 (lv_sub hl [0, 1, 2, 3] rfl) hS (hD.sub (ws' := [(h0, .inr (13, z7)), (qf73, .inl (cf73, 6200, .inl g73_7)), (qf74, .inl (cf74, 6200, .inl g74_7)), (qf75, .inl (cf75, 6200, .inl g75_7)), (qf76, .inl (cf76, 6200, .inl g76_7)), (qf77, .inl (cf77, 60000, .inl g77_7)), (qf69, .inl (cf69, 3000, .inl f69)), (qf49, .inl (cf49, 3000, .inl f49))]) [0, 1, 2, 3, 4, 5, 6, 7] (by decide) rfl) (hP.sub (ws' := [(h0, .inr (13, z7)), (qf73, .inl (cf73, 6200, .inl g73_7)), (qf74, .inl (cf74, 6200, .inl g74_7)), (qf75, .inl (cf75, 6200, .inl g75_7)), (qf76, .inl (cf76, 6200, .inl g76_7)), (qf77, .inl (cf77, 60000, .inl g77_7)), (qf69, .inl (cf69, 3000, .inl f69)), (qf49, .inl (cf49, 3000, .inl f49))]) [0, 1, 2, 3, 4, 5, 6, 7] rfl) hsp
def sp_vm_number (nf : Nat) (a1 : Int32) (v62 : Int32) (v68 : Int32) (v70 : Int32) (v71 : Int32) (f7 : Nat → Int32) (f67 : Nat → Int32) (f58 : Nat → Int32) (f59 : Nat → Int32) (f60 : Nat → Int32) (f61 : Nat → Int32) (f69 : Nat → Int32) : Option ((Nat → Int32) × (Nat → Int32) × (Nat → Int32) × (Nat → Int32) × (Nat → Int32) × (Nat → Int32) × Int32 × Int32 × Int32 × Int32) := (if a1 < 0 then none else if 3002 ≤ (a1 : Int32).toNatClampNeg then none else (if 5 < (f7 (a1 : Int32).toNatClampNeg) then (if 127 < (f7 (a1 : Int32).toNatClampNeg) then ((sp_tm_put nf 18 v68 f67).bind (fun p1 => ((sp_vm_constant nf 2 (f7 (a1 : Int32).toNatClampNeg) 0 0 v62 f58 f59 f60 f61).bind (fun p2 => ((sp_tm_put nf p2.1 p1.2 p1.1).bind (fun p3 => ((sp_tm_push nf 0 v70 v71 f69).bind (fun p4 => (some (p2.2.1, p2.2.2.1, p2.2.2.2.1, p2.2.2.2.2.1, p3.1, p4.1, p2.2.2.2.2.2, p3.2, p4.2.1, p4.2.2)))))))))) else ((sp_tm_put nf 16 v68 f67).bind (fun p5 => ((sp_tm_put nf (f7 (a1 : Int32).toNatClampNeg) p5.2 p5.1).bind (fun p6 => ((sp_tm_push nf 0 v70 v71 f69).bind (fun p7 => (some (f58, f59, f60, f61, p6.1, p7.1, v62, p6.2, p7.2.1, p7.2.2))))))))) else ((sp_tm_put nf (3 + (f7 (a1 : Int32).toNatClampNeg)) v68 f67).bind (fun p8 => ((sp_tm_push nf 0 v70 v71 f69).bind (fun p9 => (some (f58, f59, f60, f61, p8.1, p9.1, v62, p8.2, p9.2.1, p9.2.2))))))))
set_option maxHeartbeats 4000000 in
set_option maxRecDepth 100000 in
/-- ClassMillModel.number -/
theorem vm_number (l : Launch) (dC : Nat → ClassId) (dI : Nat → Nat → Nat) (sz : Nat) (h0 : Nat) (zs : (List Value)) (a1 : Int32) (qf7 : Nat) (qf58 : Nat) (qf59 : Nat) (qf60 : Nat) (qf61 : Nat) (v62 : Int32) (qf67 : Nat) (v68 : Int32) (qf69 : Nat) (v70 : Int32) (v71 : Int32) (cf7 : ClassId) (f7 : (Nat → Int32)) (cf67 : ClassId) (f67 : (Nat → Int32)) (cf58 : ClassId) (f58 : (Nat → Int32)) (cf59 : ClassId) (f59 : (Nat → Int32)) (cf60 : ClassId) (f60 : (Nat → Int32)) (cf61 : ClassId) (f61 : (Nat → Int32)) (cf69 : ClassId) (f69 : (Nat → Int32)) (nf : Nat) (o58 : (Nat → Int32)) (o59 : (Nat → Int32)) (o60 : (Nat → Int32)) (o61 : (Nat → Int32)) (o67 : (Nat → Int32)) (o69 : (Nat → Int32)) (w62 : Int32) (w68 : Int32) (w70 : Int32) (w71 : Int32) (hlen : zs.length = 155) (hf7 : zs[7]? = some (.ref qf7)) (hf58 : zs[58]? = some (.ref qf58)) (hf59 : zs[59]? = some (.ref qf59)) (hf60 : zs[60]? = some (.ref qf60)) (hf61 : zs[61]? = some (.ref qf61)) (hf62 : zs[62]? = some (.int v62)) (hf67 : zs[67]? = some (.ref qf67)) (hf68 : zs[68]? = some (.int v68)) (hf69 : zs[69]? = some (.ref qf69)) (hf70 : zs[70]? = some (.int v70)) (hf71 : zs[71]? = some (.int v71)) (hsp : sp_vm_number nf a1 v62 v68 v70 v71 f7 f67 f58 f59 f60 f61 f69 = some (o58, o59, o60, o61, o67, o69, w62, w68, w70, w71)) : Met l yX13_number (.code yX13_number cX13_number 3 none :: VS_h9) ({ frames := 2, cells := 0, slots := 0, locals := 36 }) (va_Pc [.ref h0, .int a1] (fun U => U.heap.size = sz ∧ va_P (dC, dI) vwCl [(h0, .inr (13, zs)), (qf7, .inl (cf7, 3002, .inl f7)), (qf67, .inl (cf67, 12000, .inl f67)), (qf58, .inl (cf58, 2000, .inl f58)), (qf59, .inl (cf59, 2000, .inl f59)), (qf60, .inl (cf60, 2000, .inl f60)), (qf61, .inl (cf61, 2000, .inl f61)), (qf69, .inl (cf69, 3000, .inl f69))] U.heap ∧ va_K (dC, dI) vwCl [(cf7, .int), (cf67, .int), (cf58, .int), (cf59, .int), (cf60, .int), (cf61, .int), (cf69, .int)] U ∧ va_D (fun _ => True) [(h0, .inr (13, zs)), (qf7, .inl (cf7, 3002, .inl f7)), (qf67, .inl (cf67, 12000, .inl f67)), (qf58, .inl (cf58, 2000, .inl f58)), (qf59, .inl (cf59, 2000, .inl f59)), (qf60, .inl (cf60, 2000, .inl f60)), (qf61, .inl (cf61, 2000, .inl f61)), (qf69, .inl (cf69, 3000, .inl f69))])) (va_Qv (fun (u : (List Value)) => match u with | (zo1) => True ∧ zo1.length = 155 ∧ (∀ j : Nat, j ≠ 62 → j ≠ 68 → j ≠ 70 → j ≠ 71 → zo1[j]? = zs[j]?) ∧ zo1[62]? = some (.int w62) ∧ zo1[68]? = some (.int w68) ∧ zo1[70]? = some (.int w70) ∧ zo1[71]? = some (.int w71)) (fun (u : (List Value)) (t : State) => match u with | (zo1) => va_P (dC, dI) vwCl [(h0, .inr (13, zo1)), (qf7, .inl (cf7, 3002, .inl f7)), (qf67, .inl (cf67, 12000, .inl o67)), (qf58, .inl (cf58, 2000, .inl o58)), (qf59, .inl (cf59, 2000, .inl o59)), (qf60, .inl (cf60, 2000, .inl o60)), (qf61, .inl (cf61, 2000, .inl o61)), (qf69, .inl (cf69, 3000, .inl o69))] t.heap ∧ va_K (dC, dI) vwCl [(cf7, .int), (cf67, .int), (cf58, .int), (cf59, .int), (cf60, .int), (cf61, .int), (cf69, .int)] t ∧ va_D (va_A [(h0, .inr (13, zs)), (qf7, .inl (cf7, 3002, .inl f7)), (qf67, .inl (cf67, 12000, .inl f67)), (qf58, .inl (cf58, 2000, .inl f58)), (qf59, .inl (cf59, 2000, .inl f59)), (qf60, .inl (cf60, 2000, .inl f60)), (qf61, .inl (cf61, 2000, .inl f61)), (qf69, .inl (cf69, 3000, .inl f69))] sz) [(h0, .inr (13, zo1)), (qf7, .inl (cf7, 3002, .inl f7)), (qf67, .inl (cf67, 12000, .inl o67)), (qf58, .inl (cf58, 2000, .inl o58)), (qf59, .inl (cf59, 2000, .inl o59)), (qf60, .inl (cf60, 2000, .inl o60)), (qf61, .inl (cf61, 2000, .inl o61)), (qf69, .inl (cf69, 3000, .inl o69))]) (va_A [(h0, .inr (13, zs)), (qf7, .inl (cf7, 3002, .inl f7)), (qf67, .inl (cf67, 12000, .inl f67)), (qf58, .inl (cf58, 2000, .inl f58)), (qf59, .inl (cf59, 2000, .inl f59)), (qf60, .inl (cf60, 2000, .inl f60)), (qf61, .inl (cf61, 2000, .inl f61)), (qf69, .inl (cf69, 3000, .inl f69))] sz)) 0 0 (va_A [(h0, .inr (13, zs)), (qf7, .inl (cf7, 3002, .inl f7)), (qf67, .inl (cf67, 12000, .inl f67)), (qf58, .inl (cf58, 2000, .inl f58)), (qf59, .inl (cf59, 2000, .inl f59)), (qf60, .inl (cf60, 2000, .inl f60)), (qf61, .inl (cf61, 2000, .inl f61)), (qf69, .inl (cf69, 3000, .inl f69))] sz) := by
  refine Met.ofW (cc := cX13_number) (maxL := 3) (ret := none) (by decide) rfl ?_
  intro p e s m args below meth c s₁ B hml hv
  obtain ⟨rfl, hsz, hP, hK, hD0⟩ := hv
  have hx := B.exec
  have hb := B.bytes
  have hr := B.returns
  have hts := atoms_spec (ws := (.code yX13_number cX13_number 3 none :: VS_h9)) B.pre
  replace hts := fun w (h : w ∈ VS_h9) => hts w (List.mem_cons_of_mem _ h)
  have hown : s.vm.findClass RX13 = some m.cls := findClass_of_methodNamed B.named
  have hlocks := B.notSynchronized
  subst hsz
  have hD := hD0.self (sz := s.heap.size)
  generalize hAe : va_A [(h0, .inr (13, zs)), (qf7, .inl (cf7, 3002, .inl f7)), (qf67, .inl (cf67, 12000, .inl f67)), (qf58, .inl (cf58, 2000, .inl f58)), (qf59, .inl (cf59, 2000, .inl f59)), (qf60, .inl (cf60, 2000, .inl f60)), (qf61, .inl (cf61, 2000, .inl f61)), (qf69, .inl (cf69, 3000, .inl f69))] s.heap.size = A at hD  ⊢
  have hA : ∀ q : Nat, s.heap.size ≤ q → A q := fun q h => by rw [← hAe]; exact Or.inr h
  have hP : va_P (dC, dI) vwCl [(h0, .inr (13, zs)), (qf7, .inl (cf7, 3002, .inl f7)), (qf67, .inl (cf67, 12000, .inl f67)), (qf58, .inl (cf58, 2000, .inl f58)), (qf59, .inl (cf59, 2000, .inl f59)), (qf60, .inl (cf60, 2000, .inl f60)), (qf61, .inl (cf61, 2000, .inl f61)), (qf69, .inl (cf69, 3000, .inl f69))] s.heap := hP
  have hl := lv_entry ([.ref h0, .int a1]) (n := 3) (Nat.le_of_ble_eq_true rfl)
  rw [lg_entry_eq]
  generalize (lg_sl ([.ref h0, .int a1]) ++ List.replicate (3 - (lg_sl ([.ref h0, .int a1])).length) Slot.unset).toArray = ls at hl ⊢
  have hl : lv_has ls 3 [(0, .ref h0), (1, .int a1)] := hl
  obtain ⟨H, hH⟩ : ∃ H : Heap, s.heap = H := ⟨_, rfl⟩
  rw [hH] at hP ⊢
  have hS : va_S A s.heap H [] := by rw [← hH]; exact va_S.rf
  obtain ⟨locs, hlo⟩ : ∃ locs : List Loc, locs = [] := ⟨_, rfl⟩
  rw [← hlo] at hS ⊢
  have hrs0 : ∀ j : Nat, j ≠ 62 → j ≠ 68 → j ≠ 70 → j ≠ 71 → zs[j]? = zs[j]? := fun _ _ _ _ _  => rfl
  unfold sp_vm_number at hsp
  refine lv_aload_n hx hb dX13_number_0 rfl (lv_at hl 0 rfl) ?_
  refine va_get (D := (dC, dI)) (ci := 13) (v := .ref qf7) (C := RX13) (T := TX13) (N := 155) hx hb hts uV_h9_X13 hown hK hP 0 rfl rfl 7 (by decide) (hts (.fieldLink RX13 25 "ClassMillModel" "value" "[I") mw_h9_86) (fun _ h9 => h9) hf7 dX13_number_1 ?_
  refine lv_iload_n hx hb dX13_number_4 rfl (lv_at hl 1 rfl) ?_
  obtain ⟨hi_1, hsp⟩ := ox_in hsp
  refine va_iald hx hb hK hP 1 0 rfl rfl (i := a1) hi_1 dX13_number_5 ?_
  refine lv_istore_n (lv' := [(2, .int (f7 (a1 : Int32).toNatClampNeg)), (0, .ref h0), (1, .int a1)]) hx hb dX13_number_6 rfl hl (by decide) rfl (fun ls hl => ?_)
  refine lv_iload_n hx hb dX13_number_7 rfl (lv_at hl 0 rfl) ?_
  refine lv_iconst (v := 5) hx hb dX13_number_8 (by decide) ?_
  refine lv_icmp_gt (tgt := 22) hx hb dX13_number_9 (by decide) (fun c_2 => ?_) (fun c_2 => ?_)
  · rw [if_pos c_2] at hsp
    refine lv_iload_n hx hb dX13_number_22 rfl (lv_at hl 0 rfl) ?_
    refine lv_bipush (v := 127) hx hb dX13_number_23 (by decide) ?_
    refine lv_icmp_gt (tgt := 42) hx hb dX13_number_25 (by decide) (fun c_3 => ?_) (fun c_3 => ?_)
    · rw [if_pos c_3] at hsp
      refine lv_aload_n hx hb dX13_number_42 rfl (lv_at hl 1 rfl) ?_
      refine lv_bipush (v := 18) hx hb dX13_number_43 (by decide) ?_
      obtain ⟨⟨g901_0, u1_1⟩, hu_1, hsp⟩ := ox_bind hsp
      try dsimp only at hsp
      have hPc := hP.sub (ws' := [(h0, .inr (13, zs)), (qf67, .inl (cf67, 12000, .inl f67))]) [0, 2] rfl
      have hDc := hD.sub (ws' := [(h0, .inr (13, zs)), (qf67, .inl (cf67, 12000, .inl f67))]) [0, 2] (by decide) rfl
      have hKc := hK.sub (tys' := [(cf67, .int)]) [1] rfl
      have hFc := va_free (wc := [(h0, .inr (13, zs)), (qf67, .inl (cf67, 12000, .inl f67))]) hD hS hA [0, 2] rfl
      refine va_callv (va_runV (As := [.int 18]) (rest := []) ⟨hx, hb, hml, hown, hts⟩ (tm_put l dC dI H.size h0 zs 18 qf67 v68 cf67 f67 nf g901_0 u1_1 hlen hf67 hf68 hu_1) (cwV 1 hts gv_h9_32 rfl rfl rfl (by decide +kernel) ⟨Nat.le_of_ble_eq_true rfl, Nat.le_of_ble_eq_true rfl⟩) ⟨fun a U g mk q => by obtain ⟨q0, q1, qP, qK, qD⟩ := q; exact ⟨q0, q1, qP, va_K.moved (u := U) (U := U.calling g mk a) (Vm.Alike.refl U.vm) qK, qD⟩, va_recv hKc hPc (ci := 13) (q0 := 0) rfl rfl, fun U hU hW => ⟨rfl, by rw [hU], by rw [hU]; exact hPc, va_K.moved hW.alike hKc, hDc.weaken (fun _ _ _ _ => trivial)⟩⟩ rfl rfl hl.1 rfl (lv_room (Nat.le_of_ble_eq_true rfl)) dX13_number_45 ⟨Nat.le_of_ble_eq_true rfl, Nat.le_of_ble_eq_true rfl⟩) hS (fun q _ h => hFc q h) hFc ?_
      clear hS
      intro u t H1 locs ht hvm hw hB hz1 hk1 hS
      obtain ⟨z_1, rfl⟩ : ∃ z, z = u := ⟨_, rfl⟩
      obtain ⟨hP1, hK1, hD1⟩ := hB
      rw [ht] at hP1
      have hK1 := va_K.moved hvm.symm hK1
      try dsimp only at hw
      have hPD := va_join (wr := [(qf7, .inl (cf7, 3002, .inl f7)), (qf58, .inl (cf58, 2000, .inl f58)), (qf59, .inl (cf59, 2000, .inl f59)), (qf60, .inl (cf60, 2000, .inl f60)), (qf61, .inl (cf61, 2000, .inl f61)), (qf69, .inl (cf69, 3000, .inl f69))]) (w1 := [(h0, .inr (13, z_1)), (qf67, .inl (cf67, 12000, .inl g901_0))]) hP hD [0, 2] [1, 3, 4, 5, 6, 7] rfl rfl (by decide) (by decide) hk1 hFc hP1 hD1
      clear hP hD
      obtain ⟨hP, hD⟩ := hPD
      replace hK := (hK.sub (tys' := [(cf7, .int), (cf58, .int), (cf59, .int), (cf60, .int), (cf61, .int), (cf69, .int)]) [0, 2, 3, 4, 5, 6] rfl).app hK1
      clear hPc hDc hKc hFc hP1 hK1 hD1 hz1 hk1 ht hvm
      generalize H1 = H at hP hS ⊢
      replace hP : va_P (dC, dI) vwCl [(qf7, .inl (cf7, 3002, .inl f7)), (qf58, .inl (cf58, 2000, .inl f58)), (qf59, .inl (cf59, 2000, .inl f59)), (qf60, .inl (cf60, 2000, .inl f60)), (qf61, .inl (cf61, 2000, .inl f61)), (qf69, .inl (cf69, 3000, .inl f69)), (h0, .inr (13, z_1)), (qf67, .inl (cf67, 12000, .inl g901_0))] H := hP
      replace hD : va_D A [(qf7, .inl (cf7, 3002, .inl f7)), (qf58, .inl (cf58, 2000, .inl f58)), (qf59, .inl (cf59, 2000, .inl f59)), (qf60, .inl (cf60, 2000, .inl f60)), (qf61, .inl (cf61, 2000, .inl f61)), (qf69, .inl (cf69, 3000, .inl f69)), (h0, .inr (13, z_1)), (qf67, .inl (cf67, 12000, .inl g901_0))] := hD
      replace hK : va_K (dC, dI) vwCl [(cf7, .int), (cf58, .int), (cf59, .int), (cf60, .int), (cf61, .int), (cf69, .int), (cf67, .int)] s := hK
      obtain ⟨hwa_1, hln_1, hre_1, hch_1_68⟩ := hw
      have hfk_1_7 : z_1[7]? = some (.ref qf7) := (hre_1 7 (by decide)).trans (hf7)
      have hfk_1_58 : z_1[58]? = some (.ref qf58) := (hre_1 58 (by decide)).trans (hf58)
      have hfk_1_59 : z_1[59]? = some (.ref qf59) := (hre_1 59 (by decide)).trans (hf59)
      have hfk_1_60 : z_1[60]? = some (.ref qf60) := (hre_1 60 (by decide)).trans (hf60)
      have hfk_1_61 : z_1[61]? = some (.ref qf61) := (hre_1 61 (by decide)).trans (hf61)
      have hfk_1_62 : z_1[62]? = some (.int v62) := (hre_1 62 (by decide)).trans (hf62)
      have hfk_1_67 : z_1[67]? = some (.ref qf67) := (hre_1 67 (by decide)).trans (hf67)
      have hfk_1_69 : z_1[69]? = some (.ref qf69) := (hre_1 69 (by decide)).trans (hf69)
      have hfk_1_70 : z_1[70]? = some (.int v70) := (hre_1 70 (by decide)).trans (hf70)
      have hfk_1_71 : z_1[71]? = some (.int v71) := (hre_1 71 (by decide)).trans (hf71)
      have hrq_1 : ∀ j : Nat, j ≠ 62 → j ≠ 68 → j ≠ 70 → j ≠ 71 → z_1[j]? = zs[j]? := fun j g62 g68 g70 g71 => (hre_1 j g68).trans (hrs0 j g62 g68 g70 g71)
      refine lv_aload_n hx hb dX13_number_48 rfl (lv_at hl 1 rfl) ?_
      refine lv_aload_n hx hb dX13_number_49 rfl (lv_at hl 1 rfl) ?_
      refine lv_iconst (v := 2) hx hb dX13_number_50 (by decide) ?_
      refine lv_iload_n hx hb dX13_number_51 rfl (lv_at hl 0 rfl) ?_
      refine lv_iconst (v := 0) hx hb dX13_number_52 (by decide) ?_
      refine lv_iconst (v := 0) hx hb dX13_number_53 (by decide) ?_
      obtain ⟨⟨u2_0, g902_1, g902_2, g902_3, g902_4, u2_5⟩, hu_2, hsp⟩ := ox_bind hsp
      try dsimp only at hsp
      have hPc := hP.sub (ws' := [(h0, .inr (13, z_1)), (qf58, .inl (cf58, 2000, .inl f58)), (qf59, .inl (cf59, 2000, .inl f59)), (qf60, .inl (cf60, 2000, .inl f60)), (qf61, .inl (cf61, 2000, .inl f61))]) [6, 1, 2, 3, 4] rfl
      have hDc := hD.sub (ws' := [(h0, .inr (13, z_1)), (qf58, .inl (cf58, 2000, .inl f58)), (qf59, .inl (cf59, 2000, .inl f59)), (qf60, .inl (cf60, 2000, .inl f60)), (qf61, .inl (cf61, 2000, .inl f61))]) [6, 1, 2, 3, 4] (by decide) rfl
      have hKc := hK.sub (tys' := [(cf58, .int), (cf59, .int), (cf60, .int), (cf61, .int)]) [1, 2, 3, 4] rfl
      have hFc := va_free (wc := [(h0, .inr (13, z_1)), (qf58, .inl (cf58, 2000, .inl f58)), (qf59, .inl (cf59, 2000, .inl f59)), (qf60, .inl (cf60, 2000, .inl f60)), (qf61, .inl (cf61, 2000, .inl f61))]) hD hS hA [6, 1, 2, 3, 4] rfl
      refine va_calli (va_runV (As := [.int 2, .int (f7 (a1 : Int32).toNatClampNeg), .int 0, .int 0]) (rest := [.ref h0]) ⟨hx, hb, hml, hown, hts⟩ (vm_constant l dC dI H.size h0 z_1 2 ((f7 (a1 : Int32).toNatClampNeg)) 0 0 qf58 qf59 qf60 qf61 v62 cf58 f58 cf59 f59 cf60 f60 cf61 f61 nf u2_0 g902_1 g902_2 g902_3 g902_4 u2_5 hln_1 hfk_1_58 hfk_1_59 hfk_1_60 hfk_1_61 hfk_1_62 hu_2) (cwV 4 hts gv_h9_33 rfl rfl rfl (by decide +kernel) ⟨Nat.le_of_ble_eq_true rfl, Nat.le_of_ble_eq_true rfl⟩) ⟨fun a U g mk q => by obtain ⟨q0, q1, qP, qK, qD⟩ := q; exact ⟨q0, q1, qP, va_K.moved (u := U) (U := U.calling g mk a) (Vm.Alike.refl U.vm) qK, qD⟩, va_recv hKc hPc (ci := 13) (q0 := 0) rfl rfl, fun U hU hW => ⟨rfl, by rw [hU], by rw [hU]; exact hPc, va_K.moved hW.alike hKc, hDc.weaken (fun _ _ _ _ => trivial)⟩⟩ rfl rfl hl.1 rfl (lv_room (Nat.le_of_ble_eq_true rfl)) dX13_number_54 ⟨Nat.le_of_ble_eq_true rfl, Nat.le_of_ble_eq_true rfl⟩) hS (fun q _ h => hFc q h) hFc ?_
      clear hS
      intro r_4 u t H1 locs ht hvm hw hB hz1 hk1 hS
      obtain ⟨z_2, rfl⟩ : ∃ z, z = u := ⟨_, rfl⟩
      obtain ⟨hP1, hK1, hD1⟩ := hB
      rw [ht] at hP1
      have hK1 := va_K.moved hvm.symm hK1
      try dsimp only at hw
      have hPD := va_join (wr := [(qf7, .inl (cf7, 3002, .inl f7)), (qf69, .inl (cf69, 3000, .inl f69)), (qf67, .inl (cf67, 12000, .inl g901_0))]) (w1 := [(h0, .inr (13, z_2)), (qf58, .inl (cf58, 2000, .inl g902_1)), (qf59, .inl (cf59, 2000, .inl g902_2)), (qf60, .inl (cf60, 2000, .inl g902_3)), (qf61, .inl (cf61, 2000, .inl g902_4))]) hP hD [6, 1, 2, 3, 4] [0, 5, 7] rfl rfl (by decide) (by decide) hk1 hFc hP1 hD1
      clear hP hD
      obtain ⟨hP, hD⟩ := hPD
      replace hK := (hK.sub (tys' := [(cf7, .int), (cf69, .int), (cf67, .int)]) [0, 5, 6] rfl).app hK1
      clear hPc hDc hKc hFc hP1 hK1 hD1 hz1 hk1 ht hvm
      generalize H1 = H at hP hS ⊢
      replace hP : va_P (dC, dI) vwCl [(qf7, .inl (cf7, 3002, .inl f7)), (qf69, .inl (cf69, 3000, .inl f69)), (qf67, .inl (cf67, 12000, .inl g901_0)), (h0, .inr (13, z_2)), (qf58, .inl (cf58, 2000, .inl g902_1)), (qf59, .inl (cf59, 2000, .inl g902_2)), (qf60, .inl (cf60, 2000, .inl g902_3)), (qf61, .inl (cf61, 2000, .inl g902_4))] H := hP
      replace hD : va_D A [(qf7, .inl (cf7, 3002, .inl f7)), (qf69, .inl (cf69, 3000, .inl f69)), (qf67, .inl (cf67, 12000, .inl g901_0)), (h0, .inr (13, z_2)), (qf58, .inl (cf58, 2000, .inl g902_1)), (qf59, .inl (cf59, 2000, .inl g902_2)), (qf60, .inl (cf60, 2000, .inl g902_3)), (qf61, .inl (cf61, 2000, .inl g902_4))] := hD
      replace hK : va_K (dC, dI) vwCl [(cf7, .int), (cf69, .int), (cf67, .int), (cf58, .int), (cf59, .int), (cf60, .int), (cf61, .int)] s := hK
      obtain ⟨hwa_2, hln_2, hre_2, hch_2_62⟩ := hw
      have hfk_2_7 : z_2[7]? = some (.ref qf7) := (hre_2 7 (by decide)).trans (hfk_1_7)
      have hfk_2_58 : z_2[58]? = some (.ref qf58) := (hre_2 58 (by decide)).trans (hfk_1_58)
      have hfk_2_59 : z_2[59]? = some (.ref qf59) := (hre_2 59 (by decide)).trans (hfk_1_59)
      have hfk_2_60 : z_2[60]? = some (.ref qf60) := (hre_2 60 (by decide)).trans (hfk_1_60)
      have hfk_2_61 : z_2[61]? = some (.ref qf61) := (hre_2 61 (by decide)).trans (hfk_1_61)
      have hfk_2_67 : z_2[67]? = some (.ref qf67) := (hre_2 67 (by decide)).trans (hfk_1_67)
      have hfk_2_68 : z_2[68]? = some (.int u1_1) := (hre_2 68 (by decide)).trans (hch_1_68)
      have hfk_2_69 : z_2[69]? = some (.ref qf69) := (hre_2 69 (by decide)).trans (hfk_1_69)
      have hfk_2_70 : z_2[70]? = some (.int v70) := (hre_2 70 (by decide)).trans (hfk_1_70)
      have hfk_2_71 : z_2[71]? = some (.int v71) := (hre_2 71 (by decide)).trans (hfk_1_71)
      have hrq_2 : ∀ j : Nat, j ≠ 62 → j ≠ 68 → j ≠ 70 → j ≠ 71 → z_2[j]? = zs[j]? := fun j g62 g68 g70 g71 => (hre_2 j g62).trans (hrq_1 j g62 g68 g70 g71)
      obtain rfl := hwa_2
      obtain ⟨⟨g903_0, u3_1⟩, hu_3, hsp⟩ := ox_bind hsp
      try dsimp only at hsp
      have hPc := hP.sub (ws' := [(h0, .inr (13, z_2)), (qf67, .inl (cf67, 12000, .inl g901_0))]) [3, 2] rfl
      have hDc := hD.sub (ws' := [(h0, .inr (13, z_2)), (qf67, .inl (cf67, 12000, .inl g901_0))]) [3, 2] (by decide) rfl
      have hKc := hK.sub (tys' := [(cf67, .int)]) [2] rfl
      have hFc := va_free (wc := [(h0, .inr (13, z_2)), (qf67, .inl (cf67, 12000, .inl g901_0))]) hD hS hA [3, 2] rfl
      refine va_callv (va_runV (As := [.int u2_0]) (rest := []) ⟨hx, hb, hml, hown, hts⟩ (tm_put l dC dI H.size h0 z_2 u2_0 qf67 u1_1 cf67 g901_0 nf g903_0 u3_1 hln_2 hfk_2_67 hfk_2_68 hu_3) (cwV 1 hts gv_h9_32 rfl rfl rfl (by decide +kernel) ⟨Nat.le_of_ble_eq_true rfl, Nat.le_of_ble_eq_true rfl⟩) ⟨fun a U g mk q => by obtain ⟨q0, q1, qP, qK, qD⟩ := q; exact ⟨q0, q1, qP, va_K.moved (u := U) (U := U.calling g mk a) (Vm.Alike.refl U.vm) qK, qD⟩, va_recv hKc hPc (ci := 13) (q0 := 0) rfl rfl, fun U hU hW => ⟨rfl, by rw [hU], by rw [hU]; exact hPc, va_K.moved hW.alike hKc, hDc.weaken (fun _ _ _ _ => trivial)⟩⟩ rfl rfl hl.1 rfl (lv_room (Nat.le_of_ble_eq_true rfl)) dX13_number_57 ⟨Nat.le_of_ble_eq_true rfl, Nat.le_of_ble_eq_true rfl⟩) hS (fun q _ h => hFc q h) hFc ?_
      clear hS
      intro u t H1 locs ht hvm hw hB hz1 hk1 hS
      obtain ⟨z_3, rfl⟩ : ∃ z, z = u := ⟨_, rfl⟩
      obtain ⟨hP1, hK1, hD1⟩ := hB
      rw [ht] at hP1
      have hK1 := va_K.moved hvm.symm hK1
      try dsimp only at hw
      have hPD := va_join (wr := [(qf7, .inl (cf7, 3002, .inl f7)), (qf69, .inl (cf69, 3000, .inl f69)), (qf58, .inl (cf58, 2000, .inl g902_1)), (qf59, .inl (cf59, 2000, .inl g902_2)), (qf60, .inl (cf60, 2000, .inl g902_3)), (qf61, .inl (cf61, 2000, .inl g902_4))]) (w1 := [(h0, .inr (13, z_3)), (qf67, .inl (cf67, 12000, .inl g903_0))]) hP hD [3, 2] [0, 1, 4, 5, 6, 7] rfl rfl (by decide) (by decide) hk1 hFc hP1 hD1
      clear hP hD
      obtain ⟨hP, hD⟩ := hPD
      replace hK := (hK.sub (tys' := [(cf7, .int), (cf69, .int), (cf58, .int), (cf59, .int), (cf60, .int), (cf61, .int)]) [0, 1, 3, 4, 5, 6] rfl).app hK1
      clear hPc hDc hKc hFc hP1 hK1 hD1 hz1 hk1 ht hvm
      generalize H1 = H at hP hS ⊢
      replace hP : va_P (dC, dI) vwCl [(qf7, .inl (cf7, 3002, .inl f7)), (qf69, .inl (cf69, 3000, .inl f69)), (qf58, .inl (cf58, 2000, .inl g902_1)), (qf59, .inl (cf59, 2000, .inl g902_2)), (qf60, .inl (cf60, 2000, .inl g902_3)), (qf61, .inl (cf61, 2000, .inl g902_4)), (h0, .inr (13, z_3)), (qf67, .inl (cf67, 12000, .inl g903_0))] H := hP
      replace hD : va_D A [(qf7, .inl (cf7, 3002, .inl f7)), (qf69, .inl (cf69, 3000, .inl f69)), (qf58, .inl (cf58, 2000, .inl g902_1)), (qf59, .inl (cf59, 2000, .inl g902_2)), (qf60, .inl (cf60, 2000, .inl g902_3)), (qf61, .inl (cf61, 2000, .inl g902_4)), (h0, .inr (13, z_3)), (qf67, .inl (cf67, 12000, .inl g903_0))] := hD
      replace hK : va_K (dC, dI) vwCl [(cf7, .int), (cf69, .int), (cf58, .int), (cf59, .int), (cf60, .int), (cf61, .int), (cf67, .int)] s := hK
      obtain ⟨hwa_3, hln_3, hre_3, hch_3_68⟩ := hw
      have hfk_3_7 : z_3[7]? = some (.ref qf7) := (hre_3 7 (by decide)).trans (hfk_2_7)
      have hfk_3_58 : z_3[58]? = some (.ref qf58) := (hre_3 58 (by decide)).trans (hfk_2_58)
      have hfk_3_59 : z_3[59]? = some (.ref qf59) := (hre_3 59 (by decide)).trans (hfk_2_59)
      have hfk_3_60 : z_3[60]? = some (.ref qf60) := (hre_3 60 (by decide)).trans (hfk_2_60)
      have hfk_3_61 : z_3[61]? = some (.ref qf61) := (hre_3 61 (by decide)).trans (hfk_2_61)
      have hfk_3_62 : z_3[62]? = some (.int u2_5) := (hre_3 62 (by decide)).trans (hch_2_62)
      have hfk_3_67 : z_3[67]? = some (.ref qf67) := (hre_3 67 (by decide)).trans (hfk_2_67)
      have hfk_3_69 : z_3[69]? = some (.ref qf69) := (hre_3 69 (by decide)).trans (hfk_2_69)
      have hfk_3_70 : z_3[70]? = some (.int v70) := (hre_3 70 (by decide)).trans (hfk_2_70)
      have hfk_3_71 : z_3[71]? = some (.int v71) := (hre_3 71 (by decide)).trans (hfk_2_71)
      have hrq_3 : ∀ j : Nat, j ≠ 62 → j ≠ 68 → j ≠ 70 → j ≠ 71 → z_3[j]? = zs[j]? := fun j g62 g68 g70 g71 => (hre_3 j g68).trans (hrq_2 j g62 g68 g70 g71)
      refine lv_aload_n hx hb dX13_number_60 rfl (lv_at hl 1 rfl) ?_
      refine lv_iconst (v := 0) hx hb dX13_number_61 (by decide) ?_
      obtain ⟨⟨g904_0, u4_1, u4_2⟩, hu_4, hsp⟩ := ox_bind hsp
      try dsimp only at hsp
      have hPc := hP.sub (ws' := [(h0, .inr (13, z_3)), (qf69, .inl (cf69, 3000, .inl f69))]) [6, 1] rfl
      have hDc := hD.sub (ws' := [(h0, .inr (13, z_3)), (qf69, .inl (cf69, 3000, .inl f69))]) [6, 1] (by decide) rfl
      have hKc := hK.sub (tys' := [(cf69, .int)]) [1] rfl
      have hFc := va_free (wc := [(h0, .inr (13, z_3)), (qf69, .inl (cf69, 3000, .inl f69))]) hD hS hA [6, 1] rfl
      refine va_callv (va_runV (As := [.int 0]) (rest := []) ⟨hx, hb, hml, hown, hts⟩ (tm_push l dC dI H.size h0 z_3 0 qf69 v70 v71 cf69 f69 nf g904_0 u4_1 u4_2 hln_3 hfk_3_69 hfk_3_70 hfk_3_71 hu_4) (cwV 1 hts gv_h9_34 rfl rfl rfl (by decide +kernel) ⟨Nat.le_of_ble_eq_true rfl, Nat.le_of_ble_eq_true rfl⟩) ⟨fun a U g mk q => by obtain ⟨q0, q1, qP, qK, qD⟩ := q; exact ⟨q0, q1, qP, va_K.moved (u := U) (U := U.calling g mk a) (Vm.Alike.refl U.vm) qK, qD⟩, va_recv hKc hPc (ci := 13) (q0 := 0) rfl rfl, fun U hU hW => ⟨rfl, by rw [hU], by rw [hU]; exact hPc, va_K.moved hW.alike hKc, hDc.weaken (fun _ _ _ _ => trivial)⟩⟩ rfl rfl hl.1 rfl (lv_room (Nat.le_of_ble_eq_true rfl)) dX13_number_62 ⟨Nat.le_of_ble_eq_true rfl, Nat.le_of_ble_eq_true rfl⟩) hS (fun q _ h => hFc q h) hFc ?_
      clear hS
      intro u t H1 locs ht hvm hw hB hz1 hk1 hS
      obtain ⟨z_4, rfl⟩ : ∃ z, z = u := ⟨_, rfl⟩
      obtain ⟨hP1, hK1, hD1⟩ := hB
      rw [ht] at hP1
      have hK1 := va_K.moved hvm.symm hK1
      try dsimp only at hw
      have hPD := va_join (wr := [(qf7, .inl (cf7, 3002, .inl f7)), (qf58, .inl (cf58, 2000, .inl g902_1)), (qf59, .inl (cf59, 2000, .inl g902_2)), (qf60, .inl (cf60, 2000, .inl g902_3)), (qf61, .inl (cf61, 2000, .inl g902_4)), (qf67, .inl (cf67, 12000, .inl g903_0))]) (w1 := [(h0, .inr (13, z_4)), (qf69, .inl (cf69, 3000, .inl g904_0))]) hP hD [6, 1] [0, 2, 3, 4, 5, 7] rfl rfl (by decide) (by decide) hk1 hFc hP1 hD1
      clear hP hD
      obtain ⟨hP, hD⟩ := hPD
      replace hK := (hK.sub (tys' := [(cf7, .int), (cf58, .int), (cf59, .int), (cf60, .int), (cf61, .int), (cf67, .int)]) [0, 2, 3, 4, 5, 6] rfl).app hK1
      clear hPc hDc hKc hFc hP1 hK1 hD1 hz1 hk1 ht hvm
      generalize H1 = H at hP hS ⊢
      replace hP : va_P (dC, dI) vwCl [(qf7, .inl (cf7, 3002, .inl f7)), (qf58, .inl (cf58, 2000, .inl g902_1)), (qf59, .inl (cf59, 2000, .inl g902_2)), (qf60, .inl (cf60, 2000, .inl g902_3)), (qf61, .inl (cf61, 2000, .inl g902_4)), (qf67, .inl (cf67, 12000, .inl g903_0)), (h0, .inr (13, z_4)), (qf69, .inl (cf69, 3000, .inl g904_0))] H := hP
      replace hD : va_D A [(qf7, .inl (cf7, 3002, .inl f7)), (qf58, .inl (cf58, 2000, .inl g902_1)), (qf59, .inl (cf59, 2000, .inl g902_2)), (qf60, .inl (cf60, 2000, .inl g902_3)), (qf61, .inl (cf61, 2000, .inl g902_4)), (qf67, .inl (cf67, 12000, .inl g903_0)), (h0, .inr (13, z_4)), (qf69, .inl (cf69, 3000, .inl g904_0))] := hD
      replace hK : va_K (dC, dI) vwCl [(cf7, .int), (cf58, .int), (cf59, .int), (cf60, .int), (cf61, .int), (cf67, .int), (cf69, .int)] s := hK
      obtain ⟨hwa_4, hln_4, hre_4, hch_4_70, hch_4_71⟩ := hw
      have hfk_4_7 : z_4[7]? = some (.ref qf7) := (hre_4 7 (by decide) (by decide)).trans (hfk_3_7)
      have hfk_4_58 : z_4[58]? = some (.ref qf58) := (hre_4 58 (by decide) (by decide)).trans (hfk_3_58)
      have hfk_4_59 : z_4[59]? = some (.ref qf59) := (hre_4 59 (by decide) (by decide)).trans (hfk_3_59)
      have hfk_4_60 : z_4[60]? = some (.ref qf60) := (hre_4 60 (by decide) (by decide)).trans (hfk_3_60)
      have hfk_4_61 : z_4[61]? = some (.ref qf61) := (hre_4 61 (by decide) (by decide)).trans (hfk_3_61)
      have hfk_4_62 : z_4[62]? = some (.int u2_5) := (hre_4 62 (by decide) (by decide)).trans (hfk_3_62)
      have hfk_4_67 : z_4[67]? = some (.ref qf67) := (hre_4 67 (by decide) (by decide)).trans (hfk_3_67)
      have hfk_4_68 : z_4[68]? = some (.int u3_1) := (hre_4 68 (by decide) (by decide)).trans (hch_3_68)
      have hfk_4_69 : z_4[69]? = some (.ref qf69) := (hre_4 69 (by decide) (by decide)).trans (hfk_3_69)
      have hrq_4 : ∀ j : Nat, j ≠ 62 → j ≠ 68 → j ≠ 70 → j ≠ 71 → z_4[j]? = zs[j]? := fun j g62 g68 g70 g71 => (hre_4 j g70 g71).trans (hrq_3 j g62 g68 g70 g71)
      have hr0 := Option.some.inj hsp
      clear hsp
      obtain ⟨hq0, hr1⟩ := Prod.mk.inj hr0
      clear hr0
      obtain ⟨hq1, hr2⟩ := Prod.mk.inj hr1
      clear hr1
      obtain ⟨hq2, hr3⟩ := Prod.mk.inj hr2
      clear hr2
      obtain ⟨hq3, hr4⟩ := Prod.mk.inj hr3
      clear hr3
      obtain ⟨hq4, hr5⟩ := Prod.mk.inj hr4
      clear hr4
      obtain ⟨hq5, hr6⟩ := Prod.mk.inj hr5
      clear hr5
      obtain ⟨hq6, hr7⟩ := Prod.mk.inj hr6
      clear hr6
      obtain ⟨hq7, hr8⟩ := Prod.mk.inj hr7
      clear hr7
      obtain ⟨hq8, hr9⟩ := Prod.mk.inj hr8
      clear hr8
      subst hq0
      subst hq1
      subst hq2
      subst hq3
      subst hq4
      subst hq5
      subst hq6
      subst hq7
      subst hq8
      subst hr9
      have hP9 := hP.sub (ws' := [(h0, .inr (13, z_4)), (qf7, .inl (cf7, 3002, .inl f7)), (qf67, .inl (cf67, 12000, .inl g903_0)), (qf58, .inl (cf58, 2000, .inl g902_1)), (qf59, .inl (cf59, 2000, .inl g902_2)), (qf60, .inl (cf60, 2000, .inl g902_3)), (qf61, .inl (cf61, 2000, .inl g902_4)), (qf69, .inl (cf69, 3000, .inl g904_0))]) [6, 0, 5, 1, 2, 3, 4, 7] rfl
      have hD9 := hD.sub (ws' := [(h0, .inr (13, z_4)), (qf7, .inl (cf7, 3002, .inl f7)), (qf67, .inl (cf67, 12000, .inl g903_0)), (qf58, .inl (cf58, 2000, .inl g902_1)), (qf59, .inl (cf59, 2000, .inl g902_2)), (qf60, .inl (cf60, 2000, .inl g902_3)), (qf61, .inl (cf61, 2000, .inl g902_4)), (qf69, .inl (cf69, 3000, .inl g904_0))]) [6, 0, 5, 1, 2, 3, 4, 7] (by decide) rfl
      have hK9 := hK.sub (tys' := [(cf7, .int), (cf67, .int), (cf58, .int), (cf59, .int), (cf60, .int), (cf61, .int), (cf69, .int)]) [0, 5, 1, 2, 3, 4, 6] rfl
      exact W.vret hx hb hr (fun t ht hW => ⟨⟨(z_4), rfl, ⟨trivial, hln_4, hrq_4, hfk_4_62, hfk_4_68, hch_4_70, hch_4_71⟩, by rw [ht]; exact hP9, va_K.moved hW.alike hK9, hD9⟩, hS.F ht⟩) hS.2.2 dX13_number_65
    · rw [if_neg c_3] at hsp
      refine lv_aload_n hx hb dX13_number_28 rfl (lv_at hl 1 rfl) ?_
      refine lv_bipush (v := 16) hx hb dX13_number_29 (by decide) ?_
      obtain ⟨⟨g905_0, u5_1⟩, hu_5, hsp⟩ := ox_bind hsp
      try dsimp only at hsp
      have hPc := hP.sub (ws' := [(h0, .inr (13, zs)), (qf67, .inl (cf67, 12000, .inl f67))]) [0, 2] rfl
      have hDc := hD.sub (ws' := [(h0, .inr (13, zs)), (qf67, .inl (cf67, 12000, .inl f67))]) [0, 2] (by decide) rfl
      have hKc := hK.sub (tys' := [(cf67, .int)]) [1] rfl
      have hFc := va_free (wc := [(h0, .inr (13, zs)), (qf67, .inl (cf67, 12000, .inl f67))]) hD hS hA [0, 2] rfl
      refine va_callv (va_runV (As := [.int 16]) (rest := []) ⟨hx, hb, hml, hown, hts⟩ (tm_put l dC dI H.size h0 zs 16 qf67 v68 cf67 f67 nf g905_0 u5_1 hlen hf67 hf68 hu_5) (cwV 1 hts gv_h9_32 rfl rfl rfl (by decide +kernel) ⟨Nat.le_of_ble_eq_true rfl, Nat.le_of_ble_eq_true rfl⟩) ⟨fun a U g mk q => by obtain ⟨q0, q1, qP, qK, qD⟩ := q; exact ⟨q0, q1, qP, va_K.moved (u := U) (U := U.calling g mk a) (Vm.Alike.refl U.vm) qK, qD⟩, va_recv hKc hPc (ci := 13) (q0 := 0) rfl rfl, fun U hU hW => ⟨rfl, by rw [hU], by rw [hU]; exact hPc, va_K.moved hW.alike hKc, hDc.weaken (fun _ _ _ _ => trivial)⟩⟩ rfl rfl hl.1 rfl (lv_room (Nat.le_of_ble_eq_true rfl)) dX13_number_31 ⟨Nat.le_of_ble_eq_true rfl, Nat.le_of_ble_eq_true rfl⟩) hS (fun q _ h => hFc q h) hFc ?_
      clear hS
      intro u t H1 locs ht hvm hw hB hz1 hk1 hS
      obtain ⟨z_5, rfl⟩ : ∃ z, z = u := ⟨_, rfl⟩
      obtain ⟨hP1, hK1, hD1⟩ := hB
      rw [ht] at hP1
      have hK1 := va_K.moved hvm.symm hK1
      try dsimp only at hw
      have hPD := va_join (wr := [(qf7, .inl (cf7, 3002, .inl f7)), (qf58, .inl (cf58, 2000, .inl f58)), (qf59, .inl (cf59, 2000, .inl f59)), (qf60, .inl (cf60, 2000, .inl f60)), (qf61, .inl (cf61, 2000, .inl f61)), (qf69, .inl (cf69, 3000, .inl f69))]) (w1 := [(h0, .inr (13, z_5)), (qf67, .inl (cf67, 12000, .inl g905_0))]) hP hD [0, 2] [1, 3, 4, 5, 6, 7] rfl rfl (by decide) (by decide) hk1 hFc hP1 hD1
      clear hP hD
      obtain ⟨hP, hD⟩ := hPD
      replace hK := (hK.sub (tys' := [(cf7, .int), (cf58, .int), (cf59, .int), (cf60, .int), (cf61, .int), (cf69, .int)]) [0, 2, 3, 4, 5, 6] rfl).app hK1
      clear hPc hDc hKc hFc hP1 hK1 hD1 hz1 hk1 ht hvm
      generalize H1 = H at hP hS ⊢
      replace hP : va_P (dC, dI) vwCl [(qf7, .inl (cf7, 3002, .inl f7)), (qf58, .inl (cf58, 2000, .inl f58)), (qf59, .inl (cf59, 2000, .inl f59)), (qf60, .inl (cf60, 2000, .inl f60)), (qf61, .inl (cf61, 2000, .inl f61)), (qf69, .inl (cf69, 3000, .inl f69)), (h0, .inr (13, z_5)), (qf67, .inl (cf67, 12000, .inl g905_0))] H := hP
      replace hD : va_D A [(qf7, .inl (cf7, 3002, .inl f7)), (qf58, .inl (cf58, 2000, .inl f58)), (qf59, .inl (cf59, 2000, .inl f59)), (qf60, .inl (cf60, 2000, .inl f60)), (qf61, .inl (cf61, 2000, .inl f61)), (qf69, .inl (cf69, 3000, .inl f69)), (h0, .inr (13, z_5)), (qf67, .inl (cf67, 12000, .inl g905_0))] := hD
      replace hK : va_K (dC, dI) vwCl [(cf7, .int), (cf58, .int), (cf59, .int), (cf60, .int), (cf61, .int), (cf69, .int), (cf67, .int)] s := hK
      obtain ⟨hwa_5, hln_5, hre_5, hch_5_68⟩ := hw
      have hfk_5_7 : z_5[7]? = some (.ref qf7) := (hre_5 7 (by decide)).trans (hf7)
      have hfk_5_58 : z_5[58]? = some (.ref qf58) := (hre_5 58 (by decide)).trans (hf58)
      have hfk_5_59 : z_5[59]? = some (.ref qf59) := (hre_5 59 (by decide)).trans (hf59)
      have hfk_5_60 : z_5[60]? = some (.ref qf60) := (hre_5 60 (by decide)).trans (hf60)
      have hfk_5_61 : z_5[61]? = some (.ref qf61) := (hre_5 61 (by decide)).trans (hf61)
      have hfk_5_62 : z_5[62]? = some (.int v62) := (hre_5 62 (by decide)).trans (hf62)
      have hfk_5_67 : z_5[67]? = some (.ref qf67) := (hre_5 67 (by decide)).trans (hf67)
      have hfk_5_69 : z_5[69]? = some (.ref qf69) := (hre_5 69 (by decide)).trans (hf69)
      have hfk_5_70 : z_5[70]? = some (.int v70) := (hre_5 70 (by decide)).trans (hf70)
      have hfk_5_71 : z_5[71]? = some (.int v71) := (hre_5 71 (by decide)).trans (hf71)
      have hrq_5 : ∀ j : Nat, j ≠ 62 → j ≠ 68 → j ≠ 70 → j ≠ 71 → z_5[j]? = zs[j]? := fun j g62 g68 g70 g71 => (hre_5 j g68).trans (hrs0 j g62 g68 g70 g71)
      refine lv_aload_n hx hb dX13_number_34 rfl (lv_at hl 1 rfl) ?_
      refine lv_iload_n hx hb dX13_number_35 rfl (lv_at hl 0 rfl) ?_
      obtain ⟨⟨g906_0, u6_1⟩, hu_6, hsp⟩ := ox_bind hsp
      try dsimp only at hsp
      have hPc := hP.sub (ws' := [(h0, .inr (13, z_5)), (qf67, .inl (cf67, 12000, .inl g905_0))]) [6, 7] rfl
      have hDc := hD.sub (ws' := [(h0, .inr (13, z_5)), (qf67, .inl (cf67, 12000, .inl g905_0))]) [6, 7] (by decide) rfl
      have hKc := hK.sub (tys' := [(cf67, .int)]) [6] rfl
      have hFc := va_free (wc := [(h0, .inr (13, z_5)), (qf67, .inl (cf67, 12000, .inl g905_0))]) hD hS hA [6, 7] rfl
      refine va_callv (va_runV (As := [.int (f7 (a1 : Int32).toNatClampNeg)]) (rest := []) ⟨hx, hb, hml, hown, hts⟩ (tm_put l dC dI H.size h0 z_5 ((f7 (a1 : Int32).toNatClampNeg)) qf67 u5_1 cf67 g905_0 nf g906_0 u6_1 hln_5 hfk_5_67 hch_5_68 hu_6) (cwV 1 hts gv_h9_32 rfl rfl rfl (by decide +kernel) ⟨Nat.le_of_ble_eq_true rfl, Nat.le_of_ble_eq_true rfl⟩) ⟨fun a U g mk q => by obtain ⟨q0, q1, qP, qK, qD⟩ := q; exact ⟨q0, q1, qP, va_K.moved (u := U) (U := U.calling g mk a) (Vm.Alike.refl U.vm) qK, qD⟩, va_recv hKc hPc (ci := 13) (q0 := 0) rfl rfl, fun U hU hW => ⟨rfl, by rw [hU], by rw [hU]; exact hPc, va_K.moved hW.alike hKc, hDc.weaken (fun _ _ _ _ => trivial)⟩⟩ rfl rfl hl.1 rfl (lv_room (Nat.le_of_ble_eq_true rfl)) dX13_number_36 ⟨Nat.le_of_ble_eq_true rfl, Nat.le_of_ble_eq_true rfl⟩) hS (fun q _ h => hFc q h) hFc ?_
      clear hS
      intro u t H1 locs ht hvm hw hB hz1 hk1 hS
      obtain ⟨z_6, rfl⟩ : ∃ z, z = u := ⟨_, rfl⟩
      obtain ⟨hP1, hK1, hD1⟩ := hB
      rw [ht] at hP1
      have hK1 := va_K.moved hvm.symm hK1
      try dsimp only at hw
      have hPD := va_join (wr := [(qf7, .inl (cf7, 3002, .inl f7)), (qf58, .inl (cf58, 2000, .inl f58)), (qf59, .inl (cf59, 2000, .inl f59)), (qf60, .inl (cf60, 2000, .inl f60)), (qf61, .inl (cf61, 2000, .inl f61)), (qf69, .inl (cf69, 3000, .inl f69))]) (w1 := [(h0, .inr (13, z_6)), (qf67, .inl (cf67, 12000, .inl g906_0))]) hP hD [6, 7] [0, 1, 2, 3, 4, 5] rfl rfl (by decide) (by decide) hk1 hFc hP1 hD1
      clear hP hD
      obtain ⟨hP, hD⟩ := hPD
      replace hK := (hK.sub (tys' := [(cf7, .int), (cf58, .int), (cf59, .int), (cf60, .int), (cf61, .int), (cf69, .int)]) [0, 1, 2, 3, 4, 5] rfl).app hK1
      clear hPc hDc hKc hFc hP1 hK1 hD1 hz1 hk1 ht hvm
      generalize H1 = H at hP hS ⊢
      replace hP : va_P (dC, dI) vwCl [(qf7, .inl (cf7, 3002, .inl f7)), (qf58, .inl (cf58, 2000, .inl f58)), (qf59, .inl (cf59, 2000, .inl f59)), (qf60, .inl (cf60, 2000, .inl f60)), (qf61, .inl (cf61, 2000, .inl f61)), (qf69, .inl (cf69, 3000, .inl f69)), (h0, .inr (13, z_6)), (qf67, .inl (cf67, 12000, .inl g906_0))] H := hP
      replace hD : va_D A [(qf7, .inl (cf7, 3002, .inl f7)), (qf58, .inl (cf58, 2000, .inl f58)), (qf59, .inl (cf59, 2000, .inl f59)), (qf60, .inl (cf60, 2000, .inl f60)), (qf61, .inl (cf61, 2000, .inl f61)), (qf69, .inl (cf69, 3000, .inl f69)), (h0, .inr (13, z_6)), (qf67, .inl (cf67, 12000, .inl g906_0))] := hD
      replace hK : va_K (dC, dI) vwCl [(cf7, .int), (cf58, .int), (cf59, .int), (cf60, .int), (cf61, .int), (cf69, .int), (cf67, .int)] s := hK
      obtain ⟨hwa_6, hln_6, hre_6, hch_6_68⟩ := hw
      have hfk_6_7 : z_6[7]? = some (.ref qf7) := (hre_6 7 (by decide)).trans (hfk_5_7)
      have hfk_6_58 : z_6[58]? = some (.ref qf58) := (hre_6 58 (by decide)).trans (hfk_5_58)
      have hfk_6_59 : z_6[59]? = some (.ref qf59) := (hre_6 59 (by decide)).trans (hfk_5_59)
      have hfk_6_60 : z_6[60]? = some (.ref qf60) := (hre_6 60 (by decide)).trans (hfk_5_60)
      have hfk_6_61 : z_6[61]? = some (.ref qf61) := (hre_6 61 (by decide)).trans (hfk_5_61)
      have hfk_6_62 : z_6[62]? = some (.int v62) := (hre_6 62 (by decide)).trans (hfk_5_62)
      have hfk_6_67 : z_6[67]? = some (.ref qf67) := (hre_6 67 (by decide)).trans (hfk_5_67)
      have hfk_6_69 : z_6[69]? = some (.ref qf69) := (hre_6 69 (by decide)).trans (hfk_5_69)
      have hfk_6_70 : z_6[70]? = some (.int v70) := (hre_6 70 (by decide)).trans (hfk_5_70)
      have hfk_6_71 : z_6[71]? = some (.int v71) := (hre_6 71 (by decide)).trans (hfk_5_71)
      have hrq_6 : ∀ j : Nat, j ≠ 62 → j ≠ 68 → j ≠ 70 → j ≠ 71 → z_6[j]? = zs[j]? := fun j g62 g68 g70 g71 => (hre_6 j g68).trans (hrq_5 j g62 g68 g70 g71)
      refine lv_goto (tgt := 60) hx hb dX13_number_39 (by decide) ?_
      refine lv_aload_n hx hb dX13_number_60 rfl (lv_at hl 1 rfl) ?_
      refine lv_iconst (v := 0) hx hb dX13_number_61 (by decide) ?_
      obtain ⟨⟨g907_0, u7_1, u7_2⟩, hu_7, hsp⟩ := ox_bind hsp
      try dsimp only at hsp
      have hPc := hP.sub (ws' := [(h0, .inr (13, z_6)), (qf69, .inl (cf69, 3000, .inl f69))]) [6, 5] rfl
      have hDc := hD.sub (ws' := [(h0, .inr (13, z_6)), (qf69, .inl (cf69, 3000, .inl f69))]) [6, 5] (by decide) rfl
      have hKc := hK.sub (tys' := [(cf69, .int)]) [5] rfl
      have hFc := va_free (wc := [(h0, .inr (13, z_6)), (qf69, .inl (cf69, 3000, .inl f69))]) hD hS hA [6, 5] rfl
      refine va_callv (va_runV (As := [.int 0]) (rest := []) ⟨hx, hb, hml, hown, hts⟩ (tm_push l dC dI H.size h0 z_6 0 qf69 v70 v71 cf69 f69 nf g907_0 u7_1 u7_2 hln_6 hfk_6_69 hfk_6_70 hfk_6_71 hu_7) (cwV 1 hts gv_h9_34 rfl rfl rfl (by decide +kernel) ⟨Nat.le_of_ble_eq_true rfl, Nat.le_of_ble_eq_true rfl⟩) ⟨fun a U g mk q => by obtain ⟨q0, q1, qP, qK, qD⟩ := q; exact ⟨q0, q1, qP, va_K.moved (u := U) (U := U.calling g mk a) (Vm.Alike.refl U.vm) qK, qD⟩, va_recv hKc hPc (ci := 13) (q0 := 0) rfl rfl, fun U hU hW => ⟨rfl, by rw [hU], by rw [hU]; exact hPc, va_K.moved hW.alike hKc, hDc.weaken (fun _ _ _ _ => trivial)⟩⟩ rfl rfl hl.1 rfl (lv_room (Nat.le_of_ble_eq_true rfl)) dX13_number_62 ⟨Nat.le_of_ble_eq_true rfl, Nat.le_of_ble_eq_true rfl⟩) hS (fun q _ h => hFc q h) hFc ?_
      clear hS
      intro u t H1 locs ht hvm hw hB hz1 hk1 hS
      obtain ⟨z_7, rfl⟩ : ∃ z, z = u := ⟨_, rfl⟩
      obtain ⟨hP1, hK1, hD1⟩ := hB
      rw [ht] at hP1
      have hK1 := va_K.moved hvm.symm hK1
      try dsimp only at hw
      have hPD := va_join (wr := [(qf7, .inl (cf7, 3002, .inl f7)), (qf58, .inl (cf58, 2000, .inl f58)), (qf59, .inl (cf59, 2000, .inl f59)), (qf60, .inl (cf60, 2000, .inl f60)), (qf61, .inl (cf61, 2000, .inl f61)), (qf67, .inl (cf67, 12000, .inl g906_0))]) (w1 := [(h0, .inr (13, z_7)), (qf69, .inl (cf69, 3000, .inl g907_0))]) hP hD [6, 5] [0, 1, 2, 3, 4, 7] rfl rfl (by decide) (by decide) hk1 hFc hP1 hD1
      clear hP hD
      obtain ⟨hP, hD⟩ := hPD
      replace hK := (hK.sub (tys' := [(cf7, .int), (cf58, .int), (cf59, .int), (cf60, .int), (cf61, .int), (cf67, .int)]) [0, 1, 2, 3, 4, 6] rfl).app hK1
      clear hPc hDc hKc hFc hP1 hK1 hD1 hz1 hk1 ht hvm
      generalize H1 = H at hP hS ⊢
      replace hP : va_P (dC, dI) vwCl [(qf7, .inl (cf7, 3002, .inl f7)), (qf58, .inl (cf58, 2000, .inl f58)), (qf59, .inl (cf59, 2000, .inl f59)), (qf60, .inl (cf60, 2000, .inl f60)), (qf61, .inl (cf61, 2000, .inl f61)), (qf67, .inl (cf67, 12000, .inl g906_0)), (h0, .inr (13, z_7)), (qf69, .inl (cf69, 3000, .inl g907_0))] H := hP
      replace hD : va_D A [(qf7, .inl (cf7, 3002, .inl f7)), (qf58, .inl (cf58, 2000, .inl f58)), (qf59, .inl (cf59, 2000, .inl f59)), (qf60, .inl (cf60, 2000, .inl f60)), (qf61, .inl (cf61, 2000, .inl f61)), (qf67, .inl (cf67, 12000, .inl g906_0)), (h0, .inr (13, z_7)), (qf69, .inl (cf69, 3000, .inl g907_0))] := hD
      replace hK : va_K (dC, dI) vwCl [(cf7, .int), (cf58, .int), (cf59, .int), (cf60, .int), (cf61, .int), (cf67, .int), (cf69, .int)] s := hK
      obtain ⟨hwa_7, hln_7, hre_7, hch_7_70, hch_7_71⟩ := hw
      have hfk_7_7 : z_7[7]? = some (.ref qf7) := (hre_7 7 (by decide) (by decide)).trans (hfk_6_7)
      have hfk_7_58 : z_7[58]? = some (.ref qf58) := (hre_7 58 (by decide) (by decide)).trans (hfk_6_58)
      have hfk_7_59 : z_7[59]? = some (.ref qf59) := (hre_7 59 (by decide) (by decide)).trans (hfk_6_59)
      have hfk_7_60 : z_7[60]? = some (.ref qf60) := (hre_7 60 (by decide) (by decide)).trans (hfk_6_60)
      have hfk_7_61 : z_7[61]? = some (.ref qf61) := (hre_7 61 (by decide) (by decide)).trans (hfk_6_61)
      have hfk_7_62 : z_7[62]? = some (.int v62) := (hre_7 62 (by decide) (by decide)).trans (hfk_6_62)
      have hfk_7_67 : z_7[67]? = some (.ref qf67) := (hre_7 67 (by decide) (by decide)).trans (hfk_6_67)
      have hfk_7_68 : z_7[68]? = some (.int u6_1) := (hre_7 68 (by decide) (by decide)).trans (hch_6_68)
      have hfk_7_69 : z_7[69]? = some (.ref qf69) := (hre_7 69 (by decide) (by decide)).trans (hfk_6_69)
      have hrq_7 : ∀ j : Nat, j ≠ 62 → j ≠ 68 → j ≠ 70 → j ≠ 71 → z_7[j]? = zs[j]? := fun j g62 g68 g70 g71 => (hre_7 j g70 g71).trans (hrq_6 j g62 g68 g70 g71)
      have hr0 := Option.some.inj hsp
      clear hsp
      obtain ⟨hq0, hr1⟩ := Prod.mk.inj hr0
      clear hr0
      obtain ⟨hq1, hr2⟩ := Prod.mk.inj hr1
      clear hr1
      obtain ⟨hq2, hr3⟩ := Prod.mk.inj hr2
      clear hr2
      obtain ⟨hq3, hr4⟩ := Prod.mk.inj hr3
      clear hr3
      obtain ⟨hq4, hr5⟩ := Prod.mk.inj hr4
      clear hr4
      obtain ⟨hq5, hr6⟩ := Prod.mk.inj hr5
      clear hr5
      obtain ⟨hq6, hr7⟩ := Prod.mk.inj hr6
      clear hr6
      obtain ⟨hq7, hr8⟩ := Prod.mk.inj hr7
      clear hr7
      obtain ⟨hq8, hr9⟩ := Prod.mk.inj hr8
      clear hr8
      subst hq0
      subst hq1
      subst hq2
      subst hq3
      subst hq4
      subst hq5
      subst hq6
      subst hq7
      subst hq8
      subst hr9
      have hP9 := hP.sub (ws' := [(h0, .inr (13, z_7)), (qf7, .inl (cf7, 3002, .inl f7)), (qf67, .inl (cf67, 12000, .inl g906_0)), (qf58, .inl (cf58, 2000, .inl f58)), (qf59, .inl (cf59, 2000, .inl f59)), (qf60, .inl (cf60, 2000, .inl f60)), (qf61, .inl (cf61, 2000, .inl f61)), (qf69, .inl (cf69, 3000, .inl g907_0))]) [6, 0, 5, 1, 2, 3, 4, 7] rfl
      have hD9 := hD.sub (ws' := [(h0, .inr (13, z_7)), (qf7, .inl (cf7, 3002, .inl f7)), (qf67, .inl (cf67, 12000, .inl g906_0)), (qf58, .inl (cf58, 2000, .inl f58)), (qf59, .inl (cf59, 2000, .inl f59)), (qf60, .inl (cf60, 2000, .inl f60)), (qf61, .inl (cf61, 2000, .inl f61)), (qf69, .inl (cf69, 3000, .inl g907_0))]) [6, 0, 5, 1, 2, 3, 4, 7] (by decide) rfl
      have hK9 := hK.sub (tys' := [(cf7, .int), (cf67, .int), (cf58, .int), (cf59, .int), (cf60, .int), (cf61, .int), (cf69, .int)]) [0, 5, 1, 2, 3, 4, 6] rfl
      exact W.vret hx hb hr (fun t ht hW => ⟨⟨(z_7), rfl, ⟨trivial, hln_7, hrq_7, hfk_7_62, hfk_7_68, hch_7_70, hch_7_71⟩, by rw [ht]; exact hP9, va_K.moved hW.alike hK9, hD9⟩, hS.F ht⟩) hS.2.2 dX13_number_65
  · rw [if_neg c_2] at hsp
    refine lv_aload_n hx hb dX13_number_12 rfl (lv_at hl 1 rfl) ?_
    refine lv_iconst (v := 3) hx hb dX13_number_13 (by decide) ?_
    refine lv_iload_n hx hb dX13_number_14 rfl (lv_at hl 0 rfl) ?_
    refine lv_iadd hx hb dX13_number_15 ?_
    obtain ⟨⟨g908_0, u8_1⟩, hu_8, hsp⟩ := ox_bind hsp
    try dsimp only at hsp
    have hPc := hP.sub (ws' := [(h0, .inr (13, zs)), (qf67, .inl (cf67, 12000, .inl f67))]) [0, 2] rfl
    have hDc := hD.sub (ws' := [(h0, .inr (13, zs)), (qf67, .inl (cf67, 12000, .inl f67))]) [0, 2] (by decide) rfl
    have hKc := hK.sub (tys' := [(cf67, .int)]) [1] rfl
    have hFc := va_free (wc := [(h0, .inr (13, zs)), (qf67, .inl (cf67, 12000, .inl f67))]) hD hS hA [0, 2] rfl
    refine va_callv (va_runV (As := [.int (3 + (f7 (a1 : Int32).toNatClampNeg))]) (rest := []) ⟨hx, hb, hml, hown, hts⟩ (tm_put l dC dI H.size h0 zs ((3 + (f7 (a1 : Int32).toNatClampNeg))) qf67 v68 cf67 f67 nf g908_0 u8_1 hlen hf67 hf68 hu_8) (cwV 1 hts gv_h9_32 rfl rfl rfl (by decide +kernel) ⟨Nat.le_of_ble_eq_true rfl, Nat.le_of_ble_eq_true rfl⟩) ⟨fun a U g mk q => by obtain ⟨q0, q1, qP, qK, qD⟩ := q; exact ⟨q0, q1, qP, va_K.moved (u := U) (U := U.calling g mk a) (Vm.Alike.refl U.vm) qK, qD⟩, va_recv hKc hPc (ci := 13) (q0 := 0) rfl rfl, fun U hU hW => ⟨rfl, by rw [hU], by rw [hU]; exact hPc, va_K.moved hW.alike hKc, hDc.weaken (fun _ _ _ _ => trivial)⟩⟩ rfl rfl hl.1 rfl (lv_room (Nat.le_of_ble_eq_true rfl)) dX13_number_16 ⟨Nat.le_of_ble_eq_true rfl, Nat.le_of_ble_eq_true rfl⟩) hS (fun q _ h => hFc q h) hFc ?_
    clear hS
    intro u t H1 locs ht hvm hw hB hz1 hk1 hS
    obtain ⟨z_8, rfl⟩ : ∃ z, z = u := ⟨_, rfl⟩
    obtain ⟨hP1, hK1, hD1⟩ := hB
    rw [ht] at hP1
    have hK1 := va_K.moved hvm.symm hK1
    try dsimp only at hw
    have hPD := va_join (wr := [(qf7, .inl (cf7, 3002, .inl f7)), (qf58, .inl (cf58, 2000, .inl f58)), (qf59, .inl (cf59, 2000, .inl f59)), (qf60, .inl (cf60, 2000, .inl f60)), (qf61, .inl (cf61, 2000, .inl f61)), (qf69, .inl (cf69, 3000, .inl f69))]) (w1 := [(h0, .inr (13, z_8)), (qf67, .inl (cf67, 12000, .inl g908_0))]) hP hD [0, 2] [1, 3, 4, 5, 6, 7] rfl rfl (by decide) (by decide) hk1 hFc hP1 hD1
    clear hP hD
    obtain ⟨hP, hD⟩ := hPD
    replace hK := (hK.sub (tys' := [(cf7, .int), (cf58, .int), (cf59, .int), (cf60, .int), (cf61, .int), (cf69, .int)]) [0, 2, 3, 4, 5, 6] rfl).app hK1
    clear hPc hDc hKc hFc hP1 hK1 hD1 hz1 hk1 ht hvm
    generalize H1 = H at hP hS ⊢
    replace hP : va_P (dC, dI) vwCl [(qf7, .inl (cf7, 3002, .inl f7)), (qf58, .inl (cf58, 2000, .inl f58)), (qf59, .inl (cf59, 2000, .inl f59)), (qf60, .inl (cf60, 2000, .inl f60)), (qf61, .inl (cf61, 2000, .inl f61)), (qf69, .inl (cf69, 3000, .inl f69)), (h0, .inr (13, z_8)), (qf67, .inl (cf67, 12000, .inl g908_0))] H := hP
    replace hD : va_D A [(qf7, .inl (cf7, 3002, .inl f7)), (qf58, .inl (cf58, 2000, .inl f58)), (qf59, .inl (cf59, 2000, .inl f59)), (qf60, .inl (cf60, 2000, .inl f60)), (qf61, .inl (cf61, 2000, .inl f61)), (qf69, .inl (cf69, 3000, .inl f69)), (h0, .inr (13, z_8)), (qf67, .inl (cf67, 12000, .inl g908_0))] := hD
    replace hK : va_K (dC, dI) vwCl [(cf7, .int), (cf58, .int), (cf59, .int), (cf60, .int), (cf61, .int), (cf69, .int), (cf67, .int)] s := hK
    obtain ⟨hwa_8, hln_8, hre_8, hch_8_68⟩ := hw
    have hfk_8_7 : z_8[7]? = some (.ref qf7) := (hre_8 7 (by decide)).trans (hf7)
    have hfk_8_58 : z_8[58]? = some (.ref qf58) := (hre_8 58 (by decide)).trans (hf58)
    have hfk_8_59 : z_8[59]? = some (.ref qf59) := (hre_8 59 (by decide)).trans (hf59)
    have hfk_8_60 : z_8[60]? = some (.ref qf60) := (hre_8 60 (by decide)).trans (hf60)
    have hfk_8_61 : z_8[61]? = some (.ref qf61) := (hre_8 61 (by decide)).trans (hf61)
    have hfk_8_62 : z_8[62]? = some (.int v62) := (hre_8 62 (by decide)).trans (hf62)
    have hfk_8_67 : z_8[67]? = some (.ref qf67) := (hre_8 67 (by decide)).trans (hf67)
    have hfk_8_69 : z_8[69]? = some (.ref qf69) := (hre_8 69 (by decide)).trans (hf69)
    have hfk_8_70 : z_8[70]? = some (.int v70) := (hre_8 70 (by decide)).trans (hf70)
    have hfk_8_71 : z_8[71]? = some (.int v71) := (hre_8 71 (by decide)).trans (hf71)
    have hrq_8 : ∀ j : Nat, j ≠ 62 → j ≠ 68 → j ≠ 70 → j ≠ 71 → z_8[j]? = zs[j]? := fun j g62 g68 g70 g71 => (hre_8 j g68).trans (hrs0 j g62 g68 g70 g71)
    refine lv_goto (tgt := 60) hx hb dX13_number_19 (by decide) ?_
    refine lv_aload_n hx hb dX13_number_60 rfl (lv_at hl 1 rfl) ?_
    refine lv_iconst (v := 0) hx hb dX13_number_61 (by decide) ?_
    obtain ⟨⟨g909_0, u9_1, u9_2⟩, hu_9, hsp⟩ := ox_bind hsp
    try dsimp only at hsp
    have hPc := hP.sub (ws' := [(h0, .inr (13, z_8)), (qf69, .inl (cf69, 3000, .inl f69))]) [6, 5] rfl
    have hDc := hD.sub (ws' := [(h0, .inr (13, z_8)), (qf69, .inl (cf69, 3000, .inl f69))]) [6, 5] (by decide) rfl
    have hKc := hK.sub (tys' := [(cf69, .int)]) [5] rfl
    have hFc := va_free (wc := [(h0, .inr (13, z_8)), (qf69, .inl (cf69, 3000, .inl f69))]) hD hS hA [6, 5] rfl
    refine va_callv (va_runV (As := [.int 0]) (rest := []) ⟨hx, hb, hml, hown, hts⟩ (tm_push l dC dI H.size h0 z_8 0 qf69 v70 v71 cf69 f69 nf g909_0 u9_1 u9_2 hln_8 hfk_8_69 hfk_8_70 hfk_8_71 hu_9) (cwV 1 hts gv_h9_34 rfl rfl rfl (by decide +kernel) ⟨Nat.le_of_ble_eq_true rfl, Nat.le_of_ble_eq_true rfl⟩) ⟨fun a U g mk q => by obtain ⟨q0, q1, qP, qK, qD⟩ := q; exact ⟨q0, q1, qP, va_K.moved (u := U) (U := U.calling g mk a) (Vm.Alike.refl U.vm) qK, qD⟩, va_recv hKc hPc (ci := 13) (q0 := 0) rfl rfl, fun U hU hW => ⟨rfl, by rw [hU], by rw [hU]; exact hPc, va_K.moved hW.alike hKc, hDc.weaken (fun _ _ _ _ => trivial)⟩⟩ rfl rfl hl.1 rfl (lv_room (Nat.le_of_ble_eq_true rfl)) dX13_number_62 ⟨Nat.le_of_ble_eq_true rfl, Nat.le_of_ble_eq_true rfl⟩) hS (fun q _ h => hFc q h) hFc ?_
    clear hS
    intro u t H1 locs ht hvm hw hB hz1 hk1 hS
    obtain ⟨z_9, rfl⟩ : ∃ z, z = u := ⟨_, rfl⟩
    obtain ⟨hP1, hK1, hD1⟩ := hB
    rw [ht] at hP1
    have hK1 := va_K.moved hvm.symm hK1
    try dsimp only at hw
    have hPD := va_join (wr := [(qf7, .inl (cf7, 3002, .inl f7)), (qf58, .inl (cf58, 2000, .inl f58)), (qf59, .inl (cf59, 2000, .inl f59)), (qf60, .inl (cf60, 2000, .inl f60)), (qf61, .inl (cf61, 2000, .inl f61)), (qf67, .inl (cf67, 12000, .inl g908_0))]) (w1 := [(h0, .inr (13, z_9)), (qf69, .inl (cf69, 3000, .inl g909_0))]) hP hD [6, 5] [0, 1, 2, 3, 4, 7] rfl rfl (by decide) (by decide) hk1 hFc hP1 hD1
    clear hP hD
    obtain ⟨hP, hD⟩ := hPD
    replace hK := (hK.sub (tys' := [(cf7, .int), (cf58, .int), (cf59, .int), (cf60, .int), (cf61, .int), (cf67, .int)]) [0, 1, 2, 3, 4, 6] rfl).app hK1
    clear hPc hDc hKc hFc hP1 hK1 hD1 hz1 hk1 ht hvm
    generalize H1 = H at hP hS ⊢
    replace hP : va_P (dC, dI) vwCl [(qf7, .inl (cf7, 3002, .inl f7)), (qf58, .inl (cf58, 2000, .inl f58)), (qf59, .inl (cf59, 2000, .inl f59)), (qf60, .inl (cf60, 2000, .inl f60)), (qf61, .inl (cf61, 2000, .inl f61)), (qf67, .inl (cf67, 12000, .inl g908_0)), (h0, .inr (13, z_9)), (qf69, .inl (cf69, 3000, .inl g909_0))] H := hP
    replace hD : va_D A [(qf7, .inl (cf7, 3002, .inl f7)), (qf58, .inl (cf58, 2000, .inl f58)), (qf59, .inl (cf59, 2000, .inl f59)), (qf60, .inl (cf60, 2000, .inl f60)), (qf61, .inl (cf61, 2000, .inl f61)), (qf67, .inl (cf67, 12000, .inl g908_0)), (h0, .inr (13, z_9)), (qf69, .inl (cf69, 3000, .inl g909_0))] := hD
    replace hK : va_K (dC, dI) vwCl [(cf7, .int), (cf58, .int), (cf59, .int), (cf60, .int), (cf61, .int), (cf67, .int), (cf69, .int)] s := hK
    obtain ⟨hwa_9, hln_9, hre_9, hch_9_70, hch_9_71⟩ := hw
    have hfk_9_7 : z_9[7]? = some (.ref qf7) := (hre_9 7 (by decide) (by decide)).trans (hfk_8_7)
    have hfk_9_58 : z_9[58]? = some (.ref qf58) := (hre_9 58 (by decide) (by decide)).trans (hfk_8_58)
    have hfk_9_59 : z_9[59]? = some (.ref qf59) := (hre_9 59 (by decide) (by decide)).trans (hfk_8_59)
    have hfk_9_60 : z_9[60]? = some (.ref qf60) := (hre_9 60 (by decide) (by decide)).trans (hfk_8_60)
    have hfk_9_61 : z_9[61]? = some (.ref qf61) := (hre_9 61 (by decide) (by decide)).trans (hfk_8_61)
    have hfk_9_62 : z_9[62]? = some (.int v62) := (hre_9 62 (by decide) (by decide)).trans (hfk_8_62)
    have hfk_9_67 : z_9[67]? = some (.ref qf67) := (hre_9 67 (by decide) (by decide)).trans (hfk_8_67)
    have hfk_9_68 : z_9[68]? = some (.int u8_1) := (hre_9 68 (by decide) (by decide)).trans (hch_8_68)
    have hfk_9_69 : z_9[69]? = some (.ref qf69) := (hre_9 69 (by decide) (by decide)).trans (hfk_8_69)
    have hrq_9 : ∀ j : Nat, j ≠ 62 → j ≠ 68 → j ≠ 70 → j ≠ 71 → z_9[j]? = zs[j]? := fun j g62 g68 g70 g71 => (hre_9 j g70 g71).trans (hrq_8 j g62 g68 g70 g71)
    have hr0 := Option.some.inj hsp
    clear hsp
    obtain ⟨hq0, hr1⟩ := Prod.mk.inj hr0
    clear hr0
    obtain ⟨hq1, hr2⟩ := Prod.mk.inj hr1
    clear hr1
    obtain ⟨hq2, hr3⟩ := Prod.mk.inj hr2
    clear hr2
    obtain ⟨hq3, hr4⟩ := Prod.mk.inj hr3
    clear hr3
    obtain ⟨hq4, hr5⟩ := Prod.mk.inj hr4
    clear hr4
    obtain ⟨hq5, hr6⟩ := Prod.mk.inj hr5
    clear hr5
    obtain ⟨hq6, hr7⟩ := Prod.mk.inj hr6
    clear hr6
    obtain ⟨hq7, hr8⟩ := Prod.mk.inj hr7
    clear hr7
    obtain ⟨hq8, hr9⟩ := Prod.mk.inj hr8
    clear hr8
    subst hq0
    subst hq1
    subst hq2
    subst hq3
    subst hq4
    subst hq5
    subst hq6
    subst hq7
    subst hq8
    subst hr9
    have hP9 := hP.sub (ws' := [(h0, .inr (13, z_9)), (qf7, .inl (cf7, 3002, .inl f7)), (qf67, .inl (cf67, 12000, .inl g908_0)), (qf58, .inl (cf58, 2000, .inl f58)), (qf59, .inl (cf59, 2000, .inl f59)), (qf60, .inl (cf60, 2000, .inl f60)), (qf61, .inl (cf61, 2000, .inl f61)), (qf69, .inl (cf69, 3000, .inl g909_0))]) [6, 0, 5, 1, 2, 3, 4, 7] rfl
    have hD9 := hD.sub (ws' := [(h0, .inr (13, z_9)), (qf7, .inl (cf7, 3002, .inl f7)), (qf67, .inl (cf67, 12000, .inl g908_0)), (qf58, .inl (cf58, 2000, .inl f58)), (qf59, .inl (cf59, 2000, .inl f59)), (qf60, .inl (cf60, 2000, .inl f60)), (qf61, .inl (cf61, 2000, .inl f61)), (qf69, .inl (cf69, 3000, .inl g909_0))]) [6, 0, 5, 1, 2, 3, 4, 7] (by decide) rfl
    have hK9 := hK.sub (tys' := [(cf7, .int), (cf67, .int), (cf58, .int), (cf59, .int), (cf60, .int), (cf61, .int), (cf69, .int)]) [0, 5, 1, 2, 3, 4, 6] rfl
    exact W.vret hx hb hr (fun t ht hW => ⟨⟨(z_9), rfl, ⟨trivial, hln_9, hrq_9, hfk_9_62, hfk_9_68, hch_9_70, hch_9_71⟩, by rw [ht]; exact hP9, va_K.moved hW.alike hK9, hD9⟩, hS.F ht⟩) hS.2.2 dX13_number_65
def lp_vm_writeConstant_63 (nf n : Nat) (a1 : Int32) (a2 : Int32) (f58 : Nat → Int32) (f94 : Nat → Int32) (f60 : Nat → Int32) (f59 : Nat → Int32) (f63 : Nat → Int32) (f61 : Nat → Int32)  (l1_63 : Int32) (l3_63 : Int32) (l4_63 : Int32) (g94_63 : Nat → Int32) : Option (Int32 × (Nat → Int32)) := match n with
  | 0 => none
  | n + 1 => (if l1_63 < 0 then none else if 2000 ≤ (l1_63 : Int32).toNatClampNeg then none else (if (f60 (l1_63 : Int32).toNatClampNeg) ≤ l4_63 then (if l1_63 < 0 then none else if 2000 ≤ (l1_63 : Int32).toNatClampNeg then none else (some (((l3_63 + 1) + (f60 (l1_63 : Int32).toNatClampNeg)), g94_63))) else (if l1_63 < 0 then none else if 2000 ≤ (l1_63 : Int32).toNatClampNeg then none else (if ((f59 (l1_63 : Int32).toNatClampNeg) + l4_63) < 0 then none else if 40000 ≤ (((f59 (l1_63 : Int32).toNatClampNeg) + l4_63) : Int32).toNatClampNeg then none else (if ((l3_63 + 1) + l4_63) < 0 then none else if 48000 ≤ (((l3_63 + 1) + l4_63) : Int32).toNatClampNeg then none else (lp_vm_writeConstant_63 nf n a1 a2 f58 f94 f60 f59 f63 f61 l1_63 l3_63 (l4_63 + 1) (upd g94_63 (((l3_63 + 1) + l4_63) : Int32).toNatClampNeg (f63 (((f59 (l1_63 : Int32).toNatClampNeg) + l4_63) : Int32).toNatClampNeg))))))))
def lp_vm_writeConstant_119 (nf n : Nat) (a1 : Int32) (a2 : Int32) (f58 : Nat → Int32) (f94 : Nat → Int32) (f60 : Nat → Int32) (f59 : Nat → Int32) (f63 : Nat → Int32) (f61 : Nat → Int32)  (l1_119 : Int32) (l3_119 : Int32) (l4_119 : Int32) (g94_119 : Nat → Int32) : Option (Int32 × (Nat → Int32)) := match n with
  | 0 => none
  | n + 1 => (if 4 ≤ l4_119 then (some ((l3_119 + 4), g94_119)) else (if l1_119 < 0 then none else if 2000 ≤ (l1_119 : Int32).toNatClampNeg then none else (if (l3_119 + l4_119) < 0 then none else if 48000 ≤ ((l3_119 + l4_119) : Int32).toNatClampNeg then none else (lp_vm_writeConstant_119 nf n a1 a2 f58 f94 f60 f59 f63 f61 l1_119 l3_119 (l4_119 + 1) (upd g94_119 ((l3_119 + l4_119) : Int32).toNatClampNeg (((f59 (l1_119 : Int32).toNatClampNeg) >>> ((24 - (8 * l4_119)) &&& 31)) &&& 255))))))
def sp_vm_writeConstant (nf : Nat) (a1 : Int32) (a2 : Int32) (f58 : Nat → Int32) (f94 : Nat → Int32) (f60 : Nat → Int32) (f59 : Nat → Int32) (f63 : Nat → Int32) (f61 : Nat → Int32) : Option (Int32 × (Nat → Int32)) := (if a1 < 0 then none else if 2000 ≤ (a1 : Int32).toNatClampNeg then none else (if a2 < 0 then none else if 48000 ≤ (a2 : Int32).toNatClampNeg then none else (if a1 < 0 then none else if 2000 ≤ (a1 : Int32).toNatClampNeg then none else (if (f58 (a1 : Int32).toNatClampNeg) = 1 then (if a1 < 0 then none else if 2000 ≤ (a1 : Int32).toNatClampNeg then none else (if (a2 + 1) < 0 then none else if 48000 ≤ ((a2 + 1) : Int32).toNatClampNeg then none else (lp_vm_writeConstant_63 nf nf a1 a2 f58 f94 f60 f59 f63 f61  a1 (a2 + 1) 0 (upd (upd f94 (a2 : Int32).toNatClampNeg (f58 (a1 : Int32).toNatClampNeg)) ((a2 + 1) : Int32).toNatClampNeg (f60 (a1 : Int32).toNatClampNeg))))) else (if (f58 (a1 : Int32).toNatClampNeg) = 2 then (lp_vm_writeConstant_119 nf nf a1 a2 f58 f94 f60 f59 f63 f61  a1 (a2 + 1) 0 (upd f94 (a2 : Int32).toNatClampNeg (f58 (a1 : Int32).toNatClampNeg))) else (if (f58 (a1 : Int32).toNatClampNeg) = 3 then (if a1 < 0 then none else if 2000 ≤ (a1 : Int32).toNatClampNeg then none else (if (a2 + 1) < 0 then none else if 48000 ≤ ((a2 + 1) : Int32).toNatClampNeg then none else (some (((a2 + 1) + 1), (upd (upd f94 (a2 : Int32).toNatClampNeg (f58 (a1 : Int32).toNatClampNeg)) ((a2 + 1) : Int32).toNatClampNeg (f59 (a1 : Int32).toNatClampNeg)))))) else (if a1 < 0 then none else if 2000 ≤ (a1 : Int32).toNatClampNeg then none else (if (a2 + 1) < 0 then none else if 48000 ≤ ((a2 + 1) : Int32).toNatClampNeg then none else (if a1 < 0 then none else if 2000 ≤ (a1 : Int32).toNatClampNeg then none else (if ((a2 + 1) + 1) < 0 then none else if 48000 ≤ (((a2 + 1) + 1) : Int32).toNatClampNeg then none else (if a1 < 0 then none else if 2000 ≤ (a1 : Int32).toNatClampNeg then none else (if ((a2 + 1) + 2) < 0 then none else if 48000 ≤ (((a2 + 1) + 2) : Int32).toNatClampNeg then none else (some (((a2 + 1) + 3), (upd (upd (upd (upd f94 (a2 : Int32).toNatClampNeg (f58 (a1 : Int32).toNatClampNeg)) ((a2 + 1) : Int32).toNatClampNeg (f59 (a1 : Int32).toNatClampNeg)) (((a2 + 1) + 1) : Int32).toNatClampNeg (f60 (a1 : Int32).toNatClampNeg)) (((a2 + 1) + 2) : Int32).toNatClampNeg (f61 (a1 : Int32).toNatClampNeg))))))))))))))))

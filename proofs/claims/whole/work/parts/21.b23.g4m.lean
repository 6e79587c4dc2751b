set_option maxHeartbeats 4000000 in
set_option maxRecDepth 100000 in
/-- ClassMillModel.scan -/
theorem vm_scan (l : Launch) (dC : Nat → ClassId) (dI : Nat → Nat → Nat) (sz : Nat) (h0 : Nat) (zs : (List Value)) (a1 : Int32) (qf102 : Nat) (qf103 : Nat) (qf104 : Nat) (qf105 : Nat) (qf106 : Nat) (qf107 : Nat) (qf108 : Nat) (qf109 : Nat) (qf110 : Nat) (qf111 : Nat) (qf112 : Nat) (v113 : Int32) (v114 : Int32) (v115 : Int32) (cf103 : ClassId) (f103 : (Nat → Int32)) (cf112 : ClassId) (f112 : (Nat → Int32)) (cf102 : ClassId) (f102 : (Nat → Int32)) (cf104 : ClassId) (f104 : (Nat → Int32)) (cf105 : ClassId) (f105 : (Nat → Int32)) (cf106 : ClassId) (f106 : (Nat → Int32)) (cf107 : ClassId) (f107 : (Nat → Int32)) (cf108 : ClassId) (f108 : (Nat → Int32)) (cf109 : ClassId) (f109 : (Nat → Int32)) (cf110 : ClassId) (f110 : (Nat → Int32)) (cf111 : ClassId) (f111 : (Nat → Int32)) (nf : Nat) (o102 : (Nat → Int32)) (o103 : (Nat → Int32)) (o104 : (Nat → Int32)) (o105 : (Nat → Int32)) (o106 : (Nat → Int32)) (o107 : (Nat → Int32)) (o108 : (Nat → Int32)) (o109 : (Nat → Int32)) (o110 : (Nat → Int32)) (o111 : (Nat → Int32)) (w114 : Int32) (w115 : Int32) (hlen : zs.length = 155) (hf102 : zs[102]? = some (.ref qf102)) (hf103 : zs[103]? = some (.ref qf103)) (hf104 : zs[104]? = some (.ref qf104)) (hf105 : zs[105]? = some (.ref qf105)) (hf106 : zs[106]? = some (.ref qf106)) (hf107 : zs[107]? = some (.ref qf107)) (hf108 : zs[108]? = some (.ref qf108)) (hf109 : zs[109]? = some (.ref qf109)) (hf110 : zs[110]? = some (.ref qf110)) (hf111 : zs[111]? = some (.ref qf111)) (hf112 : zs[112]? = some (.ref qf112)) (hf113 : zs[113]? = some (.int v113)) (hf114 : zs[114]? = some (.int v114)) (hf115 : zs[115]? = some (.int v115)) (hsp : sp_vm_scan nf a1 v113 f103 f112 f102 f104 f105 f106 f107 f108 f109 f110 f111 = some (o102, o103, o104, o105, o106, o107, o108, o109, o110, o111, w114, w115)) : Met l yX13_scan (.code yX13_scan cX13_scan 5 none :: VS_h9) ({ frames := 9, cells := 0, slots := 0, locals := 214 }) (va_Pc [.ref h0, .int a1] (fun U => U.heap.size = sz ∧ va_P (dC, dI) vwCl [(h0, .inr (13, zs)), (qf103, .inl (cf103, 8, .inl f103)), (qf112, .inl (cf112, 6000, .inl f112)), (qf102, .inl (cf102, 2048, .inl f102)), (qf104, .inl (cf104, 8, .inl f104)), (qf105, .inl (cf105, 8, .inl f105)), (qf106, .inl (cf106, 8, .inl f106)), (qf107, .inl (cf107, 96, .inl f107)), (qf108, .inl (cf108, 8, .inl f108)), (qf109, .inl (cf109, 96, .inl f109)), (qf110, .inl (cf110, 96, .inl f110)), (qf111, .inl (cf111, 96, .inl f111))] U.heap ∧ va_K (dC, dI) vwCl [(cf103, .int), (cf112, .int), (cf102, .int), (cf104, .int), (cf105, .int), (cf106, .int), (cf107, .int), (cf108, .int), (cf109, .int), (cf110, .int), (cf111, .int)] U ∧ va_D (fun _ => True) [(h0, .inr (13, zs)), (qf103, .inl (cf103, 8, .inl f103)), (qf112, .inl (cf112, 6000, .inl f112)), (qf102, .inl (cf102, 2048, .inl f102)), (qf104, .inl (cf104, 8, .inl f104)), (qf105, .inl (cf105, 8, .inl f105)), (qf106, .inl (cf106, 8, .inl f106)), (qf107, .inl (cf107, 96, .inl f107)), (qf108, .inl (cf108, 8, .inl f108)), (qf109, .inl (cf109, 96, .inl f109)), (qf110, .inl (cf110, 96, .inl f110)), (qf111, .inl (cf111, 96, .inl f111))])) (va_Qv (fun (u : (List Value)) => match u with | (zo1) => True ∧ zo1.length = 155 ∧ (∀ j : Nat, j ≠ 114 → j ≠ 115 → zo1[j]? = zs[j]?) ∧ zo1[114]? = some (.int w114) ∧ zo1[115]? = some (.int w115)) (fun (u : (List Value)) (t : State) => match u with | (zo1) => va_P (dC, dI) vwCl [(h0, .inr (13, zo1)), (qf103, .inl (cf103, 8, .inl o103)), (qf112, .inl (cf112, 6000, .inl f112)), (qf102, .inl (cf102, 2048, .inl o102)), (qf104, .inl (cf104, 8, .inl o104)), (qf105, .inl (cf105, 8, .inl o105)), (qf106, .inl (cf106, 8, .inl o106)), (qf107, .inl (cf107, 96, .inl o107)), (qf108, .inl (cf108, 8, .inl o108)), (qf109, .inl (cf109, 96, .inl o109)), (qf110, .inl (cf110, 96, .inl o110)), (qf111, .inl (cf111, 96, .inl o111))] t.heap ∧ va_K (dC, dI) vwCl [(cf103, .int), (cf112, .int), (cf102, .int), (cf104, .int), (cf105, .int), (cf106, .int), (cf107, .int), (cf108, .int), (cf109, .int), (cf110, .int), (cf111, .int)] t ∧ va_D (va_A [(h0, .inr (13, zs)), (qf103, .inl (cf103, 8, .inl f103)), (qf112, .inl (cf112, 6000, .inl f112)), (qf102, .inl (cf102, 2048, .inl f102)), (qf104, .inl (cf104, 8, .inl f104)), (qf105, .inl (cf105, 8, .inl f105)), (qf106, .inl (cf106, 8, .inl f106)), (qf107, .inl (cf107, 96, .inl f107)), (qf108, .inl (cf108, 8, .inl f108)), (qf109, .inl (cf109, 96, .inl f109)), (qf110, .inl (cf110, 96, .inl f110)), (qf111, .inl (cf111, 96, .inl f111))] sz) [(h0, .inr (13, zo1)), (qf103, .inl (cf103, 8, .inl o103)), (qf112, .inl (cf112, 6000, .inl f112)), (qf102, .inl (cf102, 2048, .inl o102)), (qf104, .inl (cf104, 8, .inl o104)), (qf105, .inl (cf105, 8, .inl o105)), (qf106, .inl (cf106, 8, .inl o106)), (qf107, .inl (cf107, 96, .inl o107)), (qf108, .inl (cf108, 8, .inl o108)), (qf109, .inl (cf109, 96, .inl o109)), (qf110, .inl (cf110, 96, .inl o110)), (qf111, .inl (cf111, 96, .inl o111))]) (va_A [(h0, .inr (13, zs)), (qf103, .inl (cf103, 8, .inl f103)), (qf112, .inl (cf112, 6000, .inl f112)), (qf102, .inl (cf102, 2048, .inl f102)), (qf104, .inl (cf104, 8, .inl f104)), (qf105, .inl (cf105, 8, .inl f105)), (qf106, .inl (cf106, 8, .inl f106)), (qf107, .inl (cf107, 96, .inl f107)), (qf108, .inl (cf108, 8, .inl f108)), (qf109, .inl (cf109, 96, .inl f109)), (qf110, .inl (cf110, 96, .inl f110)), (qf111, .inl (cf111, 96, .inl f111))] sz)) 0 0 (va_A [(h0, .inr (13, zs)), (qf103, .inl (cf103, 8, .inl f103)), (qf112, .inl (cf112, 6000, .inl f112)), (qf102, .inl (cf102, 2048, .inl f102)), (qf104, .inl (cf104, 8, .inl f104)), (qf105, .inl (cf105, 8, .inl f105)), (qf106, .inl (cf106, 8, .inl f106)), (qf107, .inl (cf107, 96, .inl f107)), (qf108, .inl (cf108, 8, .inl f108)), (qf109, .inl (cf109, 96, .inl f109)), (qf110, .inl (cf110, 96, .inl f110)), (qf111, .inl (cf111, 96, .inl f111))] sz) := by
  refine Met.ofW (cc := cX13_scan) (maxL := 5) (ret := none) (by decide) rfl ?_
  intro p e s m args below meth c s₁ B hml hv
  obtain ⟨rfl, hsz, hP, hK, hD0⟩ := hv
  have hx := B.exec
  have hb := B.bytes
  have hr := B.returns
  have hts := atoms_spec (ws := (.code yX13_scan cX13_scan 5 none :: VS_h9)) B.pre
  replace hts := fun w (h : w ∈ VS_h9) => hts w (List.mem_cons_of_mem _ h)
  have hown : s.vm.findClass RX13 = some m.cls := findClass_of_methodNamed B.named
  have hlocks := B.notSynchronized
  subst hsz
  have hD := hD0.self (sz := s.heap.size)
  generalize hAe : va_A [(h0, .inr (13, zs)), (qf103, .inl (cf103, 8, .inl f103)), (qf112, .inl (cf112, 6000, .inl f112)), (qf102, .inl (cf102, 2048, .inl f102)), (qf104, .inl (cf104, 8, .inl f104)), (qf105, .inl (cf105, 8, .inl f105)), (qf106, .inl (cf106, 8, .inl f106)), (qf107, .inl (cf107, 96, .inl f107)), (qf108, .inl (cf108, 8, .inl f108)), (qf109, .inl (cf109, 96, .inl f109)), (qf110, .inl (cf110, 96, .inl f110)), (qf111, .inl (cf111, 96, .inl f111))] s.heap.size = A at hD  ⊢
  have hA : ∀ q : Nat, s.heap.size ≤ q → A q := fun q h => by rw [← hAe]; exact Or.inr h
  have hP : va_P (dC, dI) vwCl [(h0, .inr (13, zs)), (qf103, .inl (cf103, 8, .inl f103)), (qf112, .inl (cf112, 6000, .inl f112)), (qf102, .inl (cf102, 2048, .inl f102)), (qf104, .inl (cf104, 8, .inl f104)), (qf105, .inl (cf105, 8, .inl f105)), (qf106, .inl (cf106, 8, .inl f106)), (qf107, .inl (cf107, 96, .inl f107)), (qf108, .inl (cf108, 8, .inl f108)), (qf109, .inl (cf109, 96, .inl f109)), (qf110, .inl (cf110, 96, .inl f110)), (qf111, .inl (cf111, 96, .inl f111))] s.heap := hP
  have hl := lv_entry ([.ref h0, .int a1]) (n := 5) (Nat.le_of_ble_eq_true rfl)
  rw [lg_entry_eq]
  generalize (lg_sl ([.ref h0, .int a1]) ++ List.replicate (5 - (lg_sl ([.ref h0, .int a1])).length) Slot.unset).toArray = ls at hl ⊢
  have hl : lv_has ls 5 [(0, .ref h0), (1, .int a1)] := hl
  obtain ⟨H, hH⟩ : ∃ H : Heap, s.heap = H := ⟨_, rfl⟩
  rw [hH] at hP ⊢
  have hS : va_S A s.heap H [] := by rw [← hH]; exact va_S.rf
  obtain ⟨locs, hlo⟩ : ∃ locs : List Loc, locs = [] := ⟨_, rfl⟩
  rw [← hlo] at hS ⊢
  have hrs0 : ∀ j : Nat, j ≠ 114 → j ≠ 115 → zs[j]? = zs[j]? := fun _ _ _  => rfl
  unfold sp_vm_scan at hsp
  refine jn_use (α := Heap × List Loc × Array Slot × List Value × Int32 × (Nat → Int32) × (Nat → Int32) × (Nat → Int32) × (Nat → Int32) × (Nat → Int32) × (Nat → Int32) × (Nat → Int32) × (Nat → Int32) × (Nat → Int32) × (Nat → Int32) × Int32 × Int32) (fun x9 => x9.1) (fun x9 => x9.2.1) (fun x9 => F0 m 379 x9.2.2.1 []) (fun x9 => match x9 with | (H, locs, ls, z379, l3_379, g102_379, g103_379, g104_379, g105_379, g106_379, g107_379, g108_379, g109_379, g110_379, g111_379, x114_379, x115_379) => lv_has ls 5 [(0, .ref h0), (3, .int l3_379)] ∧ va_S A s.heap H locs ∧ va_D A [(h0, .inr (13, z379)), (qf103, .inl (cf103, 8, .inl g103_379)), (qf112, .inl (cf112, 6000, .inl f112)), (qf102, .inl (cf102, 2048, .inl g102_379)), (qf104, .inl (cf104, 8, .inl g104_379)), (qf105, .inl (cf105, 8, .inl g105_379)), (qf106, .inl (cf106, 8, .inl g106_379)), (qf107, .inl (cf107, 96, .inl g107_379)), (qf108, .inl (cf108, 8, .inl g108_379)), (qf109, .inl (cf109, 96, .inl g109_379)), (qf110, .inl (cf110, 96, .inl g110_379)), (qf111, .inl (cf111, 96, .inl g111_379))] ∧ va_P (dC, dI) vwCl [(h0, .inr (13, z379)), (qf103, .inl (cf103, 8, .inl g103_379)), (qf112, .inl (cf112, 6000, .inl f112)), (qf102, .inl (cf102, 2048, .inl g102_379)), (qf104, .inl (cf104, 8, .inl g104_379)), (qf105, .inl (cf105, 8, .inl g105_379)), (qf106, .inl (cf106, 8, .inl g106_379)), (qf107, .inl (cf107, 96, .inl g107_379)), (qf108, .inl (cf108, 8, .inl g108_379)), (qf109, .inl (cf109, 96, .inl g109_379)), (qf110, .inl (cf110, 96, .inl g110_379)), (qf111, .inl (cf111, 96, .inl g111_379))] H ∧ z379[102]? = some (.ref qf102) ∧ z379[103]? = some (.ref qf103) ∧ z379[104]? = some (.ref qf104) ∧ z379[105]? = some (.ref qf105) ∧ z379[106]? = some (.ref qf106) ∧ z379[107]? = some (.ref qf107) ∧ z379[108]? = some (.ref qf108) ∧ z379[109]? = some (.ref qf109) ∧ z379[110]? = some (.ref qf110) ∧ z379[111]? = some (.ref qf111) ∧ z379[112]? = some (.ref qf112) ∧ z379[113]? = some (.int v113) ∧ z379[114]? = some (.int x114_379) ∧ z379[115]? = some (.int x115_379) ∧ z379.length = 155 ∧ (∀ j : Nat, j ≠ 114 → j ≠ 115 → z379[j]? = zs[j]?) ∧ jn_vm_scan_379 nf a1 v113 f103 f112 f102 f104 f105 f106 f107 f108 f109 f110 f111 l3_379 g102_379 g103_379 g104_379 g105_379 g106_379 g107_379 g108_379 g109_379 g110_379 g111_379 x114_379 x115_379 = some (o102, o103, o104, o105, o106, o107, o108, o109, o110, o111, w114, w115)) ?_ ?_
  · intro x9 hJ9
    obtain ⟨H, locs, ls, z379, l3_379, g102_379, g103_379, g104_379, g105_379, g106_379, g107_379, g108_379, g109_379, g110_379, g111_379, x114_379, x115_379⟩ := x9
    obtain ⟨hl, hS, hD, hP, hfh_379_102, hfh_379_103, hfh_379_104, hfh_379_105, hfh_379_106, hfh_379_107, hfh_379_108, hfh_379_109, hfh_379_110, hfh_379_111, hfh_379_112, hfh_379_113, hfh_379_114, hfh_379_115, hlh_379, hrh_379, hsp⟩ := hJ9
    replace hl : lv_has ls 5 [(0, .ref h0), (3, .int l3_379)] := hl
    replace hS : va_S A s.heap H locs := hS
    replace hD : va_D A [(h0, .inr (13, z379)), (qf103, .inl (cf103, 8, .inl g103_379)), (qf112, .inl (cf112, 6000, .inl f112)), (qf102, .inl (cf102, 2048, .inl g102_379)), (qf104, .inl (cf104, 8, .inl g104_379)), (qf105, .inl (cf105, 8, .inl g105_379)), (qf106, .inl (cf106, 8, .inl g106_379)), (qf107, .inl (cf107, 96, .inl g107_379)), (qf108, .inl (cf108, 8, .inl g108_379)), (qf109, .inl (cf109, 96, .inl g109_379)), (qf110, .inl (cf110, 96, .inl g110_379)), (qf111, .inl (cf111, 96, .inl g111_379))] := hD
    replace hP : va_P (dC, dI) vwCl [(h0, .inr (13, z379)), (qf103, .inl (cf103, 8, .inl g103_379)), (qf112, .inl (cf112, 6000, .inl f112)), (qf102, .inl (cf102, 2048, .inl g102_379)), (qf104, .inl (cf104, 8, .inl g104_379)), (qf105, .inl (cf105, 8, .inl g105_379)), (qf106, .inl (cf106, 8, .inl g106_379)), (qf107, .inl (cf107, 96, .inl g107_379)), (qf108, .inl (cf108, 8, .inl g108_379)), (qf109, .inl (cf109, 96, .inl g109_379)), (qf110, .inl (cf110, 96, .inl g110_379)), (qf111, .inl (cf111, 96, .inl g111_379))] H := hP
    replace hsp : jn_vm_scan_379 nf a1 v113 f103 f112 f102 f104 f105 f106 f107 f108 f109 f110 f111 l3_379 g102_379 g103_379 g104_379 g105_379 g106_379 g107_379 g108_379 g109_379 g110_379 g111_379 x114_379 x115_379 = some (o102, o103, o104, o105, o106, o107, o108, o109, o110, o111, w114, w115) := hsp
    show W _ _ _ _ _ _ _ _ _ _ H locs _ _ _ (F0 m 379 ls [])
    unfold jn_vm_scan_379 at hsp
    try dsimp only at hsp
    refine lv_aload_n hx hb dX13_scan_379 rfl (lv_at hl 0 rfl) ?_
    refine va_get (D := (dC, dI)) (ci := 13) (v := .int x114_379) (C := RX13) (T := TX13) (N := 155) hx hb hts uV_h9_X13 hown hK hP 0 rfl rfl 114 (by decide) (hts (.fieldLink RX13 764 "ClassMillModel" "form" "I") mw_h9_251) (fun _ h9 => h9) hfh_379_114 dX13_scan_380 ?_
    refine lv_iconst (v := (-1)) hx hb dX13_scan_383 (by decide) ?_
    refine lv_icmp_ne (tgt := 400) hx hb dX13_scan_384 (by decide) (fun c_62 => ?_) (fun c_62 => ?_)
    · rw [if_neg c_62] at hsp
      have hr0 := Option.some.inj hsp
      clear hsp
      obtain ⟨hq0, hr1⟩ := Prod.mk.inj hr0
      clear hr0
      obtain ⟨hq1, hr2⟩ := Prod.mk.inj hr1
      clear hr1
      obtain ⟨hq2, hr3⟩ := Prod.mk.inj hr2
      clear hr2
      obtain ⟨hq3, hr4⟩ := Prod.mk.inj hr3
      clear hr3
      obtain ⟨hq4, hr5⟩ := Prod.mk.inj hr4
      clear hr4
      obtain ⟨hq5, hr6⟩ := Prod.mk.inj hr5
      clear hr5
      obtain ⟨hq6, hr7⟩ := Prod.mk.inj hr6
      clear hr6
      obtain ⟨hq7, hr8⟩ := Prod.mk.inj hr7
      clear hr7
      obtain ⟨hq8, hr9⟩ := Prod.mk.inj hr8
      clear hr8
      obtain ⟨hq9, hr10⟩ := Prod.mk.inj hr9
      clear hr9
      obtain ⟨hq10, hr11⟩ := Prod.mk.inj hr10
      clear hr10
      subst hq0
      subst hq1
      subst hq2
      subst hq3
      subst hq4
      subst hq5
      subst hq6
      subst hq7
      subst hq8
      subst hq9
      subst hq10
      subst hr11
      have hP9 := hP.sub (ws' := [(h0, .inr (13, z379)), (qf103, .inl (cf103, 8, .inl g103_379)), (qf112, .inl (cf112, 6000, .inl f112)), (qf102, .inl (cf102, 2048, .inl g102_379)), (qf104, .inl (cf104, 8, .inl g104_379)), (qf105, .inl (cf105, 8, .inl g105_379)), (qf106, .inl (cf106, 8, .inl g106_379)), (qf107, .inl (cf107, 96, .inl g107_379)), (qf108, .inl (cf108, 8, .inl g108_379)), (qf109, .inl (cf109, 96, .inl g109_379)), (qf110, .inl (cf110, 96, .inl g110_379)), (qf111, .inl (cf111, 96, .inl g111_379))]) [0, 1, 2, 3, 4, 5, 6, 7, 8, 9, 10, 11] rfl
      have hD9 := hD.sub (ws' := [(h0, .inr (13, z379)), (qf103, .inl (cf103, 8, .inl g103_379)), (qf112, .inl (cf112, 6000, .inl f112)), (qf102, .inl (cf102, 2048, .inl g102_379)), (qf104, .inl (cf104, 8, .inl g104_379)), (qf105, .inl (cf105, 8, .inl g105_379)), (qf106, .inl (cf106, 8, .inl g106_379)), (qf107, .inl (cf107, 96, .inl g107_379)), (qf108, .inl (cf108, 8, .inl g108_379)), (qf109, .inl (cf109, 96, .inl g109_379)), (qf110, .inl (cf110, 96, .inl g110_379)), (qf111, .inl (cf111, 96, .inl g111_379))]) [0, 1, 2, 3, 4, 5, 6, 7, 8, 9, 10, 11] (by decide) rfl
      have hK9 := hK.sub (tys' := [(cf103, .int), (cf112, .int), (cf102, .int), (cf104, .int), (cf105, .int), (cf106, .int), (cf107, .int), (cf108, .int), (cf109, .int), (cf110, .int), (cf111, .int)]) [0, 1, 2, 3, 4, 5, 6, 7, 8, 9, 10] rfl
      exact W.vret hx hb hr (fun t ht hW => ⟨⟨(z379), rfl, ⟨trivial, hlh_379, hrh_379, hfh_379_114, hfh_379_115⟩, by rw [ht]; exact hP9, va_K.moved hW.alike hK9, hD9⟩, hS.F ht⟩) hS.2.2 dX13_scan_400
    · rw [if_pos c_62] at hsp
      refine lv_iload_n hx hb dX13_scan_387 rfl (lv_at hl 1 rfl) ?_
      refine lv_aload_n hx hb dX13_scan_388 rfl (lv_at hl 0 rfl) ?_
      refine va_get (D := (dC, dI)) (ci := 13) (v := .int v113) (C := RX13) (T := TX13) (N := 155) hx hb hts uV_h9_X13 hown hK hP 0 rfl rfl 113 (by decide) (hts (.fieldLink RX13 767 "ClassMillModel" "lookSize" "I") mw_h9_451) (fun _ h9 => h9) hfh_379_113 dX13_scan_389 ?_
      refine lv_icmp_ge (tgt := 400) hx hb dX13_scan_392 (by decide) (fun c_63 => ?_) (fun c_63 => ?_)
      · rw [if_pos c_63] at hsp
        have hr0 := Option.some.inj hsp
        clear hsp
        obtain ⟨hq0, hr1⟩ := Prod.mk.inj hr0
        clear hr0
        obtain ⟨hq1, hr2⟩ := Prod.mk.inj hr1
        clear hr1
        obtain ⟨hq2, hr3⟩ := Prod.mk.inj hr2
        clear hr2
        obtain ⟨hq3, hr4⟩ := Prod.mk.inj hr3
        clear hr3
        obtain ⟨hq4, hr5⟩ := Prod.mk.inj hr4
        clear hr4
        obtain ⟨hq5, hr6⟩ := Prod.mk.inj hr5
        clear hr5
        obtain ⟨hq6, hr7⟩ := Prod.mk.inj hr6
        clear hr6
        obtain ⟨hq7, hr8⟩ := Prod.mk.inj hr7
        clear hr7
        obtain ⟨hq8, hr9⟩ := Prod.mk.inj hr8
        clear hr8
        obtain ⟨hq9, hr10⟩ := Prod.mk.inj hr9
        clear hr9
        obtain ⟨hq10, hr11⟩ := Prod.mk.inj hr10
        clear hr10
        subst hq0
        subst hq1
        subst hq2
        subst hq3
        subst hq4
        subst hq5
        subst hq6
        subst hq7
        subst hq8
        subst hq9
        subst hq10
        subst hr11
        have hP9 := hP.sub (ws' := [(h0, .inr (13, z379)), (qf103, .inl (cf103, 8, .inl g103_379)), (qf112, .inl (cf112, 6000, .inl f112)), (qf102, .inl (cf102, 2048, .inl g102_379)), (qf104, .inl (cf104, 8, .inl g104_379)), (qf105, .inl (cf105, 8, .inl g105_379)), (qf106, .inl (cf106, 8, .inl g106_379)), (qf107, .inl (cf107, 96, .inl g107_379)), (qf108, .inl (cf108, 8, .inl g108_379)), (qf109, .inl (cf109, 96, .inl g109_379)), (qf110, .inl (cf110, 96, .inl g110_379)), (qf111, .inl (cf111, 96, .inl g111_379))]) [0, 1, 2, 3, 4, 5, 6, 7, 8, 9, 10, 11] rfl
        have hD9 := hD.sub (ws' := [(h0, .inr (13, z379)), (qf103, .inl (cf103, 8, .inl g103_379)), (qf112, .inl (cf112, 6000, .inl f112)), (qf102, .inl (cf102, 2048, .inl g102_379)), (qf104, .inl (cf104, 8, .inl g104_379)), (qf105, .inl (cf105, 8, .inl g105_379)), (qf106, .inl (cf106, 8, .inl g106_379)), (qf107, .inl (cf107, 96, .inl g107_379)), (qf108, .inl (cf108, 8, .inl g108_379)), (qf109, .inl (cf109, 96, .inl g109_379)), (qf110, .inl (cf110, 96, .inl g110_379)), (qf111, .inl (cf111, 96, .inl g111_379))]) [0, 1, 2, 3, 4, 5, 6, 7, 8, 9, 10, 11] (by decide) rfl
        have hK9 := hK.sub (tys' := [(cf103, .int), (cf112, .int), (cf102, .int), (cf104, .int), (cf105, .int), (cf106, .int), (cf107, .int), (cf108, .int), (cf109, .int), (cf110, .int), (cf111, .int)]) [0, 1, 2, 3, 4, 5, 6, 7, 8, 9, 10] rfl
        exact W.vret hx hb hr (fun t ht hW => ⟨⟨(z379), rfl, ⟨trivial, hlh_379, hrh_379, hfh_379_114, hfh_379_115⟩, by rw [ht]; exact hP9, va_K.moved hW.alike hK9, hD9⟩, hS.F ht⟩) hS.2.2 dX13_scan_400
      · rw [if_neg c_63] at hsp
        refine lv_aload_n hx hb dX13_scan_395 rfl (lv_at hl 0 rfl) ?_
        refine lv_iload_n hx hb dX13_scan_396 rfl (lv_at hl 1 rfl) ?_
        obtain ⟨u20_0, hu_20, hsp⟩ := ox_bind hsp
        try dsimp only at hsp
        have hPc := hP.sub (ws' := [(h0, .inr (13, z379))]) [0] rfl
        have hDc := hD.sub (ws' := [(h0, .inr (13, z379))]) [0] (by decide) rfl
        have hKc := hK.sub (tys' := []) [] rfl
        have hFc := va_free (wc := [(h0, .inr (13, z379))]) hD hS hA [0] rfl
        refine va_callv (va_runV (As := [.int l3_379]) (rest := []) ⟨hx, hb, hml, hown, hts⟩ (tm_unfit l dC dI H.size h0 z379 l3_379 x114_379 nf u20_0 hlh_379 hfh_379_114 hu_20) (cwV 1 hts gv_h9_48 rfl rfl rfl (by decide +kernel) ⟨Nat.le_of_ble_eq_true rfl, Nat.le_of_ble_eq_true rfl⟩) ⟨fun a U g mk q => by obtain ⟨q0, q1, qP, qK, qD⟩ := q; exact ⟨q0, q1, qP, va_K.moved (u := U) (U := U.calling g mk a) (Vm.Alike.refl U.vm) qK, qD⟩, va_recv hKc hPc (ci := 13) (q0 := 0) rfl rfl, fun U hU hW => ⟨rfl, by rw [hU], by rw [hU]; exact hPc, va_K.moved hW.alike hKc, hDc.weaken (fun _ _ _ _ => trivial)⟩⟩ rfl rfl hl.1 rfl (lv_room (Nat.le_of_ble_eq_true rfl)) dX13_scan_397 ⟨Nat.le_of_ble_eq_true rfl, Nat.le_of_ble_eq_true rfl⟩) hS (fun q _ h => hFc q h) hFc ?_
        clear hS
        intro u t H1 locs ht hvm hw hB hz1 hk1 hS
        obtain ⟨z_20, rfl⟩ : ∃ z, z = u := ⟨_, rfl⟩
        obtain ⟨hP1, hK1, hD1⟩ := hB
        rw [ht] at hP1
        have hK1 := va_K.moved hvm.symm hK1
        try dsimp only at hw
        have hPD := va_join (wr := [(qf103, .inl (cf103, 8, .inl g103_379)), (qf112, .inl (cf112, 6000, .inl f112)), (qf102, .inl (cf102, 2048, .inl g102_379)), (qf104, .inl (cf104, 8, .inl g104_379)), (qf105, .inl (cf105, 8, .inl g105_379)), (qf106, .inl (cf106, 8, .inl g106_379)), (qf107, .inl (cf107, 96, .inl g107_379)), (qf108, .inl (cf108, 8, .inl g108_379)), (qf109, .inl (cf109, 96, .inl g109_379)), (qf110, .inl (cf110, 96, .inl g110_379)), (qf111, .inl (cf111, 96, .inl g111_379))]) (w1 := [(h0, .inr (13, z_20))]) hP hD [0] [1, 2, 3, 4, 5, 6, 7, 8, 9, 10, 11] rfl rfl (by decide) (by decide) hk1 hFc hP1 hD1
        clear hP hD
        obtain ⟨hP, hD⟩ := hPD
        replace hK := (hK.sub (tys' := [(cf103, .int), (cf112, .int), (cf102, .int), (cf104, .int), (cf105, .int), (cf106, .int), (cf107, .int), (cf108, .int), (cf109, .int), (cf110, .int), (cf111, .int)]) [0, 1, 2, 3, 4, 5, 6, 7, 8, 9, 10] rfl).app hK1
        clear hPc hDc hKc hFc hP1 hK1 hD1 hz1 hk1 ht hvm
        generalize H1 = H at hP hS ⊢
        replace hP : va_P (dC, dI) vwCl [(qf103, .inl (cf103, 8, .inl g103_379)), (qf112, .inl (cf112, 6000, .inl f112)), (qf102, .inl (cf102, 2048, .inl g102_379)), (qf104, .inl (cf104, 8, .inl g104_379)), (qf105, .inl (cf105, 8, .inl g105_379)), (qf106, .inl (cf106, 8, .inl g106_379)), (qf107, .inl (cf107, 96, .inl g107_379)), (qf108, .inl (cf108, 8, .inl g108_379)), (qf109, .inl (cf109, 96, .inl g109_379)), (qf110, .inl (cf110, 96, .inl g110_379)), (qf111, .inl (cf111, 96, .inl g111_379)), (h0, .inr (13, z_20))] H := hP
        replace hD : va_D A [(qf103, .inl (cf103, 8, .inl g103_379)), (qf112, .inl (cf112, 6000, .inl f112)), (qf102, .inl (cf102, 2048, .inl g102_379)), (qf104, .inl (cf104, 8, .inl g104_379)), (qf105, .inl (cf105, 8, .inl g105_379)), (qf106, .inl (cf106, 8, .inl g106_379)), (qf107, .inl (cf107, 96, .inl g107_379)), (qf108, .inl (cf108, 8, .inl g108_379)), (qf109, .inl (cf109, 96, .inl g109_379)), (qf110, .inl (cf110, 96, .inl g110_379)), (qf111, .inl (cf111, 96, .inl g111_379)), (h0, .inr (13, z_20))] := hD
        replace hK : va_K (dC, dI) vwCl [(cf103, .int), (cf112, .int), (cf102, .int), (cf104, .int), (cf105, .int), (cf106, .int), (cf107, .int), (cf108, .int), (cf109, .int), (cf110, .int), (cf111, .int)] s := hK
        obtain ⟨hwa_20, hln_20, hre_20, hch_20_114⟩ := hw
        have hfk_20_102 : z_20[102]? = some (.ref qf102) := (hre_20 102 (by decide)).trans (hfh_379_102)
        have hfk_20_103 : z_20[103]? = some (.ref qf103) := (hre_20 103 (by decide)).trans (hfh_379_103)
        have hfk_20_104 : z_20[104]? = some (.ref qf104) := (hre_20 104 (by decide)).trans (hfh_379_104)
        have hfk_20_105 : z_20[105]? = some (.ref qf105) := (hre_20 105 (by decide)).trans (hfh_379_105)
        have hfk_20_106 : z_20[106]? = some (.ref qf106) := (hre_20 106 (by decide)).trans (hfh_379_106)
        have hfk_20_107 : z_20[107]? = some (.ref qf107) := (hre_20 107 (by decide)).trans (hfh_379_107)
        have hfk_20_108 : z_20[108]? = some (.ref qf108) := (hre_20 108 (by decide)).trans (hfh_379_108)
        have hfk_20_109 : z_20[109]? = some (.ref qf109) := (hre_20 109 (by decide)).trans (hfh_379_109)
        have hfk_20_110 : z_20[110]? = some (.ref qf110) := (hre_20 110 (by decide)).trans (hfh_379_110)
        have hfk_20_111 : z_20[111]? = some (.ref qf111) := (hre_20 111 (by decide)).trans (hfh_379_111)
        have hfk_20_112 : z_20[112]? = some (.ref qf112) := (hre_20 112 (by decide)).trans (hfh_379_112)
        have hfk_20_113 : z_20[113]? = some (.int v113) := (hre_20 113 (by decide)).trans (hfh_379_113)
        have hfk_20_115 : z_20[115]? = some (.int x115_379) := (hre_20 115 (by decide)).trans (hfh_379_115)
        have hrq_20 : ∀ j : Nat, j ≠ 114 → j ≠ 115 → z_20[j]? = zs[j]? := fun j g114 g115 => (hre_20 j g114).trans (hrh_379 j g114 g115)
        have hr0 := Option.some.inj hsp
        clear hsp
        obtain ⟨hq0, hr1⟩ := Prod.mk.inj hr0
        clear hr0
        obtain ⟨hq1, hr2⟩ := Prod.mk.inj hr1
        clear hr1
        obtain ⟨hq2, hr3⟩ := Prod.mk.inj hr2
        clear hr2
        obtain ⟨hq3, hr4⟩ := Prod.mk.inj hr3
        clear hr3
        obtain ⟨hq4, hr5⟩ := Prod.mk.inj hr4
        clear hr4
        obtain ⟨hq5, hr6⟩ := Prod.mk.inj hr5
        clear hr5
        obtain ⟨hq6, hr7⟩ := Prod.mk.inj hr6
        clear hr6
        obtain ⟨hq7, hr8⟩ := Prod.mk.inj hr7
        clear hr7
        obtain ⟨hq8, hr9⟩ := Prod.mk.inj hr8
        clear hr8
        obtain ⟨hq9, hr10⟩ := Prod.mk.inj hr9
        clear hr9
        obtain ⟨hq10, hr11⟩ := Prod.mk.inj hr10
        clear hr10
        subst hq0
        subst hq1
        subst hq2
        subst hq3
        subst hq4
        subst hq5
        subst hq6
        subst hq7
        subst hq8
        subst hq9
        subst hq10
        subst hr11
        have hP9 := hP.sub (ws' := [(h0, .inr (13, z_20)), (qf103, .inl (cf103, 8, .inl g103_379)), (qf112, .inl (cf112, 6000, .inl f112)), (qf102, .inl (cf102, 2048, .inl g102_379)), (qf104, .inl (cf104, 8, .inl g104_379)), (qf105, .inl (cf105, 8, .inl g105_379)), (qf106, .inl (cf106, 8, .inl g106_379)), (qf107, .inl (cf107, 96, .inl g107_379)), (qf108, .inl (cf108, 8, .inl g108_379)), (qf109, .inl (cf109, 96, .inl g109_379)), (qf110, .inl (cf110, 96, .inl g110_379)), (qf111, .inl (cf111, 96, .inl g111_379))]) [11, 0, 1, 2, 3, 4, 5, 6, 7, 8, 9, 10] rfl
        have hD9 := hD.sub (ws' := [(h0, .inr (13, z_20)), (qf103, .inl (cf103, 8, .inl g103_379)), (qf112, .inl (cf112, 6000, .inl f112)), (qf102, .inl (cf102, 2048, .inl g102_379)), (qf104, .inl (cf104, 8, .inl g104_379)), (qf105, .inl (cf105, 8, .inl g105_379)), (qf106, .inl (cf106, 8, .inl g106_379)), (qf107, .inl (cf107, 96, .inl g107_379)), (qf108, .inl (cf108, 8, .inl g108_379)), (qf109, .inl (cf109, 96, .inl g109_379)), (qf110, .inl (cf110, 96, .inl g110_379)), (qf111, .inl (cf111, 96, .inl g111_379))]) [11, 0, 1, 2, 3, 4, 5, 6, 7, 8, 9, 10] (by decide) rfl
        have hK9 := hK.sub (tys' := [(cf103, .int), (cf112, .int), (cf102, .int), (cf104, .int), (cf105, .int), (cf106, .int), (cf107, .int), (cf108, .int), (cf109, .int), (cf110, .int), (cf111, .int)]) [0, 1, 2, 3, 4, 5, 6, 7, 8, 9, 10] rfl
        exact W.vret hx hb hr (fun t ht hW => ⟨⟨(z_20), rfl, ⟨trivial, hln_20, hrq_20, hch_20_114, hfk_20_115⟩, by rw [ht]; exact hP9, va_K.moved hW.alike hK9, hD9⟩, hS.F ht⟩) hS.2.2 dX13_scan_400
  intro hj_379
  refine jn_use (α := Heap × List Loc × Array Slot × List Value × Int32 × Int32 × (Nat → Int32) × (Nat → Int32) × (Nat → Int32) × (Nat → Int32) × (Nat → Int32) × (Nat → Int32) × (Nat → Int32) × (Nat → Int32) × (Nat → Int32) × (Nat → Int32) × Int32 × Int32) (fun x9 => x9.1) (fun x9 => x9.2.1) (fun x9 => F0 m 314 x9.2.2.1 []) (fun x9 => match x9 with | (H, locs, ls, z314, l1_314, l3_314, g102_314, g103_314, g104_314, g105_314, g106_314, g107_314, g108_314, g109_314, g110_314, g111_314, x114_314, x115_314) => lv_has ls 5 [(0, .ref h0), (1, .int l1_314), (3, .int l3_314)] ∧ va_S A s.heap H locs ∧ va_D A [(h0, .inr (13, z314)), (qf103, .inl (cf103, 8, .inl g103_314)), (qf112, .inl (cf112, 6000, .inl f112)), (qf102, .inl (cf102, 2048, .inl g102_314)), (qf104, .inl (cf104, 8, .inl g104_314)), (qf105, .inl (cf105, 8, .inl g105_314)), (qf106, .inl (cf106, 8, .inl g106_314)), (qf107, .inl (cf107, 96, .inl g107_314)), (qf108, .inl (cf108, 8, .inl g108_314)), (qf109, .inl (cf109, 96, .inl g109_314)), (qf110, .inl (cf110, 96, .inl g110_314)), (qf111, .inl (cf111, 96, .inl g111_314))] ∧ va_P (dC, dI) vwCl [(h0, .inr (13, z314)), (qf103, .inl (cf103, 8, .inl g103_314)), (qf112, .inl (cf112, 6000, .inl f112)), (qf102, .inl (cf102, 2048, .inl g102_314)), (qf104, .inl (cf104, 8, .inl g104_314)), (qf105, .inl (cf105, 8, .inl g105_314)), (qf106, .inl (cf106, 8, .inl g106_314)), (qf107, .inl (cf107, 96, .inl g107_314)), (qf108, .inl (cf108, 8, .inl g108_314)), (qf109, .inl (cf109, 96, .inl g109_314)), (qf110, .inl (cf110, 96, .inl g110_314)), (qf111, .inl (cf111, 96, .inl g111_314))] H ∧ z314[102]? = some (.ref qf102) ∧ z314[103]? = some (.ref qf103) ∧ z314[104]? = some (.ref qf104) ∧ z314[105]? = some (.ref qf105) ∧ z314[106]? = some (.ref qf106) ∧ z314[107]? = some (.ref qf107) ∧ z314[108]? = some (.ref qf108) ∧ z314[109]? = some (.ref qf109) ∧ z314[110]? = some (.ref qf110) ∧ z314[111]? = some (.ref qf111) ∧ z314[112]? = some (.ref qf112) ∧ z314[113]? = some (.int v113) ∧ z314[114]? = some (.int x114_314) ∧ z314[115]? = some (.int x115_314) ∧ z314.length = 155 ∧ (∀ j : Nat, j ≠ 114 → j ≠ 115 → z314[j]? = zs[j]?) ∧ jn_vm_scan_314 nf a1 v113 f103 f112 f102 f104 f105 f106 f107 f108 f109 f110 f111 l1_314 l3_314 g102_314 g103_314 g104_314 g105_314 g106_314 g107_314 g108_314 g109_314 g110_314 g111_314 x114_314 x115_314 = some (o102, o103, o104, o105, o106, o107, o108, o109, o110, o111, w114, w115)) ?_ ?_
  · intro x9 hJ9
    obtain ⟨H, locs, ls, z314, l1_314, l3_314, g102_314, g103_314, g104_314, g105_314, g106_314, g107_314, g108_314, g109_314, g110_314, g111_314, x114_314, x115_314⟩ := x9
    obtain ⟨hl, hS, hD, hP, hfh_314_102, hfh_314_103, hfh_314_104, hfh_314_105, hfh_314_106, hfh_314_107, hfh_314_108, hfh_314_109, hfh_314_110, hfh_314_111, hfh_314_112, hfh_314_113, hfh_314_114, hfh_314_115, hlh_314, hrh_314, hsp⟩ := hJ9
    replace hl : lv_has ls 5 [(0, .ref h0), (1, .int l1_314), (3, .int l3_314)] := hl
    replace hS : va_S A s.heap H locs := hS
    replace hD : va_D A [(h0, .inr (13, z314)), (qf103, .inl (cf103, 8, .inl g103_314)), (qf112, .inl (cf112, 6000, .inl f112)), (qf102, .inl (cf102, 2048, .inl g102_314)), (qf104, .inl (cf104, 8, .inl g104_314)), (qf105, .inl (cf105, 8, .inl g105_314)), (qf106, .inl (cf106, 8, .inl g106_314)), (qf107, .inl (cf107, 96, .inl g107_314)), (qf108, .inl (cf108, 8, .inl g108_314)), (qf109, .inl (cf109, 96, .inl g109_314)), (qf110, .inl (cf110, 96, .inl g110_314)), (qf111, .inl (cf111, 96, .inl g111_314))] := hD
    replace hP : va_P (dC, dI) vwCl [(h0, .inr (13, z314)), (qf103, .inl (cf103, 8, .inl g103_314)), (qf112, .inl (cf112, 6000, .inl f112)), (qf102, .inl (cf102, 2048, .inl g102_314)), (qf104, .inl (cf104, 8, .inl g104_314)), (qf105, .inl (cf105, 8, .inl g105_314)), (qf106, .inl (cf106, 8, .inl g106_314)), (qf107, .inl (cf107, 96, .inl g107_314)), (qf108, .inl (cf108, 8, .inl g108_314)), (qf109, .inl (cf109, 96, .inl g109_314)), (qf110, .inl (cf110, 96, .inl g110_314)), (qf111, .inl (cf111, 96, .inl g111_314))] H := hP
    replace hsp : jn_vm_scan_314 nf a1 v113 f103 f112 f102 f104 f105 f106 f107 f108 f109 f110 f111 l1_314 l3_314 g102_314 g103_314 g104_314 g105_314 g106_314 g107_314 g108_314 g109_314 g110_314 g111_314 x114_314 x115_314 = some (o102, o103, o104, o105, o106, o107, o108, o109, o110, o111, w114, w115) := hsp
    show W _ _ _ _ _ _ _ _ _ _ H locs _ _ _ (F0 m 314 ls [])
    unfold jn_vm_scan_314 at hsp
    try dsimp only at hsp
    refine lv_aload_n hx hb dX13_scan_314 rfl (lv_at hl 0 rfl) ?_
    refine va_get (D := (dC, dI)) (ci := 13) (v := .ref qf108) (C := RX13) (T := TX13) (N := 155) hx hb hts uV_h9_X13 hown hK hP 0 rfl rfl 108 (by decide) (hts (.fieldLink RX13 233 "ClassMillModel" "methodMany" "[I") mw_h9_281) (fun _ h9 => h9) hfh_314_108 dX13_scan_315 ?_
    refine lv_iload_n hx hb dX13_scan_318 rfl (lv_at hl 1 rfl) ?_
    refine lv_aload_n hx hb dX13_scan_319 rfl (lv_at hl 0 rfl) ?_
    refine va_get (D := (dC, dI)) (ci := 13) (v := .ref qf112) (C := RX13) (T := TX13) (N := 155) hx hb hts uV_h9_X13 hown hK hP 0 rfl rfl 112 (by decide) (hts (.fieldLink RX13 245 "ClassMillModel" "look" "[I") mw_h9_242) (fun _ h9 => h9) hfh_314_112 dX13_scan_320 ?_
    refine lv_iload_n hx hb dX13_scan_323 rfl (lv_at hl 2 rfl) ?_
    obtain ⟨hi_55, hsp⟩ := ox_in hsp
    refine va_iald hx hb hK hP 2 1 rfl rfl (i := l3_314) hi_55 dX13_scan_324 ?_
    obtain ⟨hi_56, hsp⟩ := ox_in hsp
    refine va_iast hx hb hK hP hD hS 8 7 rfl rfl (i := l1_314) (x := (f112 (l3_314 : Int32).toNatClampNeg)) hi_56 dX13_scan_325 ?_
    clear hP hD hS
    intro H locs hP hD hS
    replace hP : va_P (dC, dI) vwCl [(h0, .inr (13, z314)), (qf103, .inl (cf103, 8, .inl g103_314)), (qf112, .inl (cf112, 6000, .inl f112)), (qf102, .inl (cf102, 2048, .inl g102_314)), (qf104, .inl (cf104, 8, .inl g104_314)), (qf105, .inl (cf105, 8, .inl g105_314)), (qf106, .inl (cf106, 8, .inl g106_314)), (qf107, .inl (cf107, 96, .inl g107_314)), (qf108, .inl (cf108, 8, .inl (upd g108_314 (l1_314 : Int32).toNatClampNeg (f112 (l3_314 : Int32).toNatClampNeg)))), (qf109, .inl (cf109, 96, .inl g109_314)), (qf110, .inl (cf110, 96, .inl g110_314)), (qf111, .inl (cf111, 96, .inl g111_314))] H := hP
    replace hD : va_D A [(h0, .inr (13, z314)), (qf103, .inl (cf103, 8, .inl g103_314)), (qf112, .inl (cf112, 6000, .inl f112)), (qf102, .inl (cf102, 2048, .inl g102_314)), (qf104, .inl (cf104, 8, .inl g104_314)), (qf105, .inl (cf105, 8, .inl g105_314)), (qf106, .inl (cf106, 8, .inl g106_314)), (qf107, .inl (cf107, 96, .inl g107_314)), (qf108, .inl (cf108, 8, .inl (upd g108_314 (l1_314 : Int32).toNatClampNeg (f112 (l3_314 : Int32).toNatClampNeg)))), (qf109, .inl (cf109, 96, .inl g109_314)), (qf110, .inl (cf110, 96, .inl g110_314)), (qf111, .inl (cf111, 96, .inl g111_314))] := hD
    refine lv_iinc (v := (l3_314 + 1)) (lv' := [(3, .int (l3_314 + 1)), (0, .ref h0), (1, .int l1_314)]) hx hb dX13_scan_326 hl (k := 2) rfl rfl (by decide) rfl (fun ls hl => ?_)
    refine lv_iconst (v := 0) hx hb dX13_scan_329 (by decide) ?_
    refine lv_istore (lv' := [(4, .int 0), (3, .int (l3_314 + 1)), (0, .ref h0), (1, .int l1_314)]) hx hb dX13_scan_330 hl (by decide) rfl (fun ls hl => ?_)
    replace hl : lv_has ls 5 [(4, .int 0), (3, .int (l3_314 + 1)), (0, .ref h0), (1, .int l1_314)] := lv_sub hl [0, 1, 2, 3] rfl
    replace hP := hP.sub (ws' := [(h0, .inr (13, z314)), (qf103, .inl (cf103, 8, .inl g103_314)), (qf112, .inl (cf112, 6000, .inl f112)), (qf102, .inl (cf102, 2048, .inl g102_314)), (qf104, .inl (cf104, 8, .inl g104_314)), (qf105, .inl (cf105, 8, .inl g105_314)), (qf106, .inl (cf106, 8, .inl g106_314)), (qf107, .inl (cf107, 96, .inl g107_314)), (qf108, .inl (cf108, 8, .inl (upd g108_314 (l1_314 : Int32).toNatClampNeg (f112 (l3_314 : Int32).toNatClampNeg)))), (qf109, .inl (cf109, 96, .inl g109_314)), (qf110, .inl (cf110, 96, .inl g110_314)), (qf111, .inl (cf111, 96, .inl g111_314))]) [0, 1, 2, 3, 4, 5, 6, 7, 8, 9, 10, 11] rfl
    replace hD := hD.sub (ws' := [(h0, .inr (13, z314)), (qf103, .inl (cf103, 8, .inl g103_314)), (qf112, .inl (cf112, 6000, .inl f112)), (qf102, .inl (cf102, 2048, .inl g102_314)), (qf104, .inl (cf104, 8, .inl g104_314)), (qf105, .inl (cf105, 8, .inl g105_314)), (qf106, .inl (cf106, 8, .inl g106_314)), (qf107, .inl (cf107, 96, .inl g107_314)), (qf108, .inl (cf108, 8, .inl (upd g108_314 (l1_314 : Int32).toNatClampNeg (f112 (l3_314 : Int32).toNatClampNeg)))), (qf109, .inl (cf109, 96, .inl g109_314)), (qf110, .inl (cf110, 96, .inl g110_314)), (qf111, .inl (cf111, 96, .inl g111_314))]) [0, 1, 2, 3, 4, 5, 6, 7, 8, 9, 10, 11] (by decide) rfl
    replace hK := hK.sub (tys' := [(cf103, .int), (cf112, .int), (cf102, .int), (cf104, .int), (cf105, .int), (cf106, .int), (cf107, .int), (cf108, .int), (cf109, .int), (cf110, .int), (cf111, .int)]) [0, 1, 2, 3, 4, 5, 6, 7, 8, 9, 10] rfl
    obtain ⟨n_332, hn_332⟩ : ∃ z : Nat, z = nf := ⟨_, rfl⟩
    obtain ⟨l1_332, el1_332⟩ : ∃ z : Int32, z = l1_314 := ⟨_, rfl⟩
    obtain ⟨l3_332, el3_332⟩ : ∃ z : Int32, z = (l3_314 + 1) := ⟨_, rfl⟩
    obtain ⟨l4_332, el4_332⟩ : ∃ z : Int32, z = 0 := ⟨_, rfl⟩
    obtain ⟨g102_332, eg102_332⟩ : ∃ z : Nat → Int32, z = g102_314 := ⟨_, rfl⟩
    obtain ⟨g103_332, eg103_332⟩ : ∃ z : Nat → Int32, z = g103_314 := ⟨_, rfl⟩
    obtain ⟨g104_332, eg104_332⟩ : ∃ z : Nat → Int32, z = g104_314 := ⟨_, rfl⟩
    obtain ⟨g105_332, eg105_332⟩ : ∃ z : Nat → Int32, z = g105_314 := ⟨_, rfl⟩
    obtain ⟨g106_332, eg106_332⟩ : ∃ z : Nat → Int32, z = g106_314 := ⟨_, rfl⟩
    obtain ⟨g107_332, eg107_332⟩ : ∃ z : Nat → Int32, z = g107_314 := ⟨_, rfl⟩
    obtain ⟨g108_332, eg108_332⟩ : ∃ z : Nat → Int32, z = (upd g108_314 (l1_314 : Int32).toNatClampNeg (f112 (l3_314 : Int32).toNatClampNeg)) := ⟨_, rfl⟩
    obtain ⟨g109_332, eg109_332⟩ : ∃ z : Nat → Int32, z = g109_314 := ⟨_, rfl⟩
    obtain ⟨g110_332, eg110_332⟩ : ∃ z : Nat → Int32, z = g110_314 := ⟨_, rfl⟩
    obtain ⟨g111_332, eg111_332⟩ : ∃ z : Nat → Int32, z = g111_314 := ⟨_, rfl⟩
    obtain ⟨x114_332, ex114_332⟩ : ∃ z : Int32, z = x114_314 := ⟨_, rfl⟩
    obtain ⟨x115_332, ex115_332⟩ : ∃ z : Int32, z = x115_314 := ⟨_, rfl⟩
    replace hsp : lp_vm_scan_332 nf n_332 a1 v113 f103 f112 f102 f104 f105 f106 f107 f108 f109 f110 f111 l1_332 l3_332 l4_332 g102_332 g103_332 g104_332 g105_332 g106_332 g107_332 g108_332 g109_332 g110_332 g111_332 x114_332 x115_332 = some (o102, o103, o104, o105, o106, o107, o108, o109, o110, o111, w114, w115) := by rw [hn_332, el1_332, el3_332, el4_332, eg102_332, eg103_332, eg104_332, eg105_332, eg106_332, eg107_332, eg108_332, eg109_332, eg110_332, eg111_332, ex114_332, ex115_332]; exact hsp
    replace hl : lv_has ls 5 [(4, .int l4_332), (3, .int l3_332), (0, .ref h0), (1, .int l1_332)] := by rw [el1_332, el3_332, el4_332]; exact hl
    obtain ⟨z332, ez332⟩ : ∃ z : List Value, z = z314 := ⟨_, rfl⟩
    have hfh_332_102 : z332[102]? = some (.ref qf102) := by rw [ez332]; exact hfh_314_102
    have hfh_332_103 : z332[103]? = some (.ref qf103) := by rw [ez332]; exact hfh_314_103
    have hfh_332_104 : z332[104]? = some (.ref qf104) := by rw [ez332]; exact hfh_314_104
    have hfh_332_105 : z332[105]? = some (.ref qf105) := by rw [ez332]; exact hfh_314_105
    have hfh_332_106 : z332[106]? = some (.ref qf106) := by rw [ez332]; exact hfh_314_106
    have hfh_332_107 : z332[107]? = some (.ref qf107) := by rw [ez332]; exact hfh_314_107
    have hfh_332_108 : z332[108]? = some (.ref qf108) := by rw [ez332]; exact hfh_314_108
    have hfh_332_109 : z332[109]? = some (.ref qf109) := by rw [ez332]; exact hfh_314_109
    have hfh_332_110 : z332[110]? = some (.ref qf110) := by rw [ez332]; exact hfh_314_110
    have hfh_332_111 : z332[111]? = some (.ref qf111) := by rw [ez332]; exact hfh_314_111
    have hfh_332_112 : z332[112]? = some (.ref qf112) := by rw [ez332]; exact hfh_314_112
    have hfh_332_113 : z332[113]? = some (.int v113) := by rw [ez332]; exact hfh_314_113
    have hfh_332_114 : z332[114]? = some (.int x114_332) := by rw [ez332, ex114_332]; exact hfh_314_114
    have hfh_332_115 : z332[115]? = some (.int x115_332) := by rw [ez332, ex115_332]; exact hfh_314_115
    have hlh_332 : z332.length = 155 := by rw [ez332]; exact hlh_314
    have hrh_332 : ∀ j : Nat, j ≠ 114 → j ≠ 115 → z332[j]? = zs[j]? := by rw [ez332]; exact hrh_314
    replace hP : va_P (dC, dI) vwCl [(h0, .inr (13, z332)), (qf103, .inl (cf103, 8, .inl g103_332)), (qf112, .inl (cf112, 6000, .inl f112)), (qf102, .inl (cf102, 2048, .inl g102_332)), (qf104, .inl (cf104, 8, .inl g104_332)), (qf105, .inl (cf105, 8, .inl g105_332)), (qf106, .inl (cf106, 8, .inl g106_332)), (qf107, .inl (cf107, 96, .inl g107_332)), (qf108, .inl (cf108, 8, .inl g108_332)), (qf109, .inl (cf109, 96, .inl g109_332)), (qf110, .inl (cf110, 96, .inl g110_332)), (qf111, .inl (cf111, 96, .inl g111_332))] H := by rw [ez332, eg102_332, eg103_332, eg104_332, eg105_332, eg106_332, eg107_332, eg108_332, eg109_332, eg110_332, eg111_332]; exact hP
    replace hD : va_D A [(h0, .inr (13, z332)), (qf103, .inl (cf103, 8, .inl g103_332)), (qf112, .inl (cf112, 6000, .inl f112)), (qf102, .inl (cf102, 2048, .inl g102_332)), (qf104, .inl (cf104, 8, .inl g104_332)), (qf105, .inl (cf105, 8, .inl g105_332)), (qf106, .inl (cf106, 8, .inl g106_332)), (qf107, .inl (cf107, 96, .inl g107_332)), (qf108, .inl (cf108, 8, .inl g108_332)), (qf109, .inl (cf109, 96, .inl g109_332)), (qf110, .inl (cf110, 96, .inl g110_332)), (qf111, .inl (cf111, 96, .inl g111_332))] := by rw [ez332, eg102_332, eg103_332, eg104_332, eg105_332, eg106_332, eg107_332, eg108_332, eg109_332, eg110_332, eg111_332]; exact hD
    clear hn_332 ez332 el1_332 el3_332 el4_332 eg102_332 eg103_332 eg104_332 eg105_332 eg106_332 eg107_332 eg108_332 eg109_332 eg110_332 eg111_332 ex114_332 ex115_332
    try clear hlo
    try clear hH
    revert hsp
    revert hP
    revert hD
    revert hS
    revert hl
    revert hrh_332
    revert hlh_332
    revert hfh_332_115
    revert hfh_332_114
    revert hfh_332_113
    revert hfh_332_112
    revert hfh_332_111
    revert hfh_332_110
    revert hfh_332_109
    revert hfh_332_108
    revert hfh_332_107
    revert hfh_332_106
    revert hfh_332_105
    revert hfh_332_104
    revert hfh_332_103
    revert hfh_332_102
    revert x115_332
    revert x114_332
    revert g111_332
    revert g110_332
    revert g109_332
    revert g108_332
    revert g107_332
    revert g106_332
    revert g105_332
    revert g104_332
    revert g103_332
    revert g102_332
    revert l4_332
    revert l3_332
    revert l1_332
    revert z332
    revert ls
    revert locs
    revert H
    induction n_332 with
    | zero => intro H locs ls z332 l1_332 l3_332 l4_332 g102_332 g103_332 g104_332 g105_332 g106_332 g107_332 g108_332 g109_332 g110_332 g111_332 x114_332 x115_332 hfh_332_102 hfh_332_103 hfh_332_104 hfh_332_105 hfh_332_106 hfh_332_107 hfh_332_108 hfh_332_109 hfh_332_110 hfh_332_111 hfh_332_112 hfh_332_113 hfh_332_114 hfh_332_115 hlh_332 hrh_332 hl hS hD hP hsp; unfold lp_vm_scan_332 at hsp; cases hsp
    | succ n_332 ih_332 =>
      intro H locs ls z332 l1_332 l3_332 l4_332 g102_332 g103_332 g104_332 g105_332 g106_332 g107_332 g108_332 g109_332 g110_332 g111_332 x114_332 x115_332 hfh_332_102 hfh_332_103 hfh_332_104 hfh_332_105 hfh_332_106 hfh_332_107 hfh_332_108 hfh_332_109 hfh_332_110 hfh_332_111 hfh_332_112 hfh_332_113 hfh_332_114 hfh_332_115 hlh_332 hrh_332 hl hS hD hP hsp
      unfold lp_vm_scan_332 at hsp
      try dsimp only at hsp
      refine lv_aload_n hx hb dX13_scan_332 rfl (lv_at hl 2 rfl) ?_
      refine va_get (D := (dC, dI)) (ci := 13) (v := .int x114_332) (C := RX13) (T := TX13) (N := 155) hx hb hts uV_h9_X13 hown hK hP 0 rfl rfl 114 (by decide) (hts (.fieldLink RX13 764 "ClassMillModel" "form" "I") mw_h9_251) (fun _ h9 => h9) hfh_332_114 dX13_scan_333 ?_
      refine lv_iconst (v := (-1)) hx hb dX13_scan_336 (by decide) ?_
      refine lv_icmp_ne (tgt := 379) hx hb dX13_scan_337 (by decide) (fun c_57 => ?_) (fun c_57 => ?_)
      · rw [if_neg c_57] at hsp
        exact hj_379 (H, locs, ls, z332, l3_332, g102_332, g103_332, g104_332, g105_332, g106_332, g107_332, g108_332, g109_332, g110_332, g111_332, x114_332, x115_332) ⟨lv_sub hl [2, 1] rfl, hS, hD.sub (ws' := [(h0, .inr (13, z332)), (qf103, .inl (cf103, 8, .inl g103_332)), (qf112, .inl (cf112, 6000, .inl f112)), (qf102, .inl (cf102, 2048, .inl g102_332)), (qf104, .inl (cf104, 8, .inl g104_332)), (qf105, .inl (cf105, 8, .inl g105_332)), (qf106, .inl (cf106, 8, .inl g106_332)), (qf107, .inl (cf107, 96, .inl g107_332)), (qf108, .inl (cf108, 8, .inl g108_332)), (qf109, .inl (cf109, 96, .inl g109_332)), (qf110, .inl (cf110, 96, .inl g110_332)), (qf111, .inl (cf111, 96, .inl g111_332))]) [0, 1, 2, 3, 4, 5, 6, 7, 8, 9, 10, 11] (by decide) rfl, hP.sub (ws' := [(h0, .inr (13, z332)), (qf103, .inl (cf103, 8, .inl g103_332)), (qf112, .inl (cf112, 6000, .inl f112)), (qf102, .inl (cf102, 2048, .inl g102_332)), (qf104, .inl (cf104, 8, .inl g104_332)), (qf105, .inl (cf105, 8, .inl g105_332)), (qf106, .inl (cf106, 8, .inl g106_332)), (qf107, .inl (cf107, 96, .inl g107_332)), (qf108, .inl (cf108, 8, .inl g108_332)), (qf109, .inl (cf109, 96, .inl g109_332)), (qf110, .inl (cf110, 96, .inl g110_332)), (qf111, .inl (cf111, 96, .inl g111_332))]) [0, 1, 2, 3, 4, 5, 6, 7, 8, 9, 10, 11] rfl, hfh_332_102, hfh_332_103, hfh_332_104, hfh_332_105, hfh_332_106, hfh_332_107, hfh_332_108, hfh_332_109, hfh_332_110, hfh_332_111, hfh_332_112, hfh_332_113, hfh_332_114, hfh_332_115, hlh_332, hrh_332, hsp⟩
      · rw [if_pos c_57] at hsp
        refine lv_iload hx hb dX13_scan_340 (lv_at hl 0 rfl) ?_
        refine lv_aload_n hx hb dX13_scan_342 rfl (lv_at hl 2 rfl) ?_
        refine va_get (D := (dC, dI)) (ci := 13) (v := .ref qf108) (C := RX13) (T := TX13) (N := 155) hx hb hts uV_h9_X13 hown hK hP 0 rfl rfl 108 (by decide) (hts (.fieldLink RX13 233 "ClassMillModel" "methodMany" "[I") mw_h9_281) (fun _ h9 => h9) hfh_332_108 dX13_scan_343 ?_
        refine lv_iload_n hx hb dX13_scan_346 rfl (lv_at hl 3 rfl) ?_
        obtain ⟨hi_58, hsp⟩ := ox_in hsp
        refine va_iald hx hb hK hP 8 7 rfl rfl (i := l1_332) hi_58 dX13_scan_347 ?_
        refine lv_icmp_ge (tgt := 379) hx hb dX13_scan_348 (by decide) (fun c_59 => ?_) (fun c_59 => ?_)
        · rw [if_pos c_59] at hsp
          exact hj_379 (H, locs, ls, z332, l3_332, g102_332, g103_332, g104_332, g105_332, g106_332, g107_332, g108_332, g109_332, g110_332, g111_332, x114_332, x115_332) ⟨lv_sub hl [2, 1] rfl, hS, hD.sub (ws' := [(h0, .inr (13, z332)), (qf103, .inl (cf103, 8, .inl g103_332)), (qf112, .inl (cf112, 6000, .inl f112)), (qf102, .inl (cf102, 2048, .inl g102_332)), (qf104, .inl (cf104, 8, .inl g104_332)), (qf105, .inl (cf105, 8, .inl g105_332)), (qf106, .inl (cf106, 8, .inl g106_332)), (qf107, .inl (cf107, 96, .inl g107_332)), (qf108, .inl (cf108, 8, .inl g108_332)), (qf109, .inl (cf109, 96, .inl g109_332)), (qf110, .inl (cf110, 96, .inl g110_332)), (qf111, .inl (cf111, 96, .inl g111_332))]) [0, 1, 2, 3, 4, 5, 6, 7, 8, 9, 10, 11] (by decide) rfl, hP.sub (ws' := [(h0, .inr (13, z332)), (qf103, .inl (cf103, 8, .inl g103_332)), (qf112, .inl (cf112, 6000, .inl f112)), (qf102, .inl (cf102, 2048, .inl g102_332)), (qf104, .inl (cf104, 8, .inl g104_332)), (qf105, .inl (cf105, 8, .inl g105_332)), (qf106, .inl (cf106, 8, .inl g106_332)), (qf107, .inl (cf107, 96, .inl g107_332)), (qf108, .inl (cf108, 8, .inl g108_332)), (qf109, .inl (cf109, 96, .inl g109_332)), (qf110, .inl (cf110, 96, .inl g110_332)), (qf111, .inl (cf111, 96, .inl g111_332))]) [0, 1, 2, 3, 4, 5, 6, 7, 8, 9, 10, 11] rfl, hfh_332_102, hfh_332_103, hfh_332_104, hfh_332_105, hfh_332_106, hfh_332_107, hfh_332_108, hfh_332_109, hfh_332_110, hfh_332_111, hfh_332_112, hfh_332_113, hfh_332_114, hfh_332_115, hlh_332, hrh_332, hsp⟩
        · rw [if_neg c_59] at hsp
          refine lv_aload_n hx hb dX13_scan_351 rfl (lv_at hl 2 rfl) ?_
          refine va_get (D := (dC, dI)) (ci := 13) (v := .ref qf109) (C := RX13) (T := TX13) (N := 155) hx hb hts uV_h9_X13 hown hK hP 0 rfl rfl 109 (by decide) (hts (.fieldLink RX13 236 "ClassMillModel" "methodAt" "[I") mw_h9_282) (fun _ h9 => h9) hfh_332_109 dX13_scan_352 ?_
          refine lv_bipush (v := 12) hx hb dX13_scan_355 (by decide) ?_
          refine lv_iload_n hx hb dX13_scan_357 rfl (lv_at hl 3 rfl) ?_
          refine lv_imul hx hb dX13_scan_358 ?_
          refine lv_iload hx hb dX13_scan_359 (lv_at hl 0 rfl) ?_
          refine lv_iadd hx hb dX13_scan_361 ?_
          refine lv_iload_n hx hb dX13_scan_362 rfl (lv_at hl 1 rfl) ?_
          obtain ⟨hi_60, hsp⟩ := ox_in hsp
          refine va_iast hx hb hK hP hD hS 9 8 rfl rfl (i := ((12 * l1_332) + l4_332)) (x := l3_332) hi_60 dX13_scan_363 ?_
          clear hP hD hS
          intro H locs hP hD hS
          replace hP : va_P (dC, dI) vwCl [(h0, .inr (13, z332)), (qf103, .inl (cf103, 8, .inl g103_332)), (qf112, .inl (cf112, 6000, .inl f112)), (qf102, .inl (cf102, 2048, .inl g102_332)), (qf104, .inl (cf104, 8, .inl g104_332)), (qf105, .inl (cf105, 8, .inl g105_332)), (qf106, .inl (cf106, 8, .inl g106_332)), (qf107, .inl (cf107, 96, .inl g107_332)), (qf108, .inl (cf108, 8, .inl g108_332)), (qf109, .inl (cf109, 96, .inl (upd g109_332 (((12 * l1_332) + l4_332) : Int32).toNatClampNeg l3_332))), (qf110, .inl (cf110, 96, .inl g110_332)), (qf111, .inl (cf111, 96, .inl g111_332))] H := hP
          replace hD : va_D A [(h0, .inr (13, z332)), (qf103, .inl (cf103, 8, .inl g103_332)), (qf112, .inl (cf112, 6000, .inl f112)), (qf102, .inl (cf102, 2048, .inl g102_332)), (qf104, .inl (cf104, 8, .inl g104_332)), (qf105, .inl (cf105, 8, .inl g105_332)), (qf106, .inl (cf106, 8, .inl g106_332)), (qf107, .inl (cf107, 96, .inl g107_332)), (qf108, .inl (cf108, 8, .inl g108_332)), (qf109, .inl (cf109, 96, .inl (upd g109_332 (((12 * l1_332) + l4_332) : Int32).toNatClampNeg l3_332))), (qf110, .inl (cf110, 96, .inl g110_332)), (qf111, .inl (cf111, 96, .inl g111_332))] := hD
          refine lv_aload_n hx hb dX13_scan_364 rfl (lv_at hl 2 rfl) ?_
          refine lv_iload_n hx hb dX13_scan_365 rfl (lv_at hl 3 rfl) ?_
          refine lv_iload hx hb dX13_scan_366 (lv_at hl 0 rfl) ?_
          refine lv_iload_n hx hb dX13_scan_368 rfl (lv_at hl 1 rfl) ?_
          obtain ⟨⟨u19_0, g919_1, g919_2, u19_3⟩, hu_19, hsp⟩ := ox_bind hsp
          try dsimp only at hsp
          have hPc := hP.sub (ws' := [(h0, .inr (13, z332)), (qf112, .inl (cf112, 6000, .inl f112)), (qf103, .inl (cf103, 8, .inl g103_332)), (qf102, .inl (cf102, 2048, .inl g102_332)), (qf110, .inl (cf110, 96, .inl g110_332)), (qf111, .inl (cf111, 96, .inl g111_332))]) [0, 2, 1, 3, 10, 11] rfl
          have hDc := hD.sub (ws' := [(h0, .inr (13, z332)), (qf112, .inl (cf112, 6000, .inl f112)), (qf103, .inl (cf103, 8, .inl g103_332)), (qf102, .inl (cf102, 2048, .inl g102_332)), (qf110, .inl (cf110, 96, .inl g110_332)), (qf111, .inl (cf111, 96, .inl g111_332))]) [0, 2, 1, 3, 10, 11] (by decide) rfl
          have hKc := hK.sub (tys' := [(cf112, .int), (cf103, .int), (cf102, .int), (cf110, .int), (cf111, .int)]) [1, 0, 2, 9, 10] rfl
          have hFc := va_free (wc := [(h0, .inr (13, z332)), (qf112, .inl (cf112, 6000, .inl f112)), (qf103, .inl (cf103, 8, .inl g103_332)), (qf102, .inl (cf102, 2048, .inl g102_332)), (qf110, .inl (cf110, 96, .inl g110_332)), (qf111, .inl (cf111, 96, .inl g111_332))]) hD hS hA [0, 2, 1, 3, 10, 11] rfl
          refine va_calli (va_runV (As := [.int l1_332, .int l4_332, .int l3_332]) (rest := []) ⟨hx, hb, hml, hown, hts⟩ (vm_scanMethod l dC dI H.size h0 z332 l1_332 l4_332 l3_332 qf102 qf103 qf110 qf111 qf112 v113 x114_332 x115_332 cf112 f112 cf103 g103_332 cf102 g102_332 cf110 g110_332 cf111 g111_332 nf u19_0 g919_1 g919_2 u19_3 hlh_332 hfh_332_102 hfh_332_103 hfh_332_110 hfh_332_111 hfh_332_112 hfh_332_113 hfh_332_114 hfh_332_115 hu_19) (cwV 3 hts gv_h9_89 rfl rfl rfl (by decide +kernel) ⟨Nat.le_of_ble_eq_true rfl, Nat.le_of_ble_eq_true rfl⟩) ⟨fun a U g mk q => by obtain ⟨q0, q1, qP, qK, qD⟩ := q; exact ⟨q0, q1, qP, va_K.moved (u := U) (U := U.calling g mk a) (Vm.Alike.refl U.vm) qK, qD⟩, va_recv hKc hPc (ci := 13) (q0 := 0) rfl rfl, fun U hU hW => ⟨rfl, by rw [hU], by rw [hU]; exact hPc, va_K.moved hW.alike hKc, hDc.weaken (fun _ _ _ _ => trivial)⟩⟩ rfl rfl hl.1 rfl (lv_room (Nat.le_of_ble_eq_true rfl)) dX13_scan_369 ⟨Nat.le_of_ble_eq_true rfl, Nat.le_of_ble_eq_true rfl⟩) hS (fun q _ h => hFc q h) hFc ?_
          clear hS
          intro r_61 u t H1 locs ht hvm hw hB hz1 hk1 hS
          obtain ⟨z_19, rfl⟩ : ∃ z, z = u := ⟨_, rfl⟩
          obtain ⟨hP1, hK1, hD1⟩ := hB
          rw [ht] at hP1
          have hK1 := va_K.moved hvm.symm hK1
          try dsimp only at hw
          have hPD := va_join (wr := [(qf104, .inl (cf104, 8, .inl g104_332)), (qf105, .inl (cf105, 8, .inl g105_332)), (qf106, .inl (cf106, 8, .inl g106_332)), (qf107, .inl (cf107, 96, .inl g107_332)), (qf108, .inl (cf108, 8, .inl g108_332)), (qf109, .inl (cf109, 96, .inl (upd g109_332 (((12 * l1_332) + l4_332) : Int32).toNatClampNeg l3_332)))]) (w1 := [(h0, .inr (13, z_19)), (qf112, .inl (cf112, 6000, .inl f112)), (qf103, .inl (cf103, 8, .inl g103_332)), (qf102, .inl (cf102, 2048, .inl g102_332)), (qf110, .inl (cf110, 96, .inl g919_1)), (qf111, .inl (cf111, 96, .inl g919_2))]) hP hD [0, 2, 1, 3, 10, 11] [4, 5, 6, 7, 8, 9] rfl rfl (by decide) (by decide) hk1 hFc hP1 hD1
          clear hP hD
          obtain ⟨hP, hD⟩ := hPD
          replace hK := (hK.sub (tys' := [(cf104, .int), (cf105, .int), (cf106, .int), (cf107, .int), (cf108, .int), (cf109, .int)]) [3, 4, 5, 6, 7, 8] rfl).app hK1
          clear hPc hDc hKc hFc hP1 hK1 hD1 hz1 hk1 ht hvm
          generalize H1 = H at hP hS ⊢
          replace hP : va_P (dC, dI) vwCl [(qf104, .inl (cf104, 8, .inl g104_332)), (qf105, .inl (cf105, 8, .inl g105_332)), (qf106, .inl (cf106, 8, .inl g106_332)), (qf107, .inl (cf107, 96, .inl g107_332)), (qf108, .inl (cf108, 8, .inl g108_332)), (qf109, .inl (cf109, 96, .inl (upd g109_332 (((12 * l1_332) + l4_332) : Int32).toNatClampNeg l3_332))), (h0, .inr (13, z_19)), (qf112, .inl (cf112, 6000, .inl f112)), (qf103, .inl (cf103, 8, .inl g103_332)), (qf102, .inl (cf102, 2048, .inl g102_332)), (qf110, .inl (cf110, 96, .inl g919_1)), (qf111, .inl (cf111, 96, .inl g919_2))] H := hP
          replace hD : va_D A [(qf104, .inl (cf104, 8, .inl g104_332)), (qf105, .inl (cf105, 8, .inl g105_332)), (qf106, .inl (cf106, 8, .inl g106_332)), (qf107, .inl (cf107, 96, .inl g107_332)), (qf108, .inl (cf108, 8, .inl g108_332)), (qf109, .inl (cf109, 96, .inl (upd g109_332 (((12 * l1_332) + l4_332) : Int32).toNatClampNeg l3_332))), (h0, .inr (13, z_19)), (qf112, .inl (cf112, 6000, .inl f112)), (qf103, .inl (cf103, 8, .inl g103_332)), (qf102, .inl (cf102, 2048, .inl g102_332)), (qf110, .inl (cf110, 96, .inl g919_1)), (qf111, .inl (cf111, 96, .inl g919_2))] := hD
          replace hK : va_K (dC, dI) vwCl [(cf104, .int), (cf105, .int), (cf106, .int), (cf107, .int), (cf108, .int), (cf109, .int), (cf112, .int), (cf103, .int), (cf102, .int), (cf110, .int), (cf111, .int)] s := hK
          obtain ⟨hwa_19, hln_19, hre_19, hch_19_114⟩ := hw
          have hfk_19_102 : z_19[102]? = some (.ref qf102) := (hre_19 102 (by decide)).trans (hfh_332_102)
          have hfk_19_103 : z_19[103]? = some (.ref qf103) := (hre_19 103 (by decide)).trans (hfh_332_103)
          have hfk_19_104 : z_19[104]? = some (.ref qf104) := (hre_19 104 (by decide)).trans (hfh_332_104)
          have hfk_19_105 : z_19[105]? = some (.ref qf105) := (hre_19 105 (by decide)).trans (hfh_332_105)
          have hfk_19_106 : z_19[106]? = some (.ref qf106) := (hre_19 106 (by decide)).trans (hfh_332_106)
          have hfk_19_107 : z_19[107]? = some (.ref qf107) := (hre_19 107 (by decide)).trans (hfh_332_107)
          have hfk_19_108 : z_19[108]? = some (.ref qf108) := (hre_19 108 (by decide)).trans (hfh_332_108)
          have hfk_19_109 : z_19[109]? = some (.ref qf109) := (hre_19 109 (by decide)).trans (hfh_332_109)
          have hfk_19_110 : z_19[110]? = some (.ref qf110) := (hre_19 110 (by decide)).trans (hfh_332_110)
          have hfk_19_111 : z_19[111]? = some (.ref qf111) := (hre_19 111 (by decide)).trans (hfh_332_111)
          have hfk_19_112 : z_19[112]? = some (.ref qf112) := (hre_19 112 (by decide)).trans (hfh_332_112)
          have hfk_19_113 : z_19[113]? = some (.int v113) := (hre_19 113 (by decide)).trans (hfh_332_113)
          have hfk_19_115 : z_19[115]? = some (.int x115_332) := (hre_19 115 (by decide)).trans (hfh_332_115)
          have hrq_19 : ∀ j : Nat, j ≠ 114 → j ≠ 115 → z_19[j]? = zs[j]? := fun j g114 g115 => (hre_19 j g114).trans (hrh_332 j g114 g115)
          obtain rfl := hwa_19
          refine lv_istore_n (lv' := [(3, .int u19_0), (4, .int l4_332), (0, .ref h0), (1, .int l1_332)]) hx hb dX13_scan_372 rfl hl (by decide) rfl (fun ls hl => ?_)
          refine lv_iinc (v := (l4_332 + 1)) (lv' := [(4, .int (l4_332 + 1)), (3, .int u19_0), (0, .ref h0), (1, .int l1_332)]) hx hb dX13_scan_373 hl (k := 1) rfl rfl (by decide) rfl (fun ls hl => ?_)
          refine lv_goto (tgt := 332) hx hb dX13_scan_376 (by decide) ?_
          exact ih_332 H locs ls z_19 l1_332 u19_0 (l4_332 + 1) g102_332 g103_332 g104_332 g105_332 g106_332 g107_332 g108_332 (upd g109_332 (((12 * l1_332) + l4_332) : Int32).toNatClampNeg l3_332) g919_1 g919_2 u19_3 x115_332 (hfk_19_102) (hfk_19_103) (hfk_19_104) (hfk_19_105) (hfk_19_106) (hfk_19_107) (hfk_19_108) (hfk_19_109) (hfk_19_110) (hfk_19_111) (hfk_19_112) (hfk_19_113) (hch_19_114) (hfk_19_115) hln_19 hrq_19 (lv_sub hl [0, 1, 2, 3] rfl) hS (hD.sub (ws' := [(h0, .inr (13, z_19)), (qf103, .inl (cf103, 8, .inl g103_332)), (qf112, .inl (cf112, 6000, .inl f112)), (qf102, .inl (cf102, 2048, .inl g102_332)), (qf104, .inl (cf104, 8, .inl g104_332)), (qf105, .inl (cf105, 8, .inl g105_332)), (qf106, .inl (cf106, 8, .inl g106_332)), (qf107, .inl (cf107, 96, .inl g107_332)), (qf108, .inl (cf108, 8, .inl g108_332)), (qf109, .inl (cf109, 96, .inl (upd g109_332 (((12 * l1_332) + l4_332) : Int32).toNatClampNeg l3_332))), (qf110, .inl (cf110, 96, .inl g919_1)), (qf111, .inl (cf111, 96, .inl g919_2))]) [6, 8, 7, 9, 0, 1, 2, 3, 4, 5, 10, 11] (by decide) rfl) (hP.sub (ws' := [(h0, .inr (13, z_19)), (qf103, .inl (cf103, 8, .inl g103_332)), (qf112, .inl (cf112, 6000, .inl f112)), (qf102, .inl (cf102, 2048, .inl g102_332)), (qf104, .inl (cf104, 8, .inl g104_332)), (qf105, .inl (cf105, 8, .inl g105_332)), (qf106, .inl (cf106, 8, .inl g106_332)), (qf107, .inl (cf107, 96, .inl g107_332)), (qf108, .inl (cf108, 8, .inl g108_332)), (qf109, .inl (cf109, 96, .inl (upd g109_332 (((12 * l1_332) + l4_332) : Int32).toNatClampNeg l3_332))), (qf110, .inl (cf110, 96, .inl g919_1)), (qf111, .inl (cf111, 96, .inl g919_2))]) [6, 8, 7, 9, 0, 1, 2, 3, 4, 5, 10, 11] rfl) hsp
  intro hj_314
  refine jn_use (α := Heap × List Loc × Array Slot × List Value × Int32 × Int32 × (Nat → Int32) × (Nat → Int32) × (Nat → Int32) × (Nat → Int32) × (Nat → Int32) × (Nat → Int32) × (Nat → Int32) × (Nat → Int32) × (Nat → Int32) × (Nat → Int32) × Int32 × Int32) (fun x9 => x9.1) (fun x9 => x9.2.1) (fun x9 => F0 m 243 x9.2.2.1 []) (fun x9 => match x9 with | (H, locs, ls, z243, l1_243, l3_243, g102_243, g103_243, g104_243, g105_243, g106_243, g107_243, g108_243, g109_243, g110_243, g111_243, x114_243, x115_243) => lv_has ls 5 [(0, .ref h0), (1, .int l1_243), (3, .int l3_243)] ∧ va_S A s.heap H locs ∧ va_D A [(h0, .inr (13, z243)), (qf103, .inl (cf103, 8, .inl g103_243)), (qf112, .inl (cf112, 6000, .inl f112)), (qf102, .inl (cf102, 2048, .inl g102_243)), (qf104, .inl (cf104, 8, .inl g104_243)), (qf105, .inl (cf105, 8, .inl g105_243)), (qf106, .inl (cf106, 8, .inl g106_243)), (qf107, .inl (cf107, 96, .inl g107_243)), (qf108, .inl (cf108, 8, .inl g108_243)), (qf109, .inl (cf109, 96, .inl g109_243)), (qf110, .inl (cf110, 96, .inl g110_243)), (qf111, .inl (cf111, 96, .inl g111_243))] ∧ va_P (dC, dI) vwCl [(h0, .inr (13, z243)), (qf103, .inl (cf103, 8, .inl g103_243)), (qf112, .inl (cf112, 6000, .inl f112)), (qf102, .inl (cf102, 2048, .inl g102_243)), (qf104, .inl (cf104, 8, .inl g104_243)), (qf105, .inl (cf105, 8, .inl g105_243)), (qf106, .inl (cf106, 8, .inl g106_243)), (qf107, .inl (cf107, 96, .inl g107_243)), (qf108, .inl (cf108, 8, .inl g108_243)), (qf109, .inl (cf109, 96, .inl g109_243)), (qf110, .inl (cf110, 96, .inl g110_243)), (qf111, .inl (cf111, 96, .inl g111_243))] H ∧ z243[102]? = some (.ref qf102) ∧ z243[103]? = some (.ref qf103) ∧ z243[104]? = some (.ref qf104) ∧ z243[105]? = some (.ref qf105) ∧ z243[106]? = some (.ref qf106) ∧ z243[107]? = some (.ref qf107) ∧ z243[108]? = some (.ref qf108) ∧ z243[109]? = some (.ref qf109) ∧ z243[110]? = some (.ref qf110) ∧ z243[111]? = some (.ref qf111) ∧ z243[112]? = some (.ref qf112) ∧ z243[113]? = some (.int v113) ∧ z243[114]? = some (.int x114_243) ∧ z243[115]? = some (.int x115_243) ∧ z243.length = 155 ∧ (∀ j : Nat, j ≠ 114 → j ≠ 115 → z243[j]? = zs[j]?) ∧ jn_vm_scan_243 nf a1 v113 f103 f112 f102 f104 f105 f106 f107 f108 f109 f110 f111 l1_243 l3_243 g102_243 g103_243 g104_243 g105_243 g106_243 g107_243 g108_243 g109_243 g110_243 g111_243 x114_243 x115_243 = some (o102, o103, o104, o105, o106, o107, o108, o109, o110, o111, w114, w115)) ?_ ?_
  · intro x9 hJ9
    obtain ⟨H, locs, ls, z243, l1_243, l3_243, g102_243, g103_243, g104_243, g105_243, g106_243, g107_243, g108_243, g109_243, g110_243, g111_243, x114_243, x115_243⟩ := x9
    obtain ⟨hl, hS, hD, hP, hfh_243_102, hfh_243_103, hfh_243_104, hfh_243_105, hfh_243_106, hfh_243_107, hfh_243_108, hfh_243_109, hfh_243_110, hfh_243_111, hfh_243_112, hfh_243_113, hfh_243_114, hfh_243_115, hlh_243, hrh_243, hsp⟩ := hJ9
    replace hl : lv_has ls 5 [(0, .ref h0), (1, .int l1_243), (3, .int l3_243)] := hl
    replace hS : va_S A s.heap H locs := hS
    replace hD : va_D A [(h0, .inr (13, z243)), (qf103, .inl (cf103, 8, .inl g103_243)), (qf112, .inl (cf112, 6000, .inl f112)), (qf102, .inl (cf102, 2048, .inl g102_243)), (qf104, .inl (cf104, 8, .inl g104_243)), (qf105, .inl (cf105, 8, .inl g105_243)), (qf106, .inl (cf106, 8, .inl g106_243)), (qf107, .inl (cf107, 96, .inl g107_243)), (qf108, .inl (cf108, 8, .inl g108_243)), (qf109, .inl (cf109, 96, .inl g109_243)), (qf110, .inl (cf110, 96, .inl g110_243)), (qf111, .inl (cf111, 96, .inl g111_243))] := hD
    replace hP : va_P (dC, dI) vwCl [(h0, .inr (13, z243)), (qf103, .inl (cf103, 8, .inl g103_243)), (qf112, .inl (cf112, 6000, .inl f112)), (qf102, .inl (cf102, 2048, .inl g102_243)), (qf104, .inl (cf104, 8, .inl g104_243)), (qf105, .inl (cf105, 8, .inl g105_243)), (qf106, .inl (cf106, 8, .inl g106_243)), (qf107, .inl (cf107, 96, .inl g107_243)), (qf108, .inl (cf108, 8, .inl g108_243)), (qf109, .inl (cf109, 96, .inl g109_243)), (qf110, .inl (cf110, 96, .inl g110_243)), (qf111, .inl (cf111, 96, .inl g111_243))] H := hP
    replace hsp : jn_vm_scan_243 nf a1 v113 f103 f112 f102 f104 f105 f106 f107 f108 f109 f110 f111 l1_243 l3_243 g102_243 g103_243 g104_243 g105_243 g106_243 g107_243 g108_243 g109_243 g110_243 g111_243 x114_243 x115_243 = some (o102, o103, o104, o105, o106, o107, o108, o109, o110, o111, w114, w115) := hsp
    show W _ _ _ _ _ _ _ _ _ _ H locs _ _ _ (F0 m 243 ls [])
    unfold jn_vm_scan_243 at hsp
    try dsimp only at hsp
    refine lv_aload_n hx hb dX13_scan_243 rfl (lv_at hl 0 rfl) ?_
    refine lv_iload_n hx hb dX13_scan_244 rfl (lv_at hl 2 rfl) ?_
    refine lv_iconst (v := 2) hx hb dX13_scan_245 (by decide) ?_
    refine lv_iadd hx hb dX13_scan_246 ?_
    obtain ⟨⟨u15_0, u15_1⟩, hu_15, hsp⟩ := ox_bind hsp
    try dsimp only at hsp
    have hPc := hP.sub (ws' := [(h0, .inr (13, z243))]) [0] rfl
    have hDc := hD.sub (ws' := [(h0, .inr (13, z243))]) [0] (by decide) rfl
    have hKc := hK.sub (tys' := []) [] rfl
    have hFc := va_free (wc := [(h0, .inr (13, z243))]) hD hS hA [0] rfl
    refine va_calli (va_runV (As := [.int (l3_243 + 2)]) (rest := []) ⟨hx, hb, hml, hown, hts⟩ (tm_isByte l dC dI H.size h0 z243 ((l3_243 + 2)) v113 x114_243 nf u15_0 u15_1 hlh_243 hfh_243_113 hfh_243_114 hu_15) (cwV 1 hts gv_h9_47 rfl rfl rfl (by decide +kernel) ⟨Nat.le_of_ble_eq_true rfl, Nat.le_of_ble_eq_true rfl⟩) ⟨fun a U g mk q => by obtain ⟨q0, q1, qP, qK, qD⟩ := q; exact ⟨q0, q1, qP, va_K.moved (u := U) (U := U.calling g mk a) (Vm.Alike.refl U.vm) qK, qD⟩, va_recv hKc hPc (ci := 13) (q0 := 0) rfl rfl, fun U hU hW => ⟨rfl, by rw [hU], by rw [hU]; exact hPc, va_K.moved hW.alike hKc, hDc.weaken (fun _ _ _ _ => trivial)⟩⟩ rfl rfl hl.1 rfl (lv_room (Nat.le_of_ble_eq_true rfl)) dX13_scan_247 ⟨Nat.le_of_ble_eq_true rfl, Nat.le_of_ble_eq_true rfl⟩) hS (fun q _ h => hFc q h) hFc ?_
    clear hS
    intro r_42 u t H1 locs ht hvm hw hB hz1 hk1 hS
    obtain ⟨z_15, rfl⟩ : ∃ z, z = u := ⟨_, rfl⟩
    obtain ⟨hP1, hK1, hD1⟩ := hB
    rw [ht] at hP1
    have hK1 := va_K.moved hvm.symm hK1
    try dsimp only at hw
    have hPD := va_join (wr := [(qf103, .inl (cf103, 8, .inl g103_243)), (qf112, .inl (cf112, 6000, .inl f112)), (qf102, .inl (cf102, 2048, .inl g102_243)), (qf104, .inl (cf104, 8, .inl g104_243)), (qf105, .inl (cf105, 8, .inl g105_243)), (qf106, .inl (cf106, 8, .inl g106_243)), (qf107, .inl (cf107, 96, .inl g107_243)), (qf108, .inl (cf108, 8, .inl g108_243)), (qf109, .inl (cf109, 96, .inl g109_243)), (qf110, .inl (cf110, 96, .inl g110_243)), (qf111, .inl (cf111, 96, .inl g111_243))]) (w1 := [(h0, .inr (13, z_15))]) hP hD [0] [1, 2, 3, 4, 5, 6, 7, 8, 9, 10, 11] rfl rfl (by decide) (by decide) hk1 hFc hP1 hD1
    clear hP hD
    obtain ⟨hP, hD⟩ := hPD
    replace hK := (hK.sub (tys' := [(cf103, .int), (cf112, .int), (cf102, .int), (cf104, .int), (cf105, .int), (cf106, .int), (cf107, .int), (cf108, .int), (cf109, .int), (cf110, .int), (cf111, .int)]) [0, 1, 2, 3, 4, 5, 6, 7, 8, 9, 10] rfl).app hK1
    clear hPc hDc hKc hFc hP1 hK1 hD1 hz1 hk1 ht hvm
    generalize H1 = H at hP hS ⊢
    replace hP : va_P (dC, dI) vwCl [(qf103, .inl (cf103, 8, .inl g103_243)), (qf112, .inl (cf112, 6000, .inl f112)), (qf102, .inl (cf102, 2048, .inl g102_243)), (qf104, .inl (cf104, 8, .inl g104_243)), (qf105, .inl (cf105, 8, .inl g105_243)), (qf106, .inl (cf106, 8, .inl g106_243)), (qf107, .inl (cf107, 96, .inl g107_243)), (qf108, .inl (cf108, 8, .inl g108_243)), (qf109, .inl (cf109, 96, .inl g109_243)), (qf110, .inl (cf110, 96, .inl g110_243)), (qf111, .inl (cf111, 96, .inl g111_243)), (h0, .inr (13, z_15))] H := hP
    replace hD : va_D A [(qf103, .inl (cf103, 8, .inl g103_243)), (qf112, .inl (cf112, 6000, .inl f112)), (qf102, .inl (cf102, 2048, .inl g102_243)), (qf104, .inl (cf104, 8, .inl g104_243)), (qf105, .inl (cf105, 8, .inl g105_243)), (qf106, .inl (cf106, 8, .inl g106_243)), (qf107, .inl (cf107, 96, .inl g107_243)), (qf108, .inl (cf108, 8, .inl g108_243)), (qf109, .inl (cf109, 96, .inl g109_243)), (qf110, .inl (cf110, 96, .inl g110_243)), (qf111, .inl (cf111, 96, .inl g111_243)), (h0, .inr (13, z_15))] := hD
    replace hK : va_K (dC, dI) vwCl [(cf103, .int), (cf112, .int), (cf102, .int), (cf104, .int), (cf105, .int), (cf106, .int), (cf107, .int), (cf108, .int), (cf109, .int), (cf110, .int), (cf111, .int)] s := hK
    obtain ⟨hwa_15, hln_15, hre_15, hch_15_114⟩ := hw
    have hfk_15_102 : z_15[102]? = some (.ref qf102) := (hre_15 102 (by decide)).trans (hfh_243_102)
    have hfk_15_103 : z_15[103]? = some (.ref qf103) := (hre_15 103 (by decide)).trans (hfh_243_103)
    have hfk_15_104 : z_15[104]? = some (.ref qf104) := (hre_15 104 (by decide)).trans (hfh_243_104)
    have hfk_15_105 : z_15[105]? = some (.ref qf105) := (hre_15 105 (by decide)).trans (hfh_243_105)
    have hfk_15_106 : z_15[106]? = some (.ref qf106) := (hre_15 106 (by decide)).trans (hfh_243_106)
    have hfk_15_107 : z_15[107]? = some (.ref qf107) := (hre_15 107 (by decide)).trans (hfh_243_107)
    have hfk_15_108 : z_15[108]? = some (.ref qf108) := (hre_15 108 (by decide)).trans (hfh_243_108)
    have hfk_15_109 : z_15[109]? = some (.ref qf109) := (hre_15 109 (by decide)).trans (hfh_243_109)
    have hfk_15_110 : z_15[110]? = some (.ref qf110) := (hre_15 110 (by decide)).trans (hfh_243_110)
    have hfk_15_111 : z_15[111]? = some (.ref qf111) := (hre_15 111 (by decide)).trans (hfh_243_111)
    have hfk_15_112 : z_15[112]? = some (.ref qf112) := (hre_15 112 (by decide)).trans (hfh_243_112)
    have hfk_15_113 : z_15[113]? = some (.int v113) := (hre_15 113 (by decide)).trans (hfh_243_113)
    have hfk_15_115 : z_15[115]? = some (.int x115_243) := (hre_15 115 (by decide)).trans (hfh_243_115)
    have hrq_15 : ∀ j : Nat, j ≠ 114 → j ≠ 115 → z_15[j]? = zs[j]? := fun j g114 g115 => (hre_15 j g114).trans (hrh_243 j g114 g115)
    obtain ⟨rfl, hz_15⟩ := hwa_15
    rcases hz_15 with rfl | rfl
    · rw [if_pos rfl] at hsp
      refine lv_if_ne (tgt := 254) hx hb dX13_scan_250 (by decide) (fun c_43 => (show False by revert c_43; decide).elim) (fun c_43 => ?_)
      have hr0 := Option.some.inj hsp
      clear hsp
      obtain ⟨hq0, hr1⟩ := Prod.mk.inj hr0
      clear hr0
      obtain ⟨hq1, hr2⟩ := Prod.mk.inj hr1
      clear hr1
      obtain ⟨hq2, hr3⟩ := Prod.mk.inj hr2
      clear hr2
      obtain ⟨hq3, hr4⟩ := Prod.mk.inj hr3
      clear hr3
      obtain ⟨hq4, hr5⟩ := Prod.mk.inj hr4
      clear hr4
      obtain ⟨hq5, hr6⟩ := Prod.mk.inj hr5
      clear hr5
      obtain ⟨hq6, hr7⟩ := Prod.mk.inj hr6
      clear hr6
      obtain ⟨hq7, hr8⟩ := Prod.mk.inj hr7
      clear hr7
      obtain ⟨hq8, hr9⟩ := Prod.mk.inj hr8
      clear hr8
      obtain ⟨hq9, hr10⟩ := Prod.mk.inj hr9
      clear hr9
      obtain ⟨hq10, hr11⟩ := Prod.mk.inj hr10
      clear hr10
      subst hq0
      subst hq1
      subst hq2
      subst hq3
      subst hq4
      subst hq5
      subst hq6
      subst hq7
      subst hq8
      subst hq9
      subst hq10
      subst hr11
      have hP9 := hP.sub (ws' := [(h0, .inr (13, z_15)), (qf103, .inl (cf103, 8, .inl g103_243)), (qf112, .inl (cf112, 6000, .inl f112)), (qf102, .inl (cf102, 2048, .inl g102_243)), (qf104, .inl (cf104, 8, .inl g104_243)), (qf105, .inl (cf105, 8, .inl g105_243)), (qf106, .inl (cf106, 8, .inl g106_243)), (qf107, .inl (cf107, 96, .inl g107_243)), (qf108, .inl (cf108, 8, .inl g108_243)), (qf109, .inl (cf109, 96, .inl g109_243)), (qf110, .inl (cf110, 96, .inl g110_243)), (qf111, .inl (cf111, 96, .inl g111_243))]) [11, 0, 1, 2, 3, 4, 5, 6, 7, 8, 9, 10] rfl
      have hD9 := hD.sub (ws' := [(h0, .inr (13, z_15)), (qf103, .inl (cf103, 8, .inl g103_243)), (qf112, .inl (cf112, 6000, .inl f112)), (qf102, .inl (cf102, 2048, .inl g102_243)), (qf104, .inl (cf104, 8, .inl g104_243)), (qf105, .inl (cf105, 8, .inl g105_243)), (qf106, .inl (cf106, 8, .inl g106_243)), (qf107, .inl (cf107, 96, .inl g107_243)), (qf108, .inl (cf108, 8, .inl g108_243)), (qf109, .inl (cf109, 96, .inl g109_243)), (qf110, .inl (cf110, 96, .inl g110_243)), (qf111, .inl (cf111, 96, .inl g111_243))]) [11, 0, 1, 2, 3, 4, 5, 6, 7, 8, 9, 10] (by decide) rfl
      have hK9 := hK.sub (tys' := [(cf103, .int), (cf112, .int), (cf102, .int), (cf104, .int), (cf105, .int), (cf106, .int), (cf107, .int), (cf108, .int), (cf109, .int), (cf110, .int), (cf111, .int)]) [0, 1, 2, 3, 4, 5, 6, 7, 8, 9, 10] rfl
      exact W.vret hx hb hr (fun t ht hW => ⟨⟨(z_15), rfl, ⟨trivial, hln_15, hrq_15, hch_15_114, hfk_15_115⟩, by rw [ht]; exact hP9, va_K.moved hW.alike hK9, hD9⟩, hS.F ht⟩) hS.2.2 dX13_scan_253
    · rw [if_neg (by decide)] at hsp
      refine lv_if_ne (tgt := 254) hx hb dX13_scan_250 (by decide) (fun c_44 => ?_) (fun c_44 => (show False by revert c_44; decide).elim)
      refine lv_aload_n hx hb dX13_scan_254 rfl (lv_at hl 0 rfl) ?_
      refine va_get (D := (dC, dI)) (ci := 13) (v := .ref qf104) (C := RX13) (T := TX13) (N := 155) hx hb hts uV_h9_X13 hown hK hP 11 rfl rfl 104 (by decide) (hts (.fieldLink RX13 221 "ClassMillModel" "ownClass" "[I") mw_h9_279) (fun _ h9 => h9) hfk_15_104 dX13_scan_255 ?_
      refine lv_iload_n hx hb dX13_scan_258 rfl (lv_at hl 1 rfl) ?_
      refine lv_aload_n hx hb dX13_scan_259 rfl (lv_at hl 0 rfl) ?_
      refine va_get (D := (dC, dI)) (ci := 13) (v := .ref qf112) (C := RX13) (T := TX13) (N := 155) hx hb hts uV_h9_X13 hown hK hP 11 rfl rfl 112 (by decide) (hts (.fieldLink RX13 245 "ClassMillModel" "look" "[I") mw_h9_242) (fun _ h9 => h9) hfk_15_112 dX13_scan_260 ?_
      refine lv_iload_n hx hb dX13_scan_263 rfl (lv_at hl 2 rfl) ?_
      obtain ⟨hi_45, hsp⟩ := ox_in hsp
      refine va_iald hx hb hK hP 1 1 rfl rfl (i := l3_243) hi_45 dX13_scan_264 ?_
      obtain ⟨hi_46, hsp⟩ := ox_in hsp
      refine va_iast hx hb hK hP hD hS 3 3 rfl rfl (i := l1_243) (x := (f112 (l3_243 : Int32).toNatClampNeg)) hi_46 dX13_scan_265 ?_
      clear hP hD hS
      intro H locs hP hD hS
      replace hP : va_P (dC, dI) vwCl [(qf103, .inl (cf103, 8, .inl g103_243)), (qf112, .inl (cf112, 6000, .inl f112)), (qf102, .inl (cf102, 2048, .inl g102_243)), (qf104, .inl (cf104, 8, .inl (upd g104_243 (l1_243 : Int32).toNatClampNeg (f112 (l3_243 : Int32).toNatClampNeg)))), (qf105, .inl (cf105, 8, .inl g105_243)), (qf106, .inl (cf106, 8, .inl g106_243)), (qf107, .inl (cf107, 96, .inl g107_243)), (qf108, .inl (cf108, 8, .inl g108_243)), (qf109, .inl (cf109, 96, .inl g109_243)), (qf110, .inl (cf110, 96, .inl g110_243)), (qf111, .inl (cf111, 96, .inl g111_243)), (h0, .inr (13, z_15))] H := hP
      replace hD : va_D A [(qf103, .inl (cf103, 8, .inl g103_243)), (qf112, .inl (cf112, 6000, .inl f112)), (qf102, .inl (cf102, 2048, .inl g102_243)), (qf104, .inl (cf104, 8, .inl (upd g104_243 (l1_243 : Int32).toNatClampNeg (f112 (l3_243 : Int32).toNatClampNeg)))), (qf105, .inl (cf105, 8, .inl g105_243)), (qf106, .inl (cf106, 8, .inl g106_243)), (qf107, .inl (cf107, 96, .inl g107_243)), (qf108, .inl (cf108, 8, .inl g108_243)), (qf109, .inl (cf109, 96, .inl g109_243)), (qf110, .inl (cf110, 96, .inl g110_243)), (qf111, .inl (cf111, 96, .inl g111_243)), (h0, .inr (13, z_15))] := hD
      refine lv_aload_n hx hb dX13_scan_266 rfl (lv_at hl 0 rfl) ?_
      refine va_get (D := (dC, dI)) (ci := 13) (v := .ref qf105) (C := RX13) (T := TX13) (N := 155) hx hb hts uV_h9_X13 hown hK hP 11 rfl rfl 105 (by decide) (hts (.fieldLink RX13 224 "ClassMillModel" "ownUpper" "[I") mw_h9_280) (fun _ h9 => h9) hfk_15_105 dX13_scan_267 ?_
      refine lv_iload_n hx hb dX13_scan_270 rfl (lv_at hl 1 rfl) ?_
      refine lv_aload_n hx hb dX13_scan_271 rfl (lv_at hl 0 rfl) ?_
      refine va_get (D := (dC, dI)) (ci := 13) (v := .ref qf112) (C := RX13) (T := TX13) (N := 155) hx hb hts uV_h9_X13 hown hK hP 11 rfl rfl 112 (by decide) (hts (.fieldLink RX13 245 "ClassMillModel" "look" "[I") mw_h9_242) (fun _ h9 => h9) hfk_15_112 dX13_scan_272 ?_
      refine lv_iload_n hx hb dX13_scan_275 rfl (lv_at hl 2 rfl) ?_
      refine lv_iconst (v := 1) hx hb dX13_scan_276 (by decide) ?_
      refine lv_iadd hx hb dX13_scan_277 ?_
      obtain ⟨hi_47, hsp⟩ := ox_in hsp
      refine va_iald hx hb hK hP 1 1 rfl rfl (i := (l3_243 + 1)) hi_47 dX13_scan_278 ?_
      obtain ⟨hi_48, hsp⟩ := ox_in hsp
      refine va_iast hx hb hK hP hD hS 4 4 rfl rfl (i := l1_243) (x := (f112 ((l3_243 + 1) : Int32).toNatClampNeg)) hi_48 dX13_scan_279 ?_
      clear hP hD hS
      intro H locs hP hD hS
      replace hP : va_P (dC, dI) vwCl [(qf103, .inl (cf103, 8, .inl g103_243)), (qf112, .inl (cf112, 6000, .inl f112)), (qf102, .inl (cf102, 2048, .inl g102_243)), (qf104, .inl (cf104, 8, .inl (upd g104_243 (l1_243 : Int32).toNatClampNeg (f112 (l3_243 : Int32).toNatClampNeg)))), (qf105, .inl (cf105, 8, .inl (upd g105_243 (l1_243 : Int32).toNatClampNeg (f112 ((l3_243 + 1) : Int32).toNatClampNeg)))), (qf106, .inl (cf106, 8, .inl g106_243)), (qf107, .inl (cf107, 96, .inl g107_243)), (qf108, .inl (cf108, 8, .inl g108_243)), (qf109, .inl (cf109, 96, .inl g109_243)), (qf110, .inl (cf110, 96, .inl g110_243)), (qf111, .inl (cf111, 96, .inl g111_243)), (h0, .inr (13, z_15))] H := hP
      replace hD : va_D A [(qf103, .inl (cf103, 8, .inl g103_243)), (qf112, .inl (cf112, 6000, .inl f112)), (qf102, .inl (cf102, 2048, .inl g102_243)), (qf104, .inl (cf104, 8, .inl (upd g104_243 (l1_243 : Int32).toNatClampNeg (f112 (l3_243 : Int32).toNatClampNeg)))), (qf105, .inl (cf105, 8, .inl (upd g105_243 (l1_243 : Int32).toNatClampNeg (f112 ((l3_243 + 1) : Int32).toNatClampNeg)))), (qf106, .inl (cf106, 8, .inl g106_243)), (qf107, .inl (cf107, 96, .inl g107_243)), (qf108, .inl (cf108, 8, .inl g108_243)), (qf109, .inl (cf109, 96, .inl g109_243)), (qf110, .inl (cf110, 96, .inl g110_243)), (qf111, .inl (cf111, 96, .inl g111_243)), (h0, .inr (13, z_15))] := hD
      refine lv_aload_n hx hb dX13_scan_280 rfl (lv_at hl 0 rfl) ?_
      refine lv_iload_n hx hb dX13_scan_281 rfl (lv_at hl 1 rfl) ?_
      refine lv_iload_n hx hb dX13_scan_282 rfl (lv_at hl 2 rfl) ?_
      refine lv_iconst (v := 2) hx hb dX13_scan_283 (by decide) ?_
      refine lv_iadd hx hb dX13_scan_284 ?_
      obtain ⟨⟨u16_0, g916_1, g916_2, u16_3⟩, hu_16, hsp⟩ := ox_bind hsp
      try dsimp only at hsp
      have hPc := hP.sub (ws' := [(h0, .inr (13, z_15)), (qf112, .inl (cf112, 6000, .inl f112)), (qf106, .inl (cf106, 8, .inl g106_243)), (qf107, .inl (cf107, 96, .inl g107_243)), (qf103, .inl (cf103, 8, .inl g103_243)), (qf102, .inl (cf102, 2048, .inl g102_243))]) [11, 1, 5, 6, 0, 2] rfl
      have hDc := hD.sub (ws' := [(h0, .inr (13, z_15)), (qf112, .inl (cf112, 6000, .inl f112)), (qf106, .inl (cf106, 8, .inl g106_243)), (qf107, .inl (cf107, 96, .inl g107_243)), (qf103, .inl (cf103, 8, .inl g103_243)), (qf102, .inl (cf102, 2048, .inl g102_243))]) [11, 1, 5, 6, 0, 2] (by decide) rfl
      have hKc := hK.sub (tys' := [(cf112, .int), (cf106, .int), (cf107, .int), (cf103, .int), (cf102, .int)]) [1, 5, 6, 0, 2] rfl
      have hFc := va_free (wc := [(h0, .inr (13, z_15)), (qf112, .inl (cf112, 6000, .inl f112)), (qf106, .inl (cf106, 8, .inl g106_243)), (qf107, .inl (cf107, 96, .inl g107_243)), (qf103, .inl (cf103, 8, .inl g103_243)), (qf102, .inl (cf102, 2048, .inl g102_243))]) hD hS hA [11, 1, 5, 6, 0, 2] rfl
      refine va_calli (va_runV (As := [.int l1_243, .int (l3_243 + 2)]) (rest := []) ⟨hx, hb, hml, hown, hts⟩ (vm_scanFields l dC dI H.size h0 z_15 l1_243 ((l3_243 + 2)) qf102 qf103 qf106 qf107 qf112 v113 u15_1 x115_243 cf112 f112 cf106 g106_243 cf107 g107_243 cf103 g103_243 cf102 g102_243 nf u16_0 g916_1 g916_2 u16_3 hln_15 hfk_15_102 hfk_15_103 hfk_15_106 hfk_15_107 hfk_15_112 hfk_15_113 hch_15_114 hfk_15_115 hu_16) (cwV 2 hts gv_h9_87 rfl rfl rfl (by decide +kernel) ⟨Nat.le_of_ble_eq_true rfl, Nat.le_of_ble_eq_true rfl⟩) ⟨fun a U g mk q => by obtain ⟨q0, q1, qP, qK, qD⟩ := q; exact ⟨q0, q1, qP, va_K.moved (u := U) (U := U.calling g mk a) (Vm.Alike.refl U.vm) qK, qD⟩, va_recv hKc hPc (ci := 13) (q0 := 0) rfl rfl, fun U hU hW => ⟨rfl, by rw [hU], by rw [hU]; exact hPc, va_K.moved hW.alike hKc, hDc.weaken (fun _ _ _ _ => trivial)⟩⟩ rfl rfl hl.1 rfl (lv_room (Nat.le_of_ble_eq_true rfl)) dX13_scan_285 ⟨Nat.le_of_ble_eq_true rfl, Nat.le_of_ble_eq_true rfl⟩) hS (fun q _ h => hFc q h) hFc ?_
      clear hS
      intro r_49 u t H1 locs ht hvm hw hB hz1 hk1 hS
      obtain ⟨z_16, rfl⟩ : ∃ z, z = u := ⟨_, rfl⟩
      obtain ⟨hP1, hK1, hD1⟩ := hB
      rw [ht] at hP1
      have hK1 := va_K.moved hvm.symm hK1
      try dsimp only at hw
      have hPD := va_join (wr := [(qf104, .inl (cf104, 8, .inl (upd g104_243 (l1_243 : Int32).toNatClampNeg (f112 (l3_243 : Int32).toNatClampNeg)))), (qf105, .inl (cf105, 8, .inl (upd g105_243 (l1_243 : Int32).toNatClampNeg (f112 ((l3_243 + 1) : Int32).toNatClampNeg)))), (qf108, .inl (cf108, 8, .inl g108_243)), (qf109, .inl (cf109, 96, .inl g109_243)), (qf110, .inl (cf110, 96, .inl g110_243)), (qf111, .inl (cf111, 96, .inl g111_243))]) (w1 := [(h0, .inr (13, z_16)), (qf112, .inl (cf112, 6000, .inl f112)), (qf106, .inl (cf106, 8, .inl g916_1)), (qf107, .inl (cf107, 96, .inl g916_2)), (qf103, .inl (cf103, 8, .inl g103_243)), (qf102, .inl (cf102, 2048, .inl g102_243))]) hP hD [11, 1, 5, 6, 0, 2] [3, 4, 7, 8, 9, 10] rfl rfl (by decide) (by decide) hk1 hFc hP1 hD1
      clear hP hD
      obtain ⟨hP, hD⟩ := hPD
      replace hK := (hK.sub (tys' := [(cf104, .int), (cf105, .int), (cf108, .int), (cf109, .int), (cf110, .int), (cf111, .int)]) [3, 4, 7, 8, 9, 10] rfl).app hK1
      clear hPc hDc hKc hFc hP1 hK1 hD1 hz1 hk1 ht hvm
      generalize H1 = H at hP hS ⊢
      replace hP : va_P (dC, dI) vwCl [(qf104, .inl (cf104, 8, .inl (upd g104_243 (l1_243 : Int32).toNatClampNeg (f112 (l3_243 : Int32).toNatClampNeg)))), (qf105, .inl (cf105, 8, .inl (upd g105_243 (l1_243 : Int32).toNatClampNeg (f112 ((l3_243 + 1) : Int32).toNatClampNeg)))), (qf108, .inl (cf108, 8, .inl g108_243)), (qf109, .inl (cf109, 96, .inl g109_243)), (qf110, .inl (cf110, 96, .inl g110_243)), (qf111, .inl (cf111, 96, .inl g111_243)), (h0, .inr (13, z_16)), (qf112, .inl (cf112, 6000, .inl f112)), (qf106, .inl (cf106, 8, .inl g916_1)), (qf107, .inl (cf107, 96, .inl g916_2)), (qf103, .inl (cf103, 8, .inl g103_243)), (qf102, .inl (cf102, 2048, .inl g102_243))] H := hP
      replace hD : va_D A [(qf104, .inl (cf104, 8, .inl (upd g104_243 (l1_243 : Int32).toNatClampNeg (f112 (l3_243 : Int32).toNatClampNeg)))), (qf105, .inl (cf105, 8, .inl (upd g105_243 (l1_243 : Int32).toNatClampNeg (f112 ((l3_243 + 1) : Int32).toNatClampNeg)))), (qf108, .inl (cf108, 8, .inl g108_243)), (qf109, .inl (cf109, 96, .inl g109_243)), (qf110, .inl (cf110, 96, .inl g110_243)), (qf111, .inl (cf111, 96, .inl g111_243)), (h0, .inr (13, z_16)), (qf112, .inl (cf112, 6000, .inl f112)), (qf106, .inl (cf106, 8, .inl g916_1)), (qf107, .inl (cf107, 96, .inl g916_2)), (qf103, .inl (cf103, 8, .inl g103_243)), (qf102, .inl (cf102, 2048, .inl g102_243))] := hD
      replace hK : va_K (dC, dI) vwCl [(cf104, .int), (cf105, .int), (cf108, .int), (cf109, .int), (cf110, .int), (cf111, .int), (cf112, .int), (cf106, .int), (cf107, .int), (cf103, .int), (cf102, .int)] s := hK
      obtain ⟨hwa_16, hln_16, hre_16, hch_16_114⟩ := hw
      have hfk_16_102 : z_16[102]? = some (.ref qf102) := (hre_16 102 (by decide)).trans (hfk_15_102)
      have hfk_16_103 : z_16[103]? = some (.ref qf103) := (hre_16 103 (by decide)).trans (hfk_15_103)
      have hfk_16_104 : z_16[104]? = some (.ref qf104) := (hre_16 104 (by decide)).trans (hfk_15_104)
      have hfk_16_105 : z_16[105]? = some (.ref qf105) := (hre_16 105 (by decide)).trans (hfk_15_105)
      have hfk_16_106 : z_16[106]? = some (.ref qf106) := (hre_16 106 (by decide)).trans (hfk_15_106)
      have hfk_16_107 : z_16[107]? = some (.ref qf107) := (hre_16 107 (by decide)).trans (hfk_15_107)
      have hfk_16_108 : z_16[108]? = some (.ref qf108) := (hre_16 108 (by decide)).trans (hfk_15_108)
      have hfk_16_109 : z_16[109]? = some (.ref qf109) := (hre_16 109 (by decide)).trans (hfk_15_109)
      have hfk_16_110 : z_16[110]? = some (.ref qf110) := (hre_16 110 (by decide)).trans (hfk_15_110)
      have hfk_16_111 : z_16[111]? = some (.ref qf111) := (hre_16 111 (by decide)).trans (hfk_15_111)
      have hfk_16_112 : z_16[112]? = some (.ref qf112) := (hre_16 112 (by decide)).trans (hfk_15_112)
      have hfk_16_113 : z_16[113]? = some (.int v113) := (hre_16 113 (by decide)).trans (hfk_15_113)
      have hfk_16_115 : z_16[115]? = some (.int x115_243) := (hre_16 115 (by decide)).trans (hfk_15_115)
      have hrq_16 : ∀ j : Nat, j ≠ 114 → j ≠ 115 → z_16[j]? = zs[j]? := fun j g114 g115 => (hre_16 j g114).trans (hrq_15 j g114 g115)
      obtain rfl := hwa_16
      refine lv_istore_n (lv' := [(3, .int u16_0), (0, .ref h0), (1, .int l1_243)]) hx hb dX13_scan_288 rfl hl (by decide) rfl (fun ls hl => ?_)
      refine lv_aload_n hx hb dX13_scan_289 rfl (lv_at hl 1 rfl) ?_
      refine lv_iload_n hx hb dX13_scan_290 rfl (lv_at hl 0 rfl) ?_
      obtain ⟨⟨u17_0, u17_1⟩, hu_17, hsp⟩ := ox_bind hsp
      try dsimp only at hsp
      have hPc := hP.sub (ws' := [(h0, .inr (13, z_16))]) [6] rfl
      have hDc := hD.sub (ws' := [(h0, .inr (13, z_16))]) [6] (by decide) rfl
      have hKc := hK.sub (tys' := []) [] rfl
      have hFc := va_free (wc := [(h0, .inr (13, z_16))]) hD hS hA [6] rfl
      refine va_calli (va_runV (As := [.int u16_0]) (rest := []) ⟨hx, hb, hml, hown, hts⟩ (tm_isByte l dC dI H.size h0 z_16 u16_0 v113 u16_3 nf u17_0 u17_1 hln_16 hfk_16_113 hch_16_114 hu_17) (cwV 1 hts gv_h9_47 rfl rfl rfl (by decide +kernel) ⟨Nat.le_of_ble_eq_true rfl, Nat.le_of_ble_eq_true rfl⟩) ⟨fun a U g mk q => by obtain ⟨q0, q1, qP, qK, qD⟩ := q; exact ⟨q0, q1, qP, va_K.moved (u := U) (U := U.calling g mk a) (Vm.Alike.refl U.vm) qK, qD⟩, va_recv hKc hPc (ci := 13) (q0 := 0) rfl rfl, fun U hU hW => ⟨rfl, by rw [hU], by rw [hU]; exact hPc, va_K.moved hW.alike hKc, hDc.weaken (fun _ _ _ _ => trivial)⟩⟩ rfl rfl hl.1 rfl (lv_room (Nat.le_of_ble_eq_true rfl)) dX13_scan_291 ⟨Nat.le_of_ble_eq_true rfl, Nat.le_of_ble_eq_true rfl⟩) hS (fun q _ h => hFc q h) hFc ?_
      clear hS
      intro r_50 u t H1 locs ht hvm hw hB hz1 hk1 hS
      obtain ⟨z_17, rfl⟩ : ∃ z, z = u := ⟨_, rfl⟩
      obtain ⟨hP1, hK1, hD1⟩ := hB
      rw [ht] at hP1
      have hK1 := va_K.moved hvm.symm hK1
      try dsimp only at hw
      have hPD := va_join (wr := [(qf104, .inl (cf104, 8, .inl (upd g104_243 (l1_243 : Int32).toNatClampNeg (f112 (l3_243 : Int32).toNatClampNeg)))), (qf105, .inl (cf105, 8, .inl (upd g105_243 (l1_243 : Int32).toNatClampNeg (f112 ((l3_243 + 1) : Int32).toNatClampNeg)))), (qf108, .inl (cf108, 8, .inl g108_243)), (qf109, .inl (cf109, 96, .inl g109_243)), (qf110, .inl (cf110, 96, .inl g110_243)), (qf111, .inl (cf111, 96, .inl g111_243)), (qf112, .inl (cf112, 6000, .inl f112)), (qf106, .inl (cf106, 8, .inl g916_1)), (qf107, .inl (cf107, 96, .inl g916_2)), (qf103, .inl (cf103, 8, .inl g103_243)), (qf102, .inl (cf102, 2048, .inl g102_243))]) (w1 := [(h0, .inr (13, z_17))]) hP hD [6] [0, 1, 2, 3, 4, 5, 7, 8, 9, 10, 11] rfl rfl (by decide) (by decide) hk1 hFc hP1 hD1
      clear hP hD
      obtain ⟨hP, hD⟩ := hPD
      replace hK := (hK.sub (tys' := [(cf104, .int), (cf105, .int), (cf108, .int), (cf109, .int), (cf110, .int), (cf111, .int), (cf112, .int), (cf106, .int), (cf107, .int), (cf103, .int), (cf102, .int)]) [0, 1, 2, 3, 4, 5, 6, 7, 8, 9, 10] rfl).app hK1
      clear hPc hDc hKc hFc hP1 hK1 hD1 hz1 hk1 ht hvm
      generalize H1 = H at hP hS ⊢
      replace hP : va_P (dC, dI) vwCl [(qf104, .inl (cf104, 8, .inl (upd g104_243 (l1_243 : Int32).toNatClampNeg (f112 (l3_243 : Int32).toNatClampNeg)))), (qf105, .inl (cf105, 8, .inl (upd g105_243 (l1_243 : Int32).toNatClampNeg (f112 ((l3_243 + 1) : Int32).toNatClampNeg)))), (qf108, .inl (cf108, 8, .inl g108_243)), (qf109, .inl (cf109, 96, .inl g109_243)), (qf110, .inl (cf110, 96, .inl g110_243)), (qf111, .inl (cf111, 96, .inl g111_243)), (qf112, .inl (cf112, 6000, .inl f112)), (qf106, .inl (cf106, 8, .inl g916_1)), (qf107, .inl (cf107, 96, .inl g916_2)), (qf103, .inl (cf103, 8, .inl g103_243)), (qf102, .inl (cf102, 2048, .inl g102_243)), (h0, .inr (13, z_17))] H := hP
      replace hD : va_D A [(qf104, .inl (cf104, 8, .inl (upd g104_243 (l1_243 : Int32).toNatClampNeg (f112 (l3_243 : Int32).toNatClampNeg)))), (qf105, .inl (cf105, 8, .inl (upd g105_243 (l1_243 : Int32).toNatClampNeg (f112 ((l3_243 + 1) : Int32).toNatClampNeg)))), (qf108, .inl (cf108, 8, .inl g108_243)), (qf109, .inl (cf109, 96, .inl g109_243)), (qf110, .inl (cf110, 96, .inl g110_243)), (qf111, .inl (cf111, 96, .inl g111_243)), (qf112, .inl (cf112, 6000, .inl f112)), (qf106, .inl (cf106, 8, .inl g916_1)), (qf107, .inl (cf107, 96, .inl g916_2)), (qf103, .inl (cf103, 8, .inl g103_243)), (qf102, .inl (cf102, 2048, .inl g102_243)), (h0, .inr (13, z_17))] := hD
      replace hK : va_K (dC, dI) vwCl [(cf104, .int), (cf105, .int), (cf108, .int), (cf109, .int), (cf110, .int), (cf111, .int), (cf112, .int), (cf106, .int), (cf107, .int), (cf103, .int), (cf102, .int)] s := hK
      obtain ⟨hwa_17, hln_17, hre_17, hch_17_114⟩ := hw
      have hfk_17_102 : z_17[102]? = some (.ref qf102) := (hre_17 102 (by decide)).trans (hfk_16_102)
      have hfk_17_103 : z_17[103]? = some (.ref qf103) := (hre_17 103 (by decide)).trans (hfk_16_103)
      have hfk_17_104 : z_17[104]? = some (.ref qf104) := (hre_17 104 (by decide)).trans (hfk_16_104)
      have hfk_17_105 : z_17[105]? = some (.ref qf105) := (hre_17 105 (by decide)).trans (hfk_16_105)
      have hfk_17_106 : z_17[106]? = some (.ref qf106) := (hre_17 106 (by decide)).trans (hfk_16_106)
      have hfk_17_107 : z_17[107]? = some (.ref qf107) := (hre_17 107 (by decide)).trans (hfk_16_107)
      have hfk_17_108 : z_17[108]? = some (.ref qf108) := (hre_17 108 (by decide)).trans (hfk_16_108)
      have hfk_17_109 : z_17[109]? = some (.ref qf109) := (hre_17 109 (by decide)).trans (hfk_16_109)
      have hfk_17_110 : z_17[110]? = some (.ref qf110) := (hre_17 110 (by decide)).trans (hfk_16_110)
      have hfk_17_111 : z_17[111]? = some (.ref qf111) := (hre_17 111 (by decide)).trans (hfk_16_111)
      have hfk_17_112 : z_17[112]? = some (.ref qf112) := (hre_17 112 (by decide)).trans (hfk_16_112)
      have hfk_17_113 : z_17[113]? = some (.int v113) := (hre_17 113 (by decide)).trans (hfk_16_113)
      have hfk_17_115 : z_17[115]? = some (.int x115_243) := (hre_17 115 (by decide)).trans (hfk_16_115)
      have hrq_17 : ∀ j : Nat, j ≠ 114 → j ≠ 115 → z_17[j]? = zs[j]? := fun j g114 g115 => (hre_17 j g114).trans (hrq_16 j g114 g115)
      obtain ⟨rfl, hz_17⟩ := hwa_17
      rcases hz_17 with rfl | rfl
      · rw [if_pos rfl] at hsp
        refine lv_if_ne (tgt := 298) hx hb dX13_scan_294 (by decide) (fun c_51 => (show False by revert c_51; decide).elim) (fun c_51 => ?_)
        have hr0 := Option.some.inj hsp
        clear hsp
        obtain ⟨hq0, hr1⟩ := Prod.mk.inj hr0
        clear hr0
        obtain ⟨hq1, hr2⟩ := Prod.mk.inj hr1
        clear hr1
        obtain ⟨hq2, hr3⟩ := Prod.mk.inj hr2
        clear hr2
        obtain ⟨hq3, hr4⟩ := Prod.mk.inj hr3
        clear hr3
        obtain ⟨hq4, hr5⟩ := Prod.mk.inj hr4
        clear hr4
        obtain ⟨hq5, hr6⟩ := Prod.mk.inj hr5
        clear hr5
        obtain ⟨hq6, hr7⟩ := Prod.mk.inj hr6
        clear hr6
        obtain ⟨hq7, hr8⟩ := Prod.mk.inj hr7
        clear hr7
        obtain ⟨hq8, hr9⟩ := Prod.mk.inj hr8
        clear hr8
        obtain ⟨hq9, hr10⟩ := Prod.mk.inj hr9
        clear hr9
        obtain ⟨hq10, hr11⟩ := Prod.mk.inj hr10
        clear hr10
        subst hq0
        subst hq1
        subst hq2
        subst hq3
        subst hq4
        subst hq5
        subst hq6
        subst hq7
        subst hq8
        subst hq9
        subst hq10
        subst hr11
        have hP9 := hP.sub (ws' := [(h0, .inr (13, z_17)), (qf103, .inl (cf103, 8, .inl g103_243)), (qf112, .inl (cf112, 6000, .inl f112)), (qf102, .inl (cf102, 2048, .inl g102_243)), (qf104, .inl (cf104, 8, .inl (upd g104_243 (l1_243 : Int32).toNatClampNeg (f112 (l3_243 : Int32).toNatClampNeg)))), (qf105, .inl (cf105, 8, .inl (upd g105_243 (l1_243 : Int32).toNatClampNeg (f112 ((l3_243 + 1) : Int32).toNatClampNeg)))), (qf106, .inl (cf106, 8, .inl g916_1)), (qf107, .inl (cf107, 96, .inl g916_2)), (qf108, .inl (cf108, 8, .inl g108_243)), (qf109, .inl (cf109, 96, .inl g109_243)), (qf110, .inl (cf110, 96, .inl g110_243)), (qf111, .inl (cf111, 96, .inl g111_243))]) [11, 9, 6, 10, 0, 1, 7, 8, 2, 3, 4, 5] rfl
        have hD9 := hD.sub (ws' := [(h0, .inr (13, z_17)), (qf103, .inl (cf103, 8, .inl g103_243)), (qf112, .inl (cf112, 6000, .inl f112)), (qf102, .inl (cf102, 2048, .inl g102_243)), (qf104, .inl (cf104, 8, .inl (upd g104_243 (l1_243 : Int32).toNatClampNeg (f112 (l3_243 : Int32).toNatClampNeg)))), (qf105, .inl (cf105, 8, .inl (upd g105_243 (l1_243 : Int32).toNatClampNeg (f112 ((l3_243 + 1) : Int32).toNatClampNeg)))), (qf106, .inl (cf106, 8, .inl g916_1)), (qf107, .inl (cf107, 96, .inl g916_2)), (qf108, .inl (cf108, 8, .inl g108_243)), (qf109, .inl (cf109, 96, .inl g109_243)), (qf110, .inl (cf110, 96, .inl g110_243)), (qf111, .inl (cf111, 96, .inl g111_243))]) [11, 9, 6, 10, 0, 1, 7, 8, 2, 3, 4, 5] (by decide) rfl
        have hK9 := hK.sub (tys' := [(cf103, .int), (cf112, .int), (cf102, .int), (cf104, .int), (cf105, .int), (cf106, .int), (cf107, .int), (cf108, .int), (cf109, .int), (cf110, .int), (cf111, .int)]) [9, 6, 10, 0, 1, 7, 8, 2, 3, 4, 5] rfl
        exact W.vret hx hb hr (fun t ht hW => ⟨⟨(z_17), rfl, ⟨trivial, hln_17, hrq_17, hch_17_114, hfk_17_115⟩, by rw [ht]; exact hP9, va_K.moved hW.alike hK9, hD9⟩, hS.F ht⟩) hS.2.2 dX13_scan_297
      · rw [if_neg (by decide)] at hsp
        refine lv_if_ne (tgt := 298) hx hb dX13_scan_294 (by decide) (fun c_52 => ?_) (fun c_52 => (show False by revert c_52; decide).elim)
        refine lv_aload_n hx hb dX13_scan_298 rfl (lv_at hl 1 rfl) ?_
        refine va_get (D := (dC, dI)) (ci := 13) (v := .ref qf112) (C := RX13) (T := TX13) (N := 155) hx hb hts uV_h9_X13 hown hK hP 11 rfl rfl 112 (by decide) (hts (.fieldLink RX13 245 "ClassMillModel" "look" "[I") mw_h9_242) (fun _ h9 => h9) hfk_17_112 dX13_scan_299 ?_
        refine lv_iload_n hx hb dX13_scan_302 rfl (lv_at hl 0 rfl) ?_
        obtain ⟨hi_53, hsp⟩ := ox_in hsp
        refine va_iald hx hb hK hP 6 6 rfl rfl (i := u16_0) hi_53 dX13_scan_303 ?_
        refine lv_bipush (v := 12) hx hb dX13_scan_304 (by decide) ?_
        refine lv_icmp_le (tgt := 314) hx hb dX13_scan_306 (by decide) (fun c_54 => ?_) (fun c_54 => ?_)
        · rw [if_pos c_54] at hsp
          exact hj_314 (H, locs, ls, z_17, l1_243, u16_0, g102_243, g103_243, (upd g104_243 (l1_243 : Int32).toNatClampNeg (f112 (l3_243 : Int32).toNatClampNeg)), (upd g105_243 (l1_243 : Int32).toNatClampNeg (f112 ((l3_243 + 1) : Int32).toNatClampNeg)), g916_1, g916_2, g108_243, g109_243, g110_243, g111_243, u17_1, x115_243) ⟨lv_sub hl [1, 2, 0] rfl, hS, hD.sub (ws' := [(h0, .inr (13, z_17)), (qf103, .inl (cf103, 8, .inl g103_243)), (qf112, .inl (cf112, 6000, .inl f112)), (qf102, .inl (cf102, 2048, .inl g102_243)), (qf104, .inl (cf104, 8, .inl (upd g104_243 (l1_243 : Int32).toNatClampNeg (f112 (l3_243 : Int32).toNatClampNeg)))), (qf105, .inl (cf105, 8, .inl (upd g105_243 (l1_243 : Int32).toNatClampNeg (f112 ((l3_243 + 1) : Int32).toNatClampNeg)))), (qf106, .inl (cf106, 8, .inl g916_1)), (qf107, .inl (cf107, 96, .inl g916_2)), (qf108, .inl (cf108, 8, .inl g108_243)), (qf109, .inl (cf109, 96, .inl g109_243)), (qf110, .inl (cf110, 96, .inl g110_243)), (qf111, .inl (cf111, 96, .inl g111_243))]) [11, 9, 6, 10, 0, 1, 7, 8, 2, 3, 4, 5] (by decide) rfl, hP.sub (ws' := [(h0, .inr (13, z_17)), (qf103, .inl (cf103, 8, .inl g103_243)), (qf112, .inl (cf112, 6000, .inl f112)), (qf102, .inl (cf102, 2048, .inl g102_243)), (qf104, .inl (cf104, 8, .inl (upd g104_243 (l1_243 : Int32).toNatClampNeg (f112 (l3_243 : Int32).toNatClampNeg)))), (qf105, .inl (cf105, 8, .inl (upd g105_243 (l1_243 : Int32).toNatClampNeg (f112 ((l3_243 + 1) : Int32).toNatClampNeg)))), (qf106, .inl (cf106, 8, .inl g916_1)), (qf107, .inl (cf107, 96, .inl g916_2)), (qf108, .inl (cf108, 8, .inl g108_243)), (qf109, .inl (cf109, 96, .inl g109_243)), (qf110, .inl (cf110, 96, .inl g110_243)), (qf111, .inl (cf111, 96, .inl g111_243))]) [11, 9, 6, 10, 0, 1, 7, 8, 2, 3, 4, 5] rfl, hfk_17_102, hfk_17_103, hfk_17_104, hfk_17_105, hfk_17_106, hfk_17_107, hfk_17_108, hfk_17_109, hfk_17_110, hfk_17_111, hfk_17_112, hfk_17_113, hch_17_114, hfk_17_115, hln_17, hrq_17, hsp⟩
        · rw [if_neg c_54] at hsp
          refine lv_aload_n hx hb dX13_scan_309 rfl (lv_at hl 1 rfl) ?_
          refine lv_iload_n hx hb dX13_scan_310 rfl (lv_at hl 0 rfl) ?_
          obtain ⟨u18_0, hu_18, hsp⟩ := ox_bind hsp
          try dsimp only at hsp
          have hPc := hP.sub (ws' := [(h0, .inr (13, z_17))]) [11] rfl
          have hDc := hD.sub (ws' := [(h0, .inr (13, z_17))]) [11] (by decide) rfl
          have hKc := hK.sub (tys' := []) [] rfl
          have hFc := va_free (wc := [(h0, .inr (13, z_17))]) hD hS hA [11] rfl
          refine va_callv (va_runV (As := [.int u16_0]) (rest := []) ⟨hx, hb, hml, hown, hts⟩ (tm_unfit l dC dI H.size h0 z_17 u16_0 u17_1 nf u18_0 hln_17 hch_17_114 hu_18) (cwV 1 hts gv_h9_48 rfl rfl rfl (by decide +kernel) ⟨Nat.le_of_ble_eq_true rfl, Nat.le_of_ble_eq_true rfl⟩) ⟨fun a U g mk q => by obtain ⟨q0, q1, qP, qK, qD⟩ := q; exact ⟨q0, q1, qP, va_K.moved (u := U) (U := U.calling g mk a) (Vm.Alike.refl U.vm) qK, qD⟩, va_recv hKc hPc (ci := 13) (q0 := 0) rfl rfl, fun U hU hW => ⟨rfl, by rw [hU], by rw [hU]; exact hPc, va_K.moved hW.alike hKc, hDc.weaken (fun _ _ _ _ => trivial)⟩⟩ rfl rfl hl.1 rfl (lv_room (Nat.le_of_ble_eq_true rfl)) dX13_scan_311 ⟨Nat.le_of_ble_eq_true rfl, Nat.le_of_ble_eq_true rfl⟩) hS (fun q _ h => hFc q h) hFc ?_
          clear hS
          intro u t H1 locs ht hvm hw hB hz1 hk1 hS
          obtain ⟨z_18, rfl⟩ : ∃ z, z = u := ⟨_, rfl⟩
          obtain ⟨hP1, hK1, hD1⟩ := hB
          rw [ht] at hP1
          have hK1 := va_K.moved hvm.symm hK1
          try dsimp only at hw
          have hPD := va_join (wr := [(qf104, .inl (cf104, 8, .inl (upd g104_243 (l1_243 : Int32).toNatClampNeg (f112 (l3_243 : Int32).toNatClampNeg)))), (qf105, .inl (cf105, 8, .inl (upd g105_243 (l1_243 : Int32).toNatClampNeg (f112 ((l3_243 + 1) : Int32).toNatClampNeg)))), (qf108, .inl (cf108, 8, .inl g108_243)), (qf109, .inl (cf109, 96, .inl g109_243)), (qf110, .inl (cf110, 96, .inl g110_243)), (qf111, .inl (cf111, 96, .inl g111_243)), (qf112, .inl (cf112, 6000, .inl f112)), (qf106, .inl (cf106, 8, .inl g916_1)), (qf107, .inl (cf107, 96, .inl g916_2)), (qf103, .inl (cf103, 8, .inl g103_243)), (qf102, .inl (cf102, 2048, .inl g102_243))]) (w1 := [(h0, .inr (13, z_18))]) hP hD [11] [0, 1, 2, 3, 4, 5, 6, 7, 8, 9, 10] rfl rfl (by decide) (by decide) hk1 hFc hP1 hD1
          clear hP hD
          obtain ⟨hP, hD⟩ := hPD
          replace hK := (hK.sub (tys' := [(cf104, .int), (cf105, .int), (cf108, .int), (cf109, .int), (cf110, .int), (cf111, .int), (cf112, .int), (cf106, .int), (cf107, .int), (cf103, .int), (cf102, .int)]) [0, 1, 2, 3, 4, 5, 6, 7, 8, 9, 10] rfl).app hK1
          clear hPc hDc hKc hFc hP1 hK1 hD1 hz1 hk1 ht hvm
          generalize H1 = H at hP hS ⊢
          replace hP : va_P (dC, dI) vwCl [(qf104, .inl (cf104, 8, .inl (upd g104_243 (l1_243 : Int32).toNatClampNeg (f112 (l3_243 : Int32).toNatClampNeg)))), (qf105, .inl (cf105, 8, .inl (upd g105_243 (l1_243 : Int32).toNatClampNeg (f112 ((l3_243 + 1) : Int32).toNatClampNeg)))), (qf108, .inl (cf108, 8, .inl g108_243)), (qf109, .inl (cf109, 96, .inl g109_243)), (qf110, .inl (cf110, 96, .inl g110_243)), (qf111, .inl (cf111, 96, .inl g111_243)), (qf112, .inl (cf112, 6000, .inl f112)), (qf106, .inl (cf106, 8, .inl g916_1)), (qf107, .inl (cf107, 96, .inl g916_2)), (qf103, .inl (cf103, 8, .inl g103_243)), (qf102, .inl (cf102, 2048, .inl g102_243)), (h0, .inr (13, z_18))] H := hP
          replace hD : va_D A [(qf104, .inl (cf104, 8, .inl (upd g104_243 (l1_243 : Int32).toNatClampNeg (f112 (l3_243 : Int32).toNatClampNeg)))), (qf105, .inl (cf105, 8, .inl (upd g105_243 (l1_243 : Int32).toNatClampNeg (f112 ((l3_243 + 1) : Int32).toNatClampNeg)))), (qf108, .inl (cf108, 8, .inl g108_243)), (qf109, .inl (cf109, 96, .inl g109_243)), (qf110, .inl (cf110, 96, .inl g110_243)), (qf111, .inl (cf111, 96, .inl g111_243)), (qf112, .inl (cf112, 6000, .inl f112)), (qf106, .inl (cf106, 8, .inl g916_1)), (qf107, .inl (cf107, 96, .inl g916_2)), (qf103, .inl (cf103, 8, .inl g103_243)), (qf102, .inl (cf102, 2048, .inl g102_243)), (h0, .inr (13, z_18))] := hD
          replace hK : va_K (dC, dI) vwCl [(cf104, .int), (cf105, .int), (cf108, .int), (cf109, .int), (cf110, .int), (cf111, .int), (cf112, .int), (cf106, .int), (cf107, .int), (cf103, .int), (cf102, .int)] s := hK
          obtain ⟨hwa_18, hln_18, hre_18, hch_18_114⟩ := hw
          have hfk_18_102 : z_18[102]? = some (.ref qf102) := (hre_18 102 (by decide)).trans (hfk_17_102)
          have hfk_18_103 : z_18[103]? = some (.ref qf103) := (hre_18 103 (by decide)).trans (hfk_17_103)
          have hfk_18_104 : z_18[104]? = some (.ref qf104) := (hre_18 104 (by decide)).trans (hfk_17_104)
          have hfk_18_105 : z_18[105]? = some (.ref qf105) := (hre_18 105 (by decide)).trans (hfk_17_105)
          have hfk_18_106 : z_18[106]? = some (.ref qf106) := (hre_18 106 (by decide)).trans (hfk_17_106)
          have hfk_18_107 : z_18[107]? = some (.ref qf107) := (hre_18 107 (by decide)).trans (hfk_17_107)
          have hfk_18_108 : z_18[108]? = some (.ref qf108) := (hre_18 108 (by decide)).trans (hfk_17_108)
          have hfk_18_109 : z_18[109]? = some (.ref qf109) := (hre_18 109 (by decide)).trans (hfk_17_109)
          have hfk_18_110 : z_18[110]? = some (.ref qf110) := (hre_18 110 (by decide)).trans (hfk_17_110)
          have hfk_18_111 : z_18[111]? = some (.ref qf111) := (hre_18 111 (by decide)).trans (hfk_17_111)
          have hfk_18_112 : z_18[112]? = some (.ref qf112) := (hre_18 112 (by decide)).trans (hfk_17_112)
          have hfk_18_113 : z_18[113]? = some (.int v113) := (hre_18 113 (by decide)).trans (hfk_17_113)
          have hfk_18_115 : z_18[115]? = some (.int x115_243) := (hre_18 115 (by decide)).trans (hfk_17_115)
          have hrq_18 : ∀ j : Nat, j ≠ 114 → j ≠ 115 → z_18[j]? = zs[j]? := fun j g114 g115 => (hre_18 j g114).trans (hrq_17 j g114 g115)
          exact hj_314 (H, locs, ls, z_18, l1_243, u16_0, g102_243, g103_243, (upd g104_243 (l1_243 : Int32).toNatClampNeg (f112 (l3_243 : Int32).toNatClampNeg)), (upd g105_243 (l1_243 : Int32).toNatClampNeg (f112 ((l3_243 + 1) : Int32).toNatClampNeg)), g916_1, g916_2, g108_243, g109_243, g110_243, g111_243, u18_0, x115_243) ⟨lv_sub hl [1, 2, 0] rfl, hS, hD.sub (ws' := [(h0, .inr (13, z_18)), (qf103, .inl (cf103, 8, .inl g103_243)), (qf112, .inl (cf112, 6000, .inl f112)), (qf102, .inl (cf102, 2048, .inl g102_243)), (qf104, .inl (cf104, 8, .inl (upd g104_243 (l1_243 : Int32).toNatClampNeg (f112 (l3_243 : Int32).toNatClampNeg)))), (qf105, .inl (cf105, 8, .inl (upd g105_243 (l1_243 : Int32).toNatClampNeg (f112 ((l3_243 + 1) : Int32).toNatClampNeg)))), (qf106, .inl (cf106, 8, .inl g916_1)), (qf107, .inl (cf107, 96, .inl g916_2)), (qf108, .inl (cf108, 8, .inl g108_243)), (qf109, .inl (cf109, 96, .inl g109_243)), (qf110, .inl (cf110, 96, .inl g110_243)), (qf111, .inl (cf111, 96, .inl g111_243))]) [11, 9, 6, 10, 0, 1, 7, 8, 2, 3, 4, 5] (by decide) rfl, hP.sub (ws' := [(h0, .inr (13, z_18)), (qf103, .inl (cf103, 8, .inl g103_243)), (qf112, .inl (cf112, 6000, .inl f112)), (qf102, .inl (cf102, 2048, .inl g102_243)), (qf104, .inl (cf104, 8, .inl (upd g104_243 (l1_243 : Int32).toNatClampNeg (f112 (l3_243 : Int32).toNatClampNeg)))), (qf105, .inl (cf105, 8, .inl (upd g105_243 (l1_243 : Int32).toNatClampNeg (f112 ((l3_243 + 1) : Int32).toNatClampNeg)))), (qf106, .inl (cf106, 8, .inl g916_1)), (qf107, .inl (cf107, 96, .inl g916_2)), (qf108, .inl (cf108, 8, .inl g108_243)), (qf109, .inl (cf109, 96, .inl g109_243)), (qf110, .inl (cf110, 96, .inl g110_243)), (qf111, .inl (cf111, 96, .inl g111_243))]) [11, 9, 6, 10, 0, 1, 7, 8, 2, 3, 4, 5] rfl, hfk_18_102, hfk_18_103, hfk_18_104, hfk_18_105, hfk_18_106, hfk_18_107, hfk_18_108, hfk_18_109, hfk_18_110, hfk_18_111, hfk_18_112, hfk_18_113, hch_18_114, hfk_18_115, hln_18, hrq_18, hsp⟩
  intro hj_243
  refine jn_use (α := Heap × List Loc × Array Slot × List Value × Int32 × Int32 × (Nat → Int32) × (Nat → Int32) × (Nat → Int32) × (Nat → Int32) × (Nat → Int32) × (Nat → Int32) × (Nat → Int32) × (Nat → Int32) × (Nat → Int32) × (Nat → Int32) × Int32 × Int32) (fun x9 => x9.1) (fun x9 => x9.2.1) (fun x9 => F0 m 210 x9.2.2.1 []) (fun x9 => match x9 with | (H, locs, ls, z210, l1_210, l3_210, g102_210, g103_210, g104_210, g105_210, g106_210, g107_210, g108_210, g109_210, g110_210, g111_210, x114_210, x115_210) => lv_has ls 5 [(0, .ref h0), (1, .int l1_210), (3, .int l3_210)] ∧ va_S A s.heap H locs ∧ va_D A [(h0, .inr (13, z210)), (qf103, .inl (cf103, 8, .inl g103_210)), (qf112, .inl (cf112, 6000, .inl f112)), (qf102, .inl (cf102, 2048, .inl g102_210)), (qf104, .inl (cf104, 8, .inl g104_210)), (qf105, .inl (cf105, 8, .inl g105_210)), (qf106, .inl (cf106, 8, .inl g106_210)), (qf107, .inl (cf107, 96, .inl g107_210)), (qf108, .inl (cf108, 8, .inl g108_210)), (qf109, .inl (cf109, 96, .inl g109_210)), (qf110, .inl (cf110, 96, .inl g110_210)), (qf111, .inl (cf111, 96, .inl g111_210))] ∧ va_P (dC, dI) vwCl [(h0, .inr (13, z210)), (qf103, .inl (cf103, 8, .inl g103_210)), (qf112, .inl (cf112, 6000, .inl f112)), (qf102, .inl (cf102, 2048, .inl g102_210)), (qf104, .inl (cf104, 8, .inl g104_210)), (qf105, .inl (cf105, 8, .inl g105_210)), (qf106, .inl (cf106, 8, .inl g106_210)), (qf107, .inl (cf107, 96, .inl g107_210)), (qf108, .inl (cf108, 8, .inl g108_210)), (qf109, .inl (cf109, 96, .inl g109_210)), (qf110, .inl (cf110, 96, .inl g110_210)), (qf111, .inl (cf111, 96, .inl g111_210))] H ∧ z210[102]? = some (.ref qf102) ∧ z210[103]? = some (.ref qf103) ∧ z210[104]? = some (.ref qf104) ∧ z210[105]? = some (.ref qf105) ∧ z210[106]? = some (.ref qf106) ∧ z210[107]? = some (.ref qf107) ∧ z210[108]? = some (.ref qf108) ∧ z210[109]? = some (.ref qf109) ∧ z210[110]? = some (.ref qf110) ∧ z210[111]? = some (.ref qf111) ∧ z210[112]? = some (.ref qf112) ∧ z210[113]? = some (.int v113) ∧ z210[114]? = some (.int x114_210) ∧ z210[115]? = some (.int x115_210) ∧ z210.length = 155 ∧ (∀ j : Nat, j ≠ 114 → j ≠ 115 → z210[j]? = zs[j]?) ∧ jn_vm_scan_210 nf a1 v113 f103 f112 f102 f104 f105 f106 f107 f108 f109 f110 f111 l1_210 l3_210 g102_210 g103_210 g104_210 g105_210 g106_210 g107_210 g108_210 g109_210 g110_210 g111_210 x114_210 x115_210 = some (o102, o103, o104, o105, o106, o107, o108, o109, o110, o111, w114, w115)) ?_ ?_
  · intro x9 hJ9
    obtain ⟨H, locs, ls, z210, l1_210, l3_210, g102_210, g103_210, g104_210, g105_210, g106_210, g107_210, g108_210, g109_210, g110_210, g111_210, x114_210, x115_210⟩ := x9
    obtain ⟨hl, hS, hD, hP, hfh_210_102, hfh_210_103, hfh_210_104, hfh_210_105, hfh_210_106, hfh_210_107, hfh_210_108, hfh_210_109, hfh_210_110, hfh_210_111, hfh_210_112, hfh_210_113, hfh_210_114, hfh_210_115, hlh_210, hrh_210, hsp⟩ := hJ9
    replace hl : lv_has ls 5 [(0, .ref h0), (1, .int l1_210), (3, .int l3_210)] := hl
    replace hS : va_S A s.heap H locs := hS
    replace hD : va_D A [(h0, .inr (13, z210)), (qf103, .inl (cf103, 8, .inl g103_210)), (qf112, .inl (cf112, 6000, .inl f112)), (qf102, .inl (cf102, 2048, .inl g102_210)), (qf104, .inl (cf104, 8, .inl g104_210)), (qf105, .inl (cf105, 8, .inl g105_210)), (qf106, .inl (cf106, 8, .inl g106_210)), (qf107, .inl (cf107, 96, .inl g107_210)), (qf108, .inl (cf108, 8, .inl g108_210)), (qf109, .inl (cf109, 96, .inl g109_210)), (qf110, .inl (cf110, 96, .inl g110_210)), (qf111, .inl (cf111, 96, .inl g111_210))] := hD
    replace hP : va_P (dC, dI) vwCl [(h0, .inr (13, z210)), (qf103, .inl (cf103, 8, .inl g103_210)), (qf112, .inl (cf112, 6000, .inl f112)), (qf102, .inl (cf102, 2048, .inl g102_210)), (qf104, .inl (cf104, 8, .inl g104_210)), (qf105, .inl (cf105, 8, .inl g105_210)), (qf106, .inl (cf106, 8, .inl g106_210)), (qf107, .inl (cf107, 96, .inl g107_210)), (qf108, .inl (cf108, 8, .inl g108_210)), (qf109, .inl (cf109, 96, .inl g109_210)), (qf110, .inl (cf110, 96, .inl g110_210)), (qf111, .inl (cf111, 96, .inl g111_210))] H := hP
    replace hsp : jn_vm_scan_210 nf a1 v113 f103 f112 f102 f104 f105 f106 f107 f108 f109 f110 f111 l1_210 l3_210 g102_210 g103_210 g104_210 g105_210 g106_210 g107_210 g108_210 g109_210 g110_210 g111_210 x114_210 x115_210 = some (o102, o103, o104, o105, o106, o107, o108, o109, o110, o111, w114, w115) := hsp
    show W _ _ _ _ _ _ _ _ _ _ H locs _ _ _ (F0 m 210 ls [])
    unfold jn_vm_scan_210 at hsp
    try dsimp only at hsp
    refine lv_aload_n hx hb dX13_scan_210 rfl (lv_at hl 0 rfl) ?_
    refine lv_iload_n hx hb dX13_scan_211 rfl (lv_at hl 2 rfl) ?_
    refine lv_iconst (v := 1) hx hb dX13_scan_212 (by decide) ?_
    refine lv_iadd hx hb dX13_scan_213 ?_
    obtain ⟨⟨u12_0, u12_1⟩, hu_12, hsp⟩ := ox_bind hsp
    try dsimp only at hsp
    have hPc := hP.sub (ws' := [(h0, .inr (13, z210))]) [0] rfl
    have hDc := hD.sub (ws' := [(h0, .inr (13, z210))]) [0] (by decide) rfl
    have hKc := hK.sub (tys' := []) [] rfl
    have hFc := va_free (wc := [(h0, .inr (13, z210))]) hD hS hA [0] rfl
    refine va_calli (va_runV (As := [.int (l3_210 + 1)]) (rest := []) ⟨hx, hb, hml, hown, hts⟩ (tm_isByte l dC dI H.size h0 z210 ((l3_210 + 1)) v113 x114_210 nf u12_0 u12_1 hlh_210 hfh_210_113 hfh_210_114 hu_12) (cwV 1 hts gv_h9_47 rfl rfl rfl (by decide +kernel) ⟨Nat.le_of_ble_eq_true rfl, Nat.le_of_ble_eq_true rfl⟩) ⟨fun a U g mk q => by obtain ⟨q0, q1, qP, qK, qD⟩ := q; exact ⟨q0, q1, qP, va_K.moved (u := U) (U := U.calling g mk a) (Vm.Alike.refl U.vm) qK, qD⟩, va_recv hKc hPc (ci := 13) (q0 := 0) rfl rfl, fun U hU hW => ⟨rfl, by rw [hU], by rw [hU]; exact hPc, va_K.moved hW.alike hKc, hDc.weaken (fun _ _ _ _ => trivial)⟩⟩ rfl rfl hl.1 rfl (lv_room (Nat.le_of_ble_eq_true rfl)) dX13_scan_214 ⟨Nat.le_of_ble_eq_true rfl, Nat.le_of_ble_eq_true rfl⟩) hS (fun q _ h => hFc q h) hFc ?_
    clear hS
    intro r_35 u t H1 locs ht hvm hw hB hz1 hk1 hS
    obtain ⟨z_12, rfl⟩ : ∃ z, z = u := ⟨_, rfl⟩
    obtain ⟨hP1, hK1, hD1⟩ := hB
    rw [ht] at hP1
    have hK1 := va_K.moved hvm.symm hK1
    try dsimp only at hw
    have hPD := va_join (wr := [(qf103, .inl (cf103, 8, .inl g103_210)), (qf112, .inl (cf112, 6000, .inl f112)), (qf102, .inl (cf102, 2048, .inl g102_210)), (qf104, .inl (cf104, 8, .inl g104_210)), (qf105, .inl (cf105, 8, .inl g105_210)), (qf106, .inl (cf106, 8, .inl g106_210)), (qf107, .inl (cf107, 96, .inl g107_210)), (qf108, .inl (cf108, 8, .inl g108_210)), (qf109, .inl (cf109, 96, .inl g109_210)), (qf110, .inl (cf110, 96, .inl g110_210)), (qf111, .inl (cf111, 96, .inl g111_210))]) (w1 := [(h0, .inr (13, z_12))]) hP hD [0] [1, 2, 3, 4, 5, 6, 7, 8, 9, 10, 11] rfl rfl (by decide) (by decide) hk1 hFc hP1 hD1
    clear hP hD
    obtain ⟨hP, hD⟩ := hPD
    replace hK := (hK.sub (tys' := [(cf103, .int), (cf112, .int), (cf102, .int), (cf104, .int), (cf105, .int), (cf106, .int), (cf107, .int), (cf108, .int), (cf109, .int), (cf110, .int), (cf111, .int)]) [0, 1, 2, 3, 4, 5, 6, 7, 8, 9, 10] rfl).app hK1
    clear hPc hDc hKc hFc hP1 hK1 hD1 hz1 hk1 ht hvm
    generalize H1 = H at hP hS ⊢
    replace hP : va_P (dC, dI) vwCl [(qf103, .inl (cf103, 8, .inl g103_210)), (qf112, .inl (cf112, 6000, .inl f112)), (qf102, .inl (cf102, 2048, .inl g102_210)), (qf104, .inl (cf104, 8, .inl g104_210)), (qf105, .inl (cf105, 8, .inl g105_210)), (qf106, .inl (cf106, 8, .inl g106_210)), (qf107, .inl (cf107, 96, .inl g107_210)), (qf108, .inl (cf108, 8, .inl g108_210)), (qf109, .inl (cf109, 96, .inl g109_210)), (qf110, .inl (cf110, 96, .inl g110_210)), (qf111, .inl (cf111, 96, .inl g111_210)), (h0, .inr (13, z_12))] H := hP
    replace hD : va_D A [(qf103, .inl (cf103, 8, .inl g103_210)), (qf112, .inl (cf112, 6000, .inl f112)), (qf102, .inl (cf102, 2048, .inl g102_210)), (qf104, .inl (cf104, 8, .inl g104_210)), (qf105, .inl (cf105, 8, .inl g105_210)), (qf106, .inl (cf106, 8, .inl g106_210)), (qf107, .inl (cf107, 96, .inl g107_210)), (qf108, .inl (cf108, 8, .inl g108_210)), (qf109, .inl (cf109, 96, .inl g109_210)), (qf110, .inl (cf110, 96, .inl g110_210)), (qf111, .inl (cf111, 96, .inl g111_210)), (h0, .inr (13, z_12))] := hD
    replace hK : va_K (dC, dI) vwCl [(cf103, .int), (cf112, .int), (cf102, .int), (cf104, .int), (cf105, .int), (cf106, .int), (cf107, .int), (cf108, .int), (cf109, .int), (cf110, .int), (cf111, .int)] s := hK
    obtain ⟨hwa_12, hln_12, hre_12, hch_12_114⟩ := hw
    have hfk_12_102 : z_12[102]? = some (.ref qf102) := (hre_12 102 (by decide)).trans (hfh_210_102)
    have hfk_12_103 : z_12[103]? = some (.ref qf103) := (hre_12 103 (by decide)).trans (hfh_210_103)
    have hfk_12_104 : z_12[104]? = some (.ref qf104) := (hre_12 104 (by decide)).trans (hfh_210_104)
    have hfk_12_105 : z_12[105]? = some (.ref qf105) := (hre_12 105 (by decide)).trans (hfh_210_105)
    have hfk_12_106 : z_12[106]? = some (.ref qf106) := (hre_12 106 (by decide)).trans (hfh_210_106)
    have hfk_12_107 : z_12[107]? = some (.ref qf107) := (hre_12 107 (by decide)).trans (hfh_210_107)
    have hfk_12_108 : z_12[108]? = some (.ref qf108) := (hre_12 108 (by decide)).trans (hfh_210_108)
    have hfk_12_109 : z_12[109]? = some (.ref qf109) := (hre_12 109 (by decide)).trans (hfh_210_109)
    have hfk_12_110 : z_12[110]? = some (.ref qf110) := (hre_12 110 (by decide)).trans (hfh_210_110)
    have hfk_12_111 : z_12[111]? = some (.ref qf111) := (hre_12 111 (by decide)).trans (hfh_210_111)
    have hfk_12_112 : z_12[112]? = some (.ref qf112) := (hre_12 112 (by decide)).trans (hfh_210_112)
    have hfk_12_113 : z_12[113]? = some (.int v113) := (hre_12 113 (by decide)).trans (hfh_210_113)
    have hfk_12_115 : z_12[115]? = some (.int x115_210) := (hre_12 115 (by decide)).trans (hfh_210_115)
    have hrq_12 : ∀ j : Nat, j ≠ 114 → j ≠ 115 → z_12[j]? = zs[j]? := fun j g114 g115 => (hre_12 j g114).trans (hrh_210 j g114 g115)
    obtain ⟨rfl, hz_12⟩ := hwa_12
    rcases hz_12 with rfl | rfl
    · rw [if_pos rfl] at hsp
      refine lv_if_eq (tgt := 243) hx hb dX13_scan_217 (by decide) (fun c_36 => ?_) (fun c_36 => (show False by revert c_36; decide).elim)
      exact hj_243 (H, locs, ls, z_12, l1_210, l3_210, g102_210, g103_210, g104_210, g105_210, g106_210, g107_210, g108_210, g109_210, g110_210, g111_210, u12_1, x115_210) ⟨lv_sub hl [0, 1, 2] rfl, hS, hD.sub (ws' := [(h0, .inr (13, z_12)), (qf103, .inl (cf103, 8, .inl g103_210)), (qf112, .inl (cf112, 6000, .inl f112)), (qf102, .inl (cf102, 2048, .inl g102_210)), (qf104, .inl (cf104, 8, .inl g104_210)), (qf105, .inl (cf105, 8, .inl g105_210)), (qf106, .inl (cf106, 8, .inl g106_210)), (qf107, .inl (cf107, 96, .inl g107_210)), (qf108, .inl (cf108, 8, .inl g108_210)), (qf109, .inl (cf109, 96, .inl g109_210)), (qf110, .inl (cf110, 96, .inl g110_210)), (qf111, .inl (cf111, 96, .inl g111_210))]) [11, 0, 1, 2, 3, 4, 5, 6, 7, 8, 9, 10] (by decide) rfl, hP.sub (ws' := [(h0, .inr (13, z_12)), (qf103, .inl (cf103, 8, .inl g103_210)), (qf112, .inl (cf112, 6000, .inl f112)), (qf102, .inl (cf102, 2048, .inl g102_210)), (qf104, .inl (cf104, 8, .inl g104_210)), (qf105, .inl (cf105, 8, .inl g105_210)), (qf106, .inl (cf106, 8, .inl g106_210)), (qf107, .inl (cf107, 96, .inl g107_210)), (qf108, .inl (cf108, 8, .inl g108_210)), (qf109, .inl (cf109, 96, .inl g109_210)), (qf110, .inl (cf110, 96, .inl g110_210)), (qf111, .inl (cf111, 96, .inl g111_210))]) [11, 0, 1, 2, 3, 4, 5, 6, 7, 8, 9, 10] rfl, hfk_12_102, hfk_12_103, hfk_12_104, hfk_12_105, hfk_12_106, hfk_12_107, hfk_12_108, hfk_12_109, hfk_12_110, hfk_12_111, hfk_12_112, hfk_12_113, hch_12_114, hfk_12_115, hln_12, hrq_12, hsp⟩
    · rw [if_neg (by decide)] at hsp
      refine lv_if_eq (tgt := 243) hx hb dX13_scan_217 (by decide) (fun c_37 => (show False by revert c_37; decide).elim) (fun c_37 => ?_)
      refine lv_aload_n hx hb dX13_scan_220 rfl (lv_at hl 0 rfl) ?_
      refine lv_aload_n hx hb dX13_scan_221 rfl (lv_at hl 0 rfl) ?_
      refine va_get (D := (dC, dI)) (ci := 13) (v := .ref qf112) (C := RX13) (T := TX13) (N := 155) hx hb hts uV_h9_X13 hown hK hP 11 rfl rfl 112 (by decide) (hts (.fieldLink RX13 245 "ClassMillModel" "look" "[I") mw_h9_242) (fun _ h9 => h9) hfk_12_112 dX13_scan_222 ?_
      refine lv_iload_n hx hb dX13_scan_225 rfl (lv_at hl 2 rfl) ?_
      refine lv_iconst (v := 1) hx hb dX13_scan_226 (by decide) ?_
      refine lv_iadd hx hb dX13_scan_227 ?_
      obtain ⟨hi_38, hsp⟩ := ox_in hsp
      refine va_iald hx hb hK hP 1 1 rfl rfl (i := (l3_210 + 1)) hi_38 dX13_scan_228 ?_
      refine lv_iconst (v := 0) hx hb dX13_scan_229 (by decide) ?_
      obtain ⟨u13_0, hu_13, hsp⟩ := ox_bind hsp
      try dsimp only at hsp
      have hPc := hP.sub (ws' := [(h0, .inr (13, z_12)), (qf103, .inl (cf103, 8, .inl g103_210)), (qf102, .inl (cf102, 2048, .inl g102_210)), (qf112, .inl (cf112, 6000, .inl f112))]) [11, 0, 2, 1] rfl
      have hDc := hD.sub (ws' := [(h0, .inr (13, z_12)), (qf103, .inl (cf103, 8, .inl g103_210)), (qf102, .inl (cf102, 2048, .inl g102_210)), (qf112, .inl (cf112, 6000, .inl f112))]) [11, 0, 2, 1] (by decide) rfl
      have hKc := hK.sub (tys' := [(cf103, .int), (cf102, .int), (cf112, .int)]) [0, 2, 1] rfl
      have hFc := va_free (wc := [(h0, .inr (13, z_12)), (qf103, .inl (cf103, 8, .inl g103_210)), (qf102, .inl (cf102, 2048, .inl g102_210)), (qf112, .inl (cf112, 6000, .inl f112))]) hD hS hA [11, 0, 2, 1] rfl
      refine va_calli (va_runV (As := [.int (f112 ((l3_210 + 1) : Int32).toNatClampNeg), .int 0]) (rest := []) ⟨hx, hb, hml, hown, hts⟩ (tn_isClassConstant l dC dI H.size h0 z_12 ((f112 ((l3_210 + 1) : Int32).toNatClampNeg)) 0 qf102 qf103 qf112 x115_210 cf103 g103_210 cf102 g102_210 cf112 f112 nf u13_0 hln_12 hfk_12_102 hfk_12_103 hfk_12_112 hfk_12_115 hu_13) (cwV 2 hts gv_h9_51 rfl rfl rfl (by decide +kernel) ⟨Nat.le_of_ble_eq_true rfl, Nat.le_of_ble_eq_true rfl⟩) ⟨fun a U g mk q => by obtain ⟨q0, q1, qP, qK, qD⟩ := q; exact ⟨q0, q1, qP, va_K.moved (u := U) (U := U.calling g mk a) (Vm.Alike.refl U.vm) qK, qD⟩, va_recv hKc hPc (ci := 13) (q0 := 0) rfl rfl, fun U hU hW => ⟨rfl, by rw [hU], by rw [hU]; exact hPc, va_K.moved hW.alike hKc, hDc.weaken (fun _ _ _ _ => trivial)⟩⟩ rfl rfl hl.1 rfl (lv_room (Nat.le_of_ble_eq_true rfl)) dX13_scan_230 ⟨Nat.le_of_ble_eq_true rfl, Nat.le_of_ble_eq_true rfl⟩) hS (fun q _ h => hFc q h) hFc ?_
      clear hS
      intro r_39 u t H1 locs ht hvm hw hB hz1 hk1 hS
      obtain ⟨z_13, rfl⟩ : ∃ z, z = u := ⟨_, rfl⟩
      obtain ⟨hP1, hK1, hD1⟩ := hB
      rw [ht] at hP1
      have hK1 := va_K.moved hvm.symm hK1
      try dsimp only at hw
      have hPD := va_join (wr := [(qf104, .inl (cf104, 8, .inl g104_210)), (qf105, .inl (cf105, 8, .inl g105_210)), (qf106, .inl (cf106, 8, .inl g106_210)), (qf107, .inl (cf107, 96, .inl g107_210)), (qf108, .inl (cf108, 8, .inl g108_210)), (qf109, .inl (cf109, 96, .inl g109_210)), (qf110, .inl (cf110, 96, .inl g110_210)), (qf111, .inl (cf111, 96, .inl g111_210))]) (w1 := [(h0, .inr (13, z_13)), (qf103, .inl (cf103, 8, .inl g103_210)), (qf102, .inl (cf102, 2048, .inl g102_210)), (qf112, .inl (cf112, 6000, .inl f112))]) hP hD [11, 0, 2, 1] [3, 4, 5, 6, 7, 8, 9, 10] rfl rfl (by decide) (by decide) hk1 hFc hP1 hD1
      clear hP hD
      obtain ⟨hP, hD⟩ := hPD
      replace hK := (hK.sub (tys' := [(cf104, .int), (cf105, .int), (cf106, .int), (cf107, .int), (cf108, .int), (cf109, .int), (cf110, .int), (cf111, .int)]) [3, 4, 5, 6, 7, 8, 9, 10] rfl).app hK1
      clear hPc hDc hKc hFc hP1 hK1 hD1 hz1 hk1 ht hvm
      generalize H1 = H at hP hS ⊢
      replace hP : va_P (dC, dI) vwCl [(qf104, .inl (cf104, 8, .inl g104_210)), (qf105, .inl (cf105, 8, .inl g105_210)), (qf106, .inl (cf106, 8, .inl g106_210)), (qf107, .inl (cf107, 96, .inl g107_210)), (qf108, .inl (cf108, 8, .inl g108_210)), (qf109, .inl (cf109, 96, .inl g109_210)), (qf110, .inl (cf110, 96, .inl g110_210)), (qf111, .inl (cf111, 96, .inl g111_210)), (h0, .inr (13, z_13)), (qf103, .inl (cf103, 8, .inl g103_210)), (qf102, .inl (cf102, 2048, .inl g102_210)), (qf112, .inl (cf112, 6000, .inl f112))] H := hP
      replace hD : va_D A [(qf104, .inl (cf104, 8, .inl g104_210)), (qf105, .inl (cf105, 8, .inl g105_210)), (qf106, .inl (cf106, 8, .inl g106_210)), (qf107, .inl (cf107, 96, .inl g107_210)), (qf108, .inl (cf108, 8, .inl g108_210)), (qf109, .inl (cf109, 96, .inl g109_210)), (qf110, .inl (cf110, 96, .inl g110_210)), (qf111, .inl (cf111, 96, .inl g111_210)), (h0, .inr (13, z_13)), (qf103, .inl (cf103, 8, .inl g103_210)), (qf102, .inl (cf102, 2048, .inl g102_210)), (qf112, .inl (cf112, 6000, .inl f112))] := hD
      replace hK : va_K (dC, dI) vwCl [(cf104, .int), (cf105, .int), (cf106, .int), (cf107, .int), (cf108, .int), (cf109, .int), (cf110, .int), (cf111, .int), (cf103, .int), (cf102, .int), (cf112, .int)] s := hK
      obtain ⟨hwa_13, hln_13, hre_13⟩ := hw
      have hfk_13_102 : z_13[102]? = some (.ref qf102) := (hre_13 102 ).trans (hfk_12_102)
      have hfk_13_103 : z_13[103]? = some (.ref qf103) := (hre_13 103 ).trans (hfk_12_103)
      have hfk_13_104 : z_13[104]? = some (.ref qf104) := (hre_13 104 ).trans (hfk_12_104)
      have hfk_13_105 : z_13[105]? = some (.ref qf105) := (hre_13 105 ).trans (hfk_12_105)
      have hfk_13_106 : z_13[106]? = some (.ref qf106) := (hre_13 106 ).trans (hfk_12_106)
      have hfk_13_107 : z_13[107]? = some (.ref qf107) := (hre_13 107 ).trans (hfk_12_107)
      have hfk_13_108 : z_13[108]? = some (.ref qf108) := (hre_13 108 ).trans (hfk_12_108)
      have hfk_13_109 : z_13[109]? = some (.ref qf109) := (hre_13 109 ).trans (hfk_12_109)
      have hfk_13_110 : z_13[110]? = some (.ref qf110) := (hre_13 110 ).trans (hfk_12_110)
      have hfk_13_111 : z_13[111]? = some (.ref qf111) := (hre_13 111 ).trans (hfk_12_111)
      have hfk_13_112 : z_13[112]? = some (.ref qf112) := (hre_13 112 ).trans (hfk_12_112)
      have hfk_13_113 : z_13[113]? = some (.int v113) := (hre_13 113 ).trans (hfk_12_113)
      have hfk_13_114 : z_13[114]? = some (.int u12_1) := (hre_13 114 ).trans (hch_12_114)
      have hfk_13_115 : z_13[115]? = some (.int x115_210) := (hre_13 115 ).trans (hfk_12_115)
      have hrq_13 : ∀ j : Nat, j ≠ 114 → j ≠ 115 → z_13[j]? = zs[j]? := fun j g114 g115 => (hre_13 j ).trans (hrq_12 j g114 g115)
      obtain ⟨rfl, hz_13⟩ := hwa_13
      rcases hz_13 with rfl | rfl
      · rw [if_pos rfl] at hsp
        refine lv_if_ne (tgt := 243) hx hb dX13_scan_233 (by decide) (fun c_40 => (show False by revert c_40; decide).elim) (fun c_40 => ?_)
        refine lv_aload_n hx hb dX13_scan_236 rfl (lv_at hl 0 rfl) ?_
        refine lv_iload_n hx hb dX13_scan_237 rfl (lv_at hl 2 rfl) ?_
        refine lv_iconst (v := 1) hx hb dX13_scan_238 (by decide) ?_
        refine lv_iadd hx hb dX13_scan_239 ?_
        obtain ⟨u14_0, hu_14, hsp⟩ := ox_bind hsp
        try dsimp only at hsp
        have hPc := hP.sub (ws' := [(h0, .inr (13, z_13))]) [8] rfl
        have hDc := hD.sub (ws' := [(h0, .inr (13, z_13))]) [8] (by decide) rfl
        have hKc := hK.sub (tys' := []) [] rfl
        have hFc := va_free (wc := [(h0, .inr (13, z_13))]) hD hS hA [8] rfl
        refine va_callv (va_runV (As := [.int (l3_210 + 1)]) (rest := []) ⟨hx, hb, hml, hown, hts⟩ (tm_unfit l dC dI H.size h0 z_13 ((l3_210 + 1)) u12_1 nf u14_0 hln_13 hfk_13_114 hu_14) (cwV 1 hts gv_h9_48 rfl rfl rfl (by decide +kernel) ⟨Nat.le_of_ble_eq_true rfl, Nat.le_of_ble_eq_true rfl⟩) ⟨fun a U g mk q => by obtain ⟨q0, q1, qP, qK, qD⟩ := q; exact ⟨q0, q1, qP, va_K.moved (u := U) (U := U.calling g mk a) (Vm.Alike.refl U.vm) qK, qD⟩, va_recv hKc hPc (ci := 13) (q0 := 0) rfl rfl, fun U hU hW => ⟨rfl, by rw [hU], by rw [hU]; exact hPc, va_K.moved hW.alike hKc, hDc.weaken (fun _ _ _ _ => trivial)⟩⟩ rfl rfl hl.1 rfl (lv_room (Nat.le_of_ble_eq_true rfl)) dX13_scan_240 ⟨Nat.le_of_ble_eq_true rfl, Nat.le_of_ble_eq_true rfl⟩) hS (fun q _ h => hFc q h) hFc ?_
        clear hS
        intro u t H1 locs ht hvm hw hB hz1 hk1 hS
        obtain ⟨z_14, rfl⟩ : ∃ z, z = u := ⟨_, rfl⟩
        obtain ⟨hP1, hK1, hD1⟩ := hB
        rw [ht] at hP1
        have hK1 := va_K.moved hvm.symm hK1
        try dsimp only at hw
        have hPD := va_join (wr := [(qf104, .inl (cf104, 8, .inl g104_210)), (qf105, .inl (cf105, 8, .inl g105_210)), (qf106, .inl (cf106, 8, .inl g106_210)), (qf107, .inl (cf107, 96, .inl g107_210)), (qf108, .inl (cf108, 8, .inl g108_210)), (qf109, .inl (cf109, 96, .inl g109_210)), (qf110, .inl (cf110, 96, .inl g110_210)), (qf111, .inl (cf111, 96, .inl g111_210)), (qf103, .inl (cf103, 8, .inl g103_210)), (qf102, .inl (cf102, 2048, .inl g102_210)), (qf112, .inl (cf112, 6000, .inl f112))]) (w1 := [(h0, .inr (13, z_14))]) hP hD [8] [0, 1, 2, 3, 4, 5, 6, 7, 9, 10, 11] rfl rfl (by decide) (by decide) hk1 hFc hP1 hD1
        clear hP hD
        obtain ⟨hP, hD⟩ := hPD
        replace hK := (hK.sub (tys' := [(cf104, .int), (cf105, .int), (cf106, .int), (cf107, .int), (cf108, .int), (cf109, .int), (cf110, .int), (cf111, .int), (cf103, .int), (cf102, .int), (cf112, .int)]) [0, 1, 2, 3, 4, 5, 6, 7, 8, 9, 10] rfl).app hK1
        clear hPc hDc hKc hFc hP1 hK1 hD1 hz1 hk1 ht hvm
        generalize H1 = H at hP hS ⊢
        replace hP : va_P (dC, dI) vwCl [(qf104, .inl (cf104, 8, .inl g104_210)), (qf105, .inl (cf105, 8, .inl g105_210)), (qf106, .inl (cf106, 8, .inl g106_210)), (qf107, .inl (cf107, 96, .inl g107_210)), (qf108, .inl (cf108, 8, .inl g108_210)), (qf109, .inl (cf109, 96, .inl g109_210)), (qf110, .inl (cf110, 96, .inl g110_210)), (qf111, .inl (cf111, 96, .inl g111_210)), (qf103, .inl (cf103, 8, .inl g103_210)), (qf102, .inl (cf102, 2048, .inl g102_210)), (qf112, .inl (cf112, 6000, .inl f112)), (h0, .inr (13, z_14))] H := hP
        replace hD : va_D A [(qf104, .inl (cf104, 8, .inl g104_210)), (qf105, .inl (cf105, 8, .inl g105_210)), (qf106, .inl (cf106, 8, .inl g106_210)), (qf107, .inl (cf107, 96, .inl g107_210)), (qf108, .inl (cf108, 8, .inl g108_210)), (qf109, .inl (cf109, 96, .inl g109_210)), (qf110, .inl (cf110, 96, .inl g110_210)), (qf111, .inl (cf111, 96, .inl g111_210)), (qf103, .inl (cf103, 8, .inl g103_210)), (qf102, .inl (cf102, 2048, .inl g102_210)), (qf112, .inl (cf112, 6000, .inl f112)), (h0, .inr (13, z_14))] := hD
        replace hK : va_K (dC, dI) vwCl [(cf104, .int), (cf105, .int), (cf106, .int), (cf107, .int), (cf108, .int), (cf109, .int), (cf110, .int), (cf111, .int), (cf103, .int), (cf102, .int), (cf112, .int)] s := hK
        obtain ⟨hwa_14, hln_14, hre_14, hch_14_114⟩ := hw
        have hfk_14_102 : z_14[102]? = some (.ref qf102) := (hre_14 102 (by decide)).trans (hfk_13_102)
        have hfk_14_103 : z_14[103]? = some (.ref qf103) := (hre_14 103 (by decide)).trans (hfk_13_103)
        have hfk_14_104 : z_14[104]? = some (.ref qf104) := (hre_14 104 (by decide)).trans (hfk_13_104)
        have hfk_14_105 : z_14[105]? = some (.ref qf105) := (hre_14 105 (by decide)).trans (hfk_13_105)
        have hfk_14_106 : z_14[106]? = some (.ref qf106) := (hre_14 106 (by decide)).trans (hfk_13_106)
        have hfk_14_107 : z_14[107]? = some (.ref qf107) := (hre_14 107 (by decide)).trans (hfk_13_107)
        have hfk_14_108 : z_14[108]? = some (.ref qf108) := (hre_14 108 (by decide)).trans (hfk_13_108)
        have hfk_14_109 : z_14[109]? = some (.ref qf109) := (hre_14 109 (by decide)).trans (hfk_13_109)
        have hfk_14_110 : z_14[110]? = some (.ref qf110) := (hre_14 110 (by decide)).trans (hfk_13_110)
        have hfk_14_111 : z_14[111]? = some (.ref qf111) := (hre_14 111 (by decide)).trans (hfk_13_111)
        have hfk_14_112 : z_14[112]? = some (.ref qf112) := (hre_14 112 (by decide)).trans (hfk_13_112)
        have hfk_14_113 : z_14[113]? = some (.int v113) := (hre_14 113 (by decide)).trans (hfk_13_113)
        have hfk_14_115 : z_14[115]? = some (.int x115_210) := (hre_14 115 (by decide)).trans (hfk_13_115)
        have hrq_14 : ∀ j : Nat, j ≠ 114 → j ≠ 115 → z_14[j]? = zs[j]? := fun j g114 g115 => (hre_14 j g114).trans (hrq_13 j g114 g115)
        exact hj_243 (H, locs, ls, z_14, l1_210, l3_210, g102_210, g103_210, g104_210, g105_210, g106_210, g107_210, g108_210, g109_210, g110_210, g111_210, u14_0, x115_210) ⟨lv_sub hl [0, 1, 2] rfl, hS, hD.sub (ws' := [(h0, .inr (13, z_14)), (qf103, .inl (cf103, 8, .inl g103_210)), (qf112, .inl (cf112, 6000, .inl f112)), (qf102, .inl (cf102, 2048, .inl g102_210)), (qf104, .inl (cf104, 8, .inl g104_210)), (qf105, .inl (cf105, 8, .inl g105_210)), (qf106, .inl (cf106, 8, .inl g106_210)), (qf107, .inl (cf107, 96, .inl g107_210)), (qf108, .inl (cf108, 8, .inl g108_210)), (qf109, .inl (cf109, 96, .inl g109_210)), (qf110, .inl (cf110, 96, .inl g110_210)), (qf111, .inl (cf111, 96, .inl g111_210))]) [11, 8, 10, 9, 0, 1, 2, 3, 4, 5, 6, 7] (by decide) rfl, hP.sub (ws' := [(h0, .inr (13, z_14)), (qf103, .inl (cf103, 8, .inl g103_210)), (qf112, .inl (cf112, 6000, .inl f112)), (qf102, .inl (cf102, 2048, .inl g102_210)), (qf104, .inl (cf104, 8, .inl g104_210)), (qf105, .inl (cf105, 8, .inl g105_210)), (qf106, .inl (cf106, 8, .inl g106_210)), (qf107, .inl (cf107, 96, .inl g107_210)), (qf108, .inl (cf108, 8, .inl g108_210)), (qf109, .inl (cf109, 96, .inl g109_210)), (qf110, .inl (cf110, 96, .inl g110_210)), (qf111, .inl (cf111, 96, .inl g111_210))]) [11, 8, 10, 9, 0, 1, 2, 3, 4, 5, 6, 7] rfl, hfk_14_102, hfk_14_103, hfk_14_104, hfk_14_105, hfk_14_106, hfk_14_107, hfk_14_108, hfk_14_109, hfk_14_110, hfk_14_111, hfk_14_112, hfk_14_113, hch_14_114, hfk_14_115, hln_14, hrq_14, hsp⟩
      · rw [if_neg (by decide)] at hsp
        refine lv_if_ne (tgt := 243) hx hb dX13_scan_233 (by decide) (fun c_41 => ?_) (fun c_41 => (show False by revert c_41; decide).elim)
        exact hj_243 (H, locs, ls, z_13, l1_210, l3_210, g102_210, g103_210, g104_210, g105_210, g106_210, g107_210, g108_210, g109_210, g110_210, g111_210, u12_1, x115_210) ⟨lv_sub hl [0, 1, 2] rfl, hS, hD.sub (ws' := [(h0, .inr (13, z_13)), (qf103, .inl (cf103, 8, .inl g103_210)), (qf112, .inl (cf112, 6000, .inl f112)), (qf102, .inl (cf102, 2048, .inl g102_210)), (qf104, .inl (cf104, 8, .inl g104_210)), (qf105, .inl (cf105, 8, .inl g105_210)), (qf106, .inl (cf106, 8, .inl g106_210)), (qf107, .inl (cf107, 96, .inl g107_210)), (qf108, .inl (cf108, 8, .inl g108_210)), (qf109, .inl (cf109, 96, .inl g109_210)), (qf110, .inl (cf110, 96, .inl g110_210)), (qf111, .inl (cf111, 96, .inl g111_210))]) [8, 9, 11, 10, 0, 1, 2, 3, 4, 5, 6, 7] (by decide) rfl, hP.sub (ws' := [(h0, .inr (13, z_13)), (qf103, .inl (cf103, 8, .inl g103_210)), (qf112, .inl (cf112, 6000, .inl f112)), (qf102, .inl (cf102, 2048, .inl g102_210)), (qf104, .inl (cf104, 8, .inl g104_210)), (qf105, .inl (cf105, 8, .inl g105_210)), (qf106, .inl (cf106, 8, .inl g106_210)), (qf107, .inl (cf107, 96, .inl g107_210)), (qf108, .inl (cf108, 8, .inl g108_210)), (qf109, .inl (cf109, 96, .inl g109_210)), (qf110, .inl (cf110, 96, .inl g110_210)), (qf111, .inl (cf111, 96, .inl g111_210))]) [8, 9, 11, 10, 0, 1, 2, 3, 4, 5, 6, 7] rfl, hfk_13_102, hfk_13_103, hfk_13_104, hfk_13_105, hfk_13_106, hfk_13_107, hfk_13_108, hfk_13_109, hfk_13_110, hfk_13_111, hfk_13_112, hfk_13_113, hfk_13_114, hfk_13_115, hln_13, hrq_13, hsp⟩
  intro hj_210
  refine jn_use (α := Heap × List Loc × Array Slot × List Value × Int32 × Int32 × (Nat → Int32) × (Nat → Int32) × (Nat → Int32) × (Nat → Int32) × (Nat → Int32) × (Nat → Int32) × (Nat → Int32) × (Nat → Int32) × (Nat → Int32) × (Nat → Int32) × Int32 × Int32) (fun x9 => x9.1) (fun x9 => x9.2.1) (fun x9 => F0 m 183 x9.2.2.1 []) (fun x9 => match x9 with | (H, locs, ls, z183, l1_183, l3_183, g102_183, g103_183, g104_183, g105_183, g106_183, g107_183, g108_183, g109_183, g110_183, g111_183, x114_183, x115_183) => lv_has ls 5 [(0, .ref h0), (1, .int l1_183), (3, .int l3_183)] ∧ va_S A s.heap H locs ∧ va_D A [(h0, .inr (13, z183)), (qf103, .inl (cf103, 8, .inl g103_183)), (qf112, .inl (cf112, 6000, .inl f112)), (qf102, .inl (cf102, 2048, .inl g102_183)), (qf104, .inl (cf104, 8, .inl g104_183)), (qf105, .inl (cf105, 8, .inl g105_183)), (qf106, .inl (cf106, 8, .inl g106_183)), (qf107, .inl (cf107, 96, .inl g107_183)), (qf108, .inl (cf108, 8, .inl g108_183)), (qf109, .inl (cf109, 96, .inl g109_183)), (qf110, .inl (cf110, 96, .inl g110_183)), (qf111, .inl (cf111, 96, .inl g111_183))] ∧ va_P (dC, dI) vwCl [(h0, .inr (13, z183)), (qf103, .inl (cf103, 8, .inl g103_183)), (qf112, .inl (cf112, 6000, .inl f112)), (qf102, .inl (cf102, 2048, .inl g102_183)), (qf104, .inl (cf104, 8, .inl g104_183)), (qf105, .inl (cf105, 8, .inl g105_183)), (qf106, .inl (cf106, 8, .inl g106_183)), (qf107, .inl (cf107, 96, .inl g107_183)), (qf108, .inl (cf108, 8, .inl g108_183)), (qf109, .inl (cf109, 96, .inl g109_183)), (qf110, .inl (cf110, 96, .inl g110_183)), (qf111, .inl (cf111, 96, .inl g111_183))] H ∧ z183[102]? = some (.ref qf102) ∧ z183[103]? = some (.ref qf103) ∧ z183[104]? = some (.ref qf104) ∧ z183[105]? = some (.ref qf105) ∧ z183[106]? = some (.ref qf106) ∧ z183[107]? = some (.ref qf107) ∧ z183[108]? = some (.ref qf108) ∧ z183[109]? = some (.ref qf109) ∧ z183[110]? = some (.ref qf110) ∧ z183[111]? = some (.ref qf111) ∧ z183[112]? = some (.ref qf112) ∧ z183[113]? = some (.int v113) ∧ z183[114]? = some (.int x114_183) ∧ z183[115]? = some (.int x115_183) ∧ z183.length = 155 ∧ (∀ j : Nat, j ≠ 114 → j ≠ 115 → z183[j]? = zs[j]?) ∧ jn_vm_scan_183 nf a1 v113 f103 f112 f102 f104 f105 f106 f107 f108 f109 f110 f111 l1_183 l3_183 g102_183 g103_183 g104_183 g105_183 g106_183 g107_183 g108_183 g109_183 g110_183 g111_183 x114_183 x115_183 = some (o102, o103, o104, o105, o106, o107, o108, o109, o110, o111, w114, w115)) ?_ ?_
  · intro x9 hJ9
    obtain ⟨H, locs, ls, z183, l1_183, l3_183, g102_183, g103_183, g104_183, g105_183, g106_183, g107_183, g108_183, g109_183, g110_183, g111_183, x114_183, x115_183⟩ := x9
    obtain ⟨hl, hS, hD, hP, hfh_183_102, hfh_183_103, hfh_183_104, hfh_183_105, hfh_183_106, hfh_183_107, hfh_183_108, hfh_183_109, hfh_183_110, hfh_183_111, hfh_183_112, hfh_183_113, hfh_183_114, hfh_183_115, hlh_183, hrh_183, hsp⟩ := hJ9
    replace hl : lv_has ls 5 [(0, .ref h0), (1, .int l1_183), (3, .int l3_183)] := hl
    replace hS : va_S A s.heap H locs := hS
    replace hD : va_D A [(h0, .inr (13, z183)), (qf103, .inl (cf103, 8, .inl g103_183)), (qf112, .inl (cf112, 6000, .inl f112)), (qf102, .inl (cf102, 2048, .inl g102_183)), (qf104, .inl (cf104, 8, .inl g104_183)), (qf105, .inl (cf105, 8, .inl g105_183)), (qf106, .inl (cf106, 8, .inl g106_183)), (qf107, .inl (cf107, 96, .inl g107_183)), (qf108, .inl (cf108, 8, .inl g108_183)), (qf109, .inl (cf109, 96, .inl g109_183)), (qf110, .inl (cf110, 96, .inl g110_183)), (qf111, .inl (cf111, 96, .inl g111_183))] := hD
    replace hP : va_P (dC, dI) vwCl [(h0, .inr (13, z183)), (qf103, .inl (cf103, 8, .inl g103_183)), (qf112, .inl (cf112, 6000, .inl f112)), (qf102, .inl (cf102, 2048, .inl g102_183)), (qf104, .inl (cf104, 8, .inl g104_183)), (qf105, .inl (cf105, 8, .inl g105_183)), (qf106, .inl (cf106, 8, .inl g106_183)), (qf107, .inl (cf107, 96, .inl g107_183)), (qf108, .inl (cf108, 8, .inl g108_183)), (qf109, .inl (cf109, 96, .inl g109_183)), (qf110, .inl (cf110, 96, .inl g110_183)), (qf111, .inl (cf111, 96, .inl g111_183))] H := hP
    replace hsp : jn_vm_scan_183 nf a1 v113 f103 f112 f102 f104 f105 f106 f107 f108 f109 f110 f111 l1_183 l3_183 g102_183 g103_183 g104_183 g105_183 g106_183 g107_183 g108_183 g109_183 g110_183 g111_183 x114_183 x115_183 = some (o102, o103, o104, o105, o106, o107, o108, o109, o110, o111, w114, w115) := hsp
    show W _ _ _ _ _ _ _ _ _ _ H locs _ _ _ (F0 m 183 ls [])
    unfold jn_vm_scan_183 at hsp
    try dsimp only at hsp
    refine lv_aload_n hx hb dX13_scan_183 rfl (lv_at hl 0 rfl) ?_
    refine lv_iload_n hx hb dX13_scan_184 rfl (lv_at hl 2 rfl) ?_
    obtain ⟨⟨u9_0, u9_1⟩, hu_9, hsp⟩ := ox_bind hsp
    try dsimp only at hsp
    have hPc := hP.sub (ws' := [(h0, .inr (13, z183))]) [0] rfl
    have hDc := hD.sub (ws' := [(h0, .inr (13, z183))]) [0] (by decide) rfl
    have hKc := hK.sub (tys' := []) [] rfl
    have hFc := va_free (wc := [(h0, .inr (13, z183))]) hD hS hA [0] rfl
    refine va_calli (va_runV (As := [.int l3_183]) (rest := []) ⟨hx, hb, hml, hown, hts⟩ (tm_isByte l dC dI H.size h0 z183 l3_183 v113 x114_183 nf u9_0 u9_1 hlh_183 hfh_183_113 hfh_183_114 hu_9) (cwV 1 hts gv_h9_47 rfl rfl rfl (by decide +kernel) ⟨Nat.le_of_ble_eq_true rfl, Nat.le_of_ble_eq_true rfl⟩) ⟨fun a U g mk q => by obtain ⟨q0, q1, qP, qK, qD⟩ := q; exact ⟨q0, q1, qP, va_K.moved (u := U) (U := U.calling g mk a) (Vm.Alike.refl U.vm) qK, qD⟩, va_recv hKc hPc (ci := 13) (q0 := 0) rfl rfl, fun U hU hW => ⟨rfl, by rw [hU], by rw [hU]; exact hPc, va_K.moved hW.alike hKc, hDc.weaken (fun _ _ _ _ => trivial)⟩⟩ rfl rfl hl.1 rfl (lv_room (Nat.le_of_ble_eq_true rfl)) dX13_scan_185 ⟨Nat.le_of_ble_eq_true rfl, Nat.le_of_ble_eq_true rfl⟩) hS (fun q _ h => hFc q h) hFc ?_
    clear hS
    intro r_28 u t H1 locs ht hvm hw hB hz1 hk1 hS
    obtain ⟨z_9, rfl⟩ : ∃ z, z = u := ⟨_, rfl⟩
    obtain ⟨hP1, hK1, hD1⟩ := hB
    rw [ht] at hP1
    have hK1 := va_K.moved hvm.symm hK1
    try dsimp only at hw
    have hPD := va_join (wr := [(qf103, .inl (cf103, 8, .inl g103_183)), (qf112, .inl (cf112, 6000, .inl f112)), (qf102, .inl (cf102, 2048, .inl g102_183)), (qf104, .inl (cf104, 8, .inl g104_183)), (qf105, .inl (cf105, 8, .inl g105_183)), (qf106, .inl (cf106, 8, .inl g106_183)), (qf107, .inl (cf107, 96, .inl g107_183)), (qf108, .inl (cf108, 8, .inl g108_183)), (qf109, .inl (cf109, 96, .inl g109_183)), (qf110, .inl (cf110, 96, .inl g110_183)), (qf111, .inl (cf111, 96, .inl g111_183))]) (w1 := [(h0, .inr (13, z_9))]) hP hD [0] [1, 2, 3, 4, 5, 6, 7, 8, 9, 10, 11] rfl rfl (by decide) (by decide) hk1 hFc hP1 hD1
    clear hP hD
    obtain ⟨hP, hD⟩ := hPD
    replace hK := (hK.sub (tys' := [(cf103, .int), (cf112, .int), (cf102, .int), (cf104, .int), (cf105, .int), (cf106, .int), (cf107, .int), (cf108, .int), (cf109, .int), (cf110, .int), (cf111, .int)]) [0, 1, 2, 3, 4, 5, 6, 7, 8, 9, 10] rfl).app hK1
    clear hPc hDc hKc hFc hP1 hK1 hD1 hz1 hk1 ht hvm
    generalize H1 = H at hP hS ⊢
    replace hP : va_P (dC, dI) vwCl [(qf103, .inl (cf103, 8, .inl g103_183)), (qf112, .inl (cf112, 6000, .inl f112)), (qf102, .inl (cf102, 2048, .inl g102_183)), (qf104, .inl (cf104, 8, .inl g104_183)), (qf105, .inl (cf105, 8, .inl g105_183)), (qf106, .inl (cf106, 8, .inl g106_183)), (qf107, .inl (cf107, 96, .inl g107_183)), (qf108, .inl (cf108, 8, .inl g108_183)), (qf109, .inl (cf109, 96, .inl g109_183)), (qf110, .inl (cf110, 96, .inl g110_183)), (qf111, .inl (cf111, 96, .inl g111_183)), (h0, .inr (13, z_9))] H := hP
    replace hD : va_D A [(qf103, .inl (cf103, 8, .inl g103_183)), (qf112, .inl (cf112, 6000, .inl f112)), (qf102, .inl (cf102, 2048, .inl g102_183)), (qf104, .inl (cf104, 8, .inl g104_183)), (qf105, .inl (cf105, 8, .inl g105_183)), (qf106, .inl (cf106, 8, .inl g106_183)), (qf107, .inl (cf107, 96, .inl g107_183)), (qf108, .inl (cf108, 8, .inl g108_183)), (qf109, .inl (cf109, 96, .inl g109_183)), (qf110, .inl (cf110, 96, .inl g110_183)), (qf111, .inl (cf111, 96, .inl g111_183)), (h0, .inr (13, z_9))] := hD
    replace hK : va_K (dC, dI) vwCl [(cf103, .int), (cf112, .int), (cf102, .int), (cf104, .int), (cf105, .int), (cf106, .int), (cf107, .int), (cf108, .int), (cf109, .int), (cf110, .int), (cf111, .int)] s := hK
    obtain ⟨hwa_9, hln_9, hre_9, hch_9_114⟩ := hw
    have hfk_9_102 : z_9[102]? = some (.ref qf102) := (hre_9 102 (by decide)).trans (hfh_183_102)
    have hfk_9_103 : z_9[103]? = some (.ref qf103) := (hre_9 103 (by decide)).trans (hfh_183_103)
    have hfk_9_104 : z_9[104]? = some (.ref qf104) := (hre_9 104 (by decide)).trans (hfh_183_104)
    have hfk_9_105 : z_9[105]? = some (.ref qf105) := (hre_9 105 (by decide)).trans (hfh_183_105)
    have hfk_9_106 : z_9[106]? = some (.ref qf106) := (hre_9 106 (by decide)).trans (hfh_183_106)
    have hfk_9_107 : z_9[107]? = some (.ref qf107) := (hre_9 107 (by decide)).trans (hfh_183_107)
    have hfk_9_108 : z_9[108]? = some (.ref qf108) := (hre_9 108 (by decide)).trans (hfh_183_108)
    have hfk_9_109 : z_9[109]? = some (.ref qf109) := (hre_9 109 (by decide)).trans (hfh_183_109)
    have hfk_9_110 : z_9[110]? = some (.ref qf110) := (hre_9 110 (by decide)).trans (hfh_183_110)
    have hfk_9_111 : z_9[111]? = some (.ref qf111) := (hre_9 111 (by decide)).trans (hfh_183_111)
    have hfk_9_112 : z_9[112]? = some (.ref qf112) := (hre_9 112 (by decide)).trans (hfh_183_112)
    have hfk_9_113 : z_9[113]? = some (.int v113) := (hre_9 113 (by decide)).trans (hfh_183_113)
    have hfk_9_115 : z_9[115]? = some (.int x115_183) := (hre_9 115 (by decide)).trans (hfh_183_115)
    have hrq_9 : ∀ j : Nat, j ≠ 114 → j ≠ 115 → z_9[j]? = zs[j]? := fun j g114 g115 => (hre_9 j g114).trans (hrh_183 j g114 g115)
    obtain ⟨rfl, hz_9⟩ := hwa_9
    rcases hz_9 with rfl | rfl
    · rw [if_pos rfl] at hsp
      refine lv_if_eq (tgt := 210) hx hb dX13_scan_188 (by decide) (fun c_29 => ?_) (fun c_29 => (show False by revert c_29; decide).elim)
      exact hj_210 (H, locs, ls, z_9, l1_183, l3_183, g102_183, g103_183, g104_183, g105_183, g106_183, g107_183, g108_183, g109_183, g110_183, g111_183, u9_1, x115_183) ⟨lv_sub hl [0, 1, 2] rfl, hS, hD.sub (ws' := [(h0, .inr (13, z_9)), (qf103, .inl (cf103, 8, .inl g103_183)), (qf112, .inl (cf112, 6000, .inl f112)), (qf102, .inl (cf102, 2048, .inl g102_183)), (qf104, .inl (cf104, 8, .inl g104_183)), (qf105, .inl (cf105, 8, .inl g105_183)), (qf106, .inl (cf106, 8, .inl g106_183)), (qf107, .inl (cf107, 96, .inl g107_183)), (qf108, .inl (cf108, 8, .inl g108_183)), (qf109, .inl (cf109, 96, .inl g109_183)), (qf110, .inl (cf110, 96, .inl g110_183)), (qf111, .inl (cf111, 96, .inl g111_183))]) [11, 0, 1, 2, 3, 4, 5, 6, 7, 8, 9, 10] (by decide) rfl, hP.sub (ws' := [(h0, .inr (13, z_9)), (qf103, .inl (cf103, 8, .inl g103_183)), (qf112, .inl (cf112, 6000, .inl f112)), (qf102, .inl (cf102, 2048, .inl g102_183)), (qf104, .inl (cf104, 8, .inl g104_183)), (qf105, .inl (cf105, 8, .inl g105_183)), (qf106, .inl (cf106, 8, .inl g106_183)), (qf107, .inl (cf107, 96, .inl g107_183)), (qf108, .inl (cf108, 8, .inl g108_183)), (qf109, .inl (cf109, 96, .inl g109_183)), (qf110, .inl (cf110, 96, .inl g110_183)), (qf111, .inl (cf111, 96, .inl g111_183))]) [11, 0, 1, 2, 3, 4, 5, 6, 7, 8, 9, 10] rfl, hfk_9_102, hfk_9_103, hfk_9_104, hfk_9_105, hfk_9_106, hfk_9_107, hfk_9_108, hfk_9_109, hfk_9_110, hfk_9_111, hfk_9_112, hfk_9_113, hch_9_114, hfk_9_115, hln_9, hrq_9, hsp⟩
    · rw [if_neg (by decide)] at hsp
      refine lv_if_eq (tgt := 210) hx hb dX13_scan_188 (by decide) (fun c_30 => (show False by revert c_30; decide).elim) (fun c_30 => ?_)
      refine lv_aload_n hx hb dX13_scan_191 rfl (lv_at hl 0 rfl) ?_
      refine lv_aload_n hx hb dX13_scan_192 rfl (lv_at hl 0 rfl) ?_
      refine va_get (D := (dC, dI)) (ci := 13) (v := .ref qf112) (C := RX13) (T := TX13) (N := 155) hx hb hts uV_h9_X13 hown hK hP 11 rfl rfl 112 (by decide) (hts (.fieldLink RX13 245 "ClassMillModel" "look" "[I") mw_h9_242) (fun _ h9 => h9) hfk_9_112 dX13_scan_193 ?_
      refine lv_iload_n hx hb dX13_scan_196 rfl (lv_at hl 2 rfl) ?_
      obtain ⟨hi_31, hsp⟩ := ox_in hsp
      refine va_iald hx hb hK hP 1 1 rfl rfl (i := l3_183) hi_31 dX13_scan_197 ?_
      refine lv_iconst (v := 0) hx hb dX13_scan_198 (by decide) ?_
      obtain ⟨u10_0, hu_10, hsp⟩ := ox_bind hsp
      try dsimp only at hsp
      have hPc := hP.sub (ws' := [(h0, .inr (13, z_9)), (qf103, .inl (cf103, 8, .inl g103_183)), (qf102, .inl (cf102, 2048, .inl g102_183)), (qf112, .inl (cf112, 6000, .inl f112))]) [11, 0, 2, 1] rfl
      have hDc := hD.sub (ws' := [(h0, .inr (13, z_9)), (qf103, .inl (cf103, 8, .inl g103_183)), (qf102, .inl (cf102, 2048, .inl g102_183)), (qf112, .inl (cf112, 6000, .inl f112))]) [11, 0, 2, 1] (by decide) rfl
      have hKc := hK.sub (tys' := [(cf103, .int), (cf102, .int), (cf112, .int)]) [0, 2, 1] rfl
      have hFc := va_free (wc := [(h0, .inr (13, z_9)), (qf103, .inl (cf103, 8, .inl g103_183)), (qf102, .inl (cf102, 2048, .inl g102_183)), (qf112, .inl (cf112, 6000, .inl f112))]) hD hS hA [11, 0, 2, 1] rfl
      refine va_calli (va_runV (As := [.int (f112 (l3_183 : Int32).toNatClampNeg), .int 0]) (rest := []) ⟨hx, hb, hml, hown, hts⟩ (tn_isClassConstant l dC dI H.size h0 z_9 ((f112 (l3_183 : Int32).toNatClampNeg)) 0 qf102 qf103 qf112 x115_183 cf103 g103_183 cf102 g102_183 cf112 f112 nf u10_0 hln_9 hfk_9_102 hfk_9_103 hfk_9_112 hfk_9_115 hu_10) (cwV 2 hts gv_h9_51 rfl rfl rfl (by decide +kernel) ⟨Nat.le_of_ble_eq_true rfl, Nat.le_of_ble_eq_true rfl⟩) ⟨fun a U g mk q => by obtain ⟨q0, q1, qP, qK, qD⟩ := q; exact ⟨q0, q1, qP, va_K.moved (u := U) (U := U.calling g mk a) (Vm.Alike.refl U.vm) qK, qD⟩, va_recv hKc hPc (ci := 13) (q0 := 0) rfl rfl, fun U hU hW => ⟨rfl, by rw [hU], by rw [hU]; exact hPc, va_K.moved hW.alike hKc, hDc.weaken (fun _ _ _ _ => trivial)⟩⟩ rfl rfl hl.1 rfl (lv_room (Nat.le_of_ble_eq_true rfl)) dX13_scan_199 ⟨Nat.le_of_ble_eq_true rfl, Nat.le_of_ble_eq_true rfl⟩) hS (fun q _ h => hFc q h) hFc ?_
      clear hS
      intro r_32 u t H1 locs ht hvm hw hB hz1 hk1 hS
      obtain ⟨z_10, rfl⟩ : ∃ z, z = u := ⟨_, rfl⟩
      obtain ⟨hP1, hK1, hD1⟩ := hB
      rw [ht] at hP1
      have hK1 := va_K.moved hvm.symm hK1
      try dsimp only at hw
      have hPD := va_join (wr := [(qf104, .inl (cf104, 8, .inl g104_183)), (qf105, .inl (cf105, 8, .inl g105_183)), (qf106, .inl (cf106, 8, .inl g106_183)), (qf107, .inl (cf107, 96, .inl g107_183)), (qf108, .inl (cf108, 8, .inl g108_183)), (qf109, .inl (cf109, 96, .inl g109_183)), (qf110, .inl (cf110, 96, .inl g110_183)), (qf111, .inl (cf111, 96, .inl g111_183))]) (w1 := [(h0, .inr (13, z_10)), (qf103, .inl (cf103, 8, .inl g103_183)), (qf102, .inl (cf102, 2048, .inl g102_183)), (qf112, .inl (cf112, 6000, .inl f112))]) hP hD [11, 0, 2, 1] [3, 4, 5, 6, 7, 8, 9, 10] rfl rfl (by decide) (by decide) hk1 hFc hP1 hD1
      clear hP hD
      obtain ⟨hP, hD⟩ := hPD
      replace hK := (hK.sub (tys' := [(cf104, .int), (cf105, .int), (cf106, .int), (cf107, .int), (cf108, .int), (cf109, .int), (cf110, .int), (cf111, .int)]) [3, 4, 5, 6, 7, 8, 9, 10] rfl).app hK1
      clear hPc hDc hKc hFc hP1 hK1 hD1 hz1 hk1 ht hvm
      generalize H1 = H at hP hS ⊢
      replace hP : va_P (dC, dI) vwCl [(qf104, .inl (cf104, 8, .inl g104_183)), (qf105, .inl (cf105, 8, .inl g105_183)), (qf106, .inl (cf106, 8, .inl g106_183)), (qf107, .inl (cf107, 96, .inl g107_183)), (qf108, .inl (cf108, 8, .inl g108_183)), (qf109, .inl (cf109, 96, .inl g109_183)), (qf110, .inl (cf110, 96, .inl g110_183)), (qf111, .inl (cf111, 96, .inl g111_183)), (h0, .inr (13, z_10)), (qf103, .inl (cf103, 8, .inl g103_183)), (qf102, .inl (cf102, 2048, .inl g102_183)), (qf112, .inl (cf112, 6000, .inl f112))] H := hP
      replace hD : va_D A [(qf104, .inl (cf104, 8, .inl g104_183)), (qf105, .inl (cf105, 8, .inl g105_183)), (qf106, .inl (cf106, 8, .inl g106_183)), (qf107, .inl (cf107, 96, .inl g107_183)), (qf108, .inl (cf108, 8, .inl g108_183)), (qf109, .inl (cf109, 96, .inl g109_183)), (qf110, .inl (cf110, 96, .inl g110_183)), (qf111, .inl (cf111, 96, .inl g111_183)), (h0, .inr (13, z_10)), (qf103, .inl (cf103, 8, .inl g103_183)), (qf102, .inl (cf102, 2048, .inl g102_183)), (qf112, .inl (cf112, 6000, .inl f112))] := hD
      replace hK : va_K (dC, dI) vwCl [(cf104, .int), (cf105, .int), (cf106, .int), (cf107, .int), (cf108, .int), (cf109, .int), (cf110, .int), (cf111, .int), (cf103, .int), (cf102, .int), (cf112, .int)] s := hK
      obtain ⟨hwa_10, hln_10, hre_10⟩ := hw
      have hfk_10_102 : z_10[102]? = some (.ref qf102) := (hre_10 102 ).trans (hfk_9_102)
      have hfk_10_103 : z_10[103]? = some (.ref qf103) := (hre_10 103 ).trans (hfk_9_103)
      have hfk_10_104 : z_10[104]? = some (.ref qf104) := (hre_10 104 ).trans (hfk_9_104)
      have hfk_10_105 : z_10[105]? = some (.ref qf105) := (hre_10 105 ).trans (hfk_9_105)
      have hfk_10_106 : z_10[106]? = some (.ref qf106) := (hre_10 106 ).trans (hfk_9_106)
      have hfk_10_107 : z_10[107]? = some (.ref qf107) := (hre_10 107 ).trans (hfk_9_107)
      have hfk_10_108 : z_10[108]? = some (.ref qf108) := (hre_10 108 ).trans (hfk_9_108)
      have hfk_10_109 : z_10[109]? = some (.ref qf109) := (hre_10 109 ).trans (hfk_9_109)
      have hfk_10_110 : z_10[110]? = some (.ref qf110) := (hre_10 110 ).trans (hfk_9_110)
      have hfk_10_111 : z_10[111]? = some (.ref qf111) := (hre_10 111 ).trans (hfk_9_111)
      have hfk_10_112 : z_10[112]? = some (.ref qf112) := (hre_10 112 ).trans (hfk_9_112)
      have hfk_10_113 : z_10[113]? = some (.int v113) := (hre_10 113 ).trans (hfk_9_113)
      have hfk_10_114 : z_10[114]? = some (.int u9_1) := (hre_10 114 ).trans (hch_9_114)
      have hfk_10_115 : z_10[115]? = some (.int x115_183) := (hre_10 115 ).trans (hfk_9_115)
      have hrq_10 : ∀ j : Nat, j ≠ 114 → j ≠ 115 → z_10[j]? = zs[j]? := fun j g114 g115 => (hre_10 j ).trans (hrq_9 j g114 g115)
      obtain ⟨rfl, hz_10⟩ := hwa_10
      rcases hz_10 with rfl | rfl
      · rw [if_pos rfl] at hsp
        refine lv_if_ne (tgt := 210) hx hb dX13_scan_202 (by decide) (fun c_33 => (show False by revert c_33; decide).elim) (fun c_33 => ?_)
        refine lv_aload_n hx hb dX13_scan_205 rfl (lv_at hl 0 rfl) ?_
        refine lv_iload_n hx hb dX13_scan_206 rfl (lv_at hl 2 rfl) ?_
        obtain ⟨u11_0, hu_11, hsp⟩ := ox_bind hsp
        try dsimp only at hsp
        have hPc := hP.sub (ws' := [(h0, .inr (13, z_10))]) [8] rfl
        have hDc := hD.sub (ws' := [(h0, .inr (13, z_10))]) [8] (by decide) rfl
        have hKc := hK.sub (tys' := []) [] rfl
        have hFc := va_free (wc := [(h0, .inr (13, z_10))]) hD hS hA [8] rfl
        refine va_callv (va_runV (As := [.int l3_183]) (rest := []) ⟨hx, hb, hml, hown, hts⟩ (tm_unfit l dC dI H.size h0 z_10 l3_183 u9_1 nf u11_0 hln_10 hfk_10_114 hu_11) (cwV 1 hts gv_h9_48 rfl rfl rfl (by decide +kernel) ⟨Nat.le_of_ble_eq_true rfl, Nat.le_of_ble_eq_true rfl⟩) ⟨fun a U g mk q => by obtain ⟨q0, q1, qP, qK, qD⟩ := q; exact ⟨q0, q1, qP, va_K.moved (u := U) (U := U.calling g mk a) (Vm.Alike.refl U.vm) qK, qD⟩, va_recv hKc hPc (ci := 13) (q0 := 0) rfl rfl, fun U hU hW => ⟨rfl, by rw [hU], by rw [hU]; exact hPc, va_K.moved hW.alike hKc, hDc.weaken (fun _ _ _ _ => trivial)⟩⟩ rfl rfl hl.1 rfl (lv_room (Nat.le_of_ble_eq_true rfl)) dX13_scan_207 ⟨Nat.le_of_ble_eq_true rfl, Nat.le_of_ble_eq_true rfl⟩) hS (fun q _ h => hFc q h) hFc ?_
        clear hS
        intro u t H1 locs ht hvm hw hB hz1 hk1 hS
        obtain ⟨z_11, rfl⟩ : ∃ z, z = u := ⟨_, rfl⟩
        obtain ⟨hP1, hK1, hD1⟩ := hB
        rw [ht] at hP1
        have hK1 := va_K.moved hvm.symm hK1
        try dsimp only at hw
        have hPD := va_join (wr := [(qf104, .inl (cf104, 8, .inl g104_183)), (qf105, .inl (cf105, 8, .inl g105_183)), (qf106, .inl (cf106, 8, .inl g106_183)), (qf107, .inl (cf107, 96, .inl g107_183)), (qf108, .inl (cf108, 8, .inl g108_183)), (qf109, .inl (cf109, 96, .inl g109_183)), (qf110, .inl (cf110, 96, .inl g110_183)), (qf111, .inl (cf111, 96, .inl g111_183)), (qf103, .inl (cf103, 8, .inl g103_183)), (qf102, .inl (cf102, 2048, .inl g102_183)), (qf112, .inl (cf112, 6000, .inl f112))]) (w1 := [(h0, .inr (13, z_11))]) hP hD [8] [0, 1, 2, 3, 4, 5, 6, 7, 9, 10, 11] rfl rfl (by decide) (by decide) hk1 hFc hP1 hD1
        clear hP hD
        obtain ⟨hP, hD⟩ := hPD
        replace hK := (hK.sub (tys' := [(cf104, .int), (cf105, .int), (cf106, .int), (cf107, .int), (cf108, .int), (cf109, .int), (cf110, .int), (cf111, .int), (cf103, .int), (cf102, .int), (cf112, .int)]) [0, 1, 2, 3, 4, 5, 6, 7, 8, 9, 10] rfl).app hK1
        clear hPc hDc hKc hFc hP1 hK1 hD1 hz1 hk1 ht hvm
        generalize H1 = H at hP hS ⊢
        replace hP : va_P (dC, dI) vwCl [(qf104, .inl (cf104, 8, .inl g104_183)), (qf105, .inl (cf105, 8, .inl g105_183)), (qf106, .inl (cf106, 8, .inl g106_183)), (qf107, .inl (cf107, 96, .inl g107_183)), (qf108, .inl (cf108, 8, .inl g108_183)), (qf109, .inl (cf109, 96, .inl g109_183)), (qf110, .inl (cf110, 96, .inl g110_183)), (qf111, .inl (cf111, 96, .inl g111_183)), (qf103, .inl (cf103, 8, .inl g103_183)), (qf102, .inl (cf102, 2048, .inl g102_183)), (qf112, .inl (cf112, 6000, .inl f112)), (h0, .inr (13, z_11))] H := hP
        replace hD : va_D A [(qf104, .inl (cf104, 8, .inl g104_183)), (qf105, .inl (cf105, 8, .inl g105_183)), (qf106, .inl (cf106, 8, .inl g106_183)), (qf107, .inl (cf107, 96, .inl g107_183)), (qf108, .inl (cf108, 8, .inl g108_183)), (qf109, .inl (cf109, 96, .inl g109_183)), (qf110, .inl (cf110, 96, .inl g110_183)), (qf111, .inl (cf111, 96, .inl g111_183)), (qf103, .inl (cf103, 8, .inl g103_183)), (qf102, .inl (cf102, 2048, .inl g102_183)), (qf112, .inl (cf112, 6000, .inl f112)), (h0, .inr (13, z_11))] := hD
        replace hK : va_K (dC, dI) vwCl [(cf104, .int), (cf105, .int), (cf106, .int), (cf107, .int), (cf108, .int), (cf109, .int), (cf110, .int), (cf111, .int), (cf103, .int), (cf102, .int), (cf112, .int)] s := hK
        obtain ⟨hwa_11, hln_11, hre_11, hch_11_114⟩ := hw
        have hfk_11_102 : z_11[102]? = some (.ref qf102) := (hre_11 102 (by decide)).trans (hfk_10_102)
        have hfk_11_103 : z_11[103]? = some (.ref qf103) := (hre_11 103 (by decide)).trans (hfk_10_103)
        have hfk_11_104 : z_11[104]? = some (.ref qf104) := (hre_11 104 (by decide)).trans (hfk_10_104)
        have hfk_11_105 : z_11[105]? = some (.ref qf105) := (hre_11 105 (by decide)).trans (hfk_10_105)
        have hfk_11_106 : z_11[106]? = some (.ref qf106) := (hre_11 106 (by decide)).trans (hfk_10_106)
        have hfk_11_107 : z_11[107]? = some (.ref qf107) := (hre_11 107 (by decide)).trans (hfk_10_107)
        have hfk_11_108 : z_11[108]? = some (.ref qf108) := (hre_11 108 (by decide)).trans (hfk_10_108)
        have hfk_11_109 : z_11[109]? = some (.ref qf109) := (hre_11 109 (by decide)).trans (hfk_10_109)
        have hfk_11_110 : z_11[110]? = some (.ref qf110) := (hre_11 110 (by decide)).trans (hfk_10_110)
        have hfk_11_111 : z_11[111]? = some (.ref qf111) := (hre_11 111 (by decide)).trans (hfk_10_111)
        have hfk_11_112 : z_11[112]? = some (.ref qf112) := (hre_11 112 (by decide)).trans (hfk_10_112)
        have hfk_11_113 : z_11[113]? = some (.int v113) := (hre_11 113 (by decide)).trans (hfk_10_113)
        have hfk_11_115 : z_11[115]? = some (.int x115_183) := (hre_11 115 (by decide)).trans (hfk_10_115)
        have hrq_11 : ∀ j : Nat, j ≠ 114 → j ≠ 115 → z_11[j]? = zs[j]? := fun j g114 g115 => (hre_11 j g114).trans (hrq_10 j g114 g115)
        exact hj_210 (H, locs, ls, z_11, l1_183, l3_183, g102_183, g103_183, g104_183, g105_183, g106_183, g107_183, g108_183, g109_183, g110_183, g111_183, u11_0, x115_183) ⟨lv_sub hl [0, 1, 2] rfl, hS, hD.sub (ws' := [(h0, .inr (13, z_11)), (qf103, .inl (cf103, 8, .inl g103_183)), (qf112, .inl (cf112, 6000, .inl f112)), (qf102, .inl (cf102, 2048, .inl g102_183)), (qf104, .inl (cf104, 8, .inl g104_183)), (qf105, .inl (cf105, 8, .inl g105_183)), (qf106, .inl (cf106, 8, .inl g106_183)), (qf107, .inl (cf107, 96, .inl g107_183)), (qf108, .inl (cf108, 8, .inl g108_183)), (qf109, .inl (cf109, 96, .inl g109_183)), (qf110, .inl (cf110, 96, .inl g110_183)), (qf111, .inl (cf111, 96, .inl g111_183))]) [11, 8, 10, 9, 0, 1, 2, 3, 4, 5, 6, 7] (by decide) rfl, hP.sub (ws' := [(h0, .inr (13, z_11)), (qf103, .inl (cf103, 8, .inl g103_183)), (qf112, .inl (cf112, 6000, .inl f112)), (qf102, .inl (cf102, 2048, .inl g102_183)), (qf104, .inl (cf104, 8, .inl g104_183)), (qf105, .inl (cf105, 8, .inl g105_183)), (qf106, .inl (cf106, 8, .inl g106_183)), (qf107, .inl (cf107, 96, .inl g107_183)), (qf108, .inl (cf108, 8, .inl g108_183)), (qf109, .inl (cf109, 96, .inl g109_183)), (qf110, .inl (cf110, 96, .inl g110_183)), (qf111, .inl (cf111, 96, .inl g111_183))]) [11, 8, 10, 9, 0, 1, 2, 3, 4, 5, 6, 7] rfl, hfk_11_102, hfk_11_103, hfk_11_104, hfk_11_105, hfk_11_106, hfk_11_107, hfk_11_108, hfk_11_109, hfk_11_110, hfk_11_111, hfk_11_112, hfk_11_113, hch_11_114, hfk_11_115, hln_11, hrq_11, hsp⟩
      · rw [if_neg (by decide)] at hsp
        refine lv_if_ne (tgt := 210) hx hb dX13_scan_202 (by decide) (fun c_34 => ?_) (fun c_34 => (show False by revert c_34; decide).elim)
        exact hj_210 (H, locs, ls, z_10, l1_183, l3_183, g102_183, g103_183, g104_183, g105_183, g106_183, g107_183, g108_183, g109_183, g110_183, g111_183, u9_1, x115_183) ⟨lv_sub hl [0, 1, 2] rfl, hS, hD.sub (ws' := [(h0, .inr (13, z_10)), (qf103, .inl (cf103, 8, .inl g103_183)), (qf112, .inl (cf112, 6000, .inl f112)), (qf102, .inl (cf102, 2048, .inl g102_183)), (qf104, .inl (cf104, 8, .inl g104_183)), (qf105, .inl (cf105, 8, .inl g105_183)), (qf106, .inl (cf106, 8, .inl g106_183)), (qf107, .inl (cf107, 96, .inl g107_183)), (qf108, .inl (cf108, 8, .inl g108_183)), (qf109, .inl (cf109, 96, .inl g109_183)), (qf110, .inl (cf110, 96, .inl g110_183)), (qf111, .inl (cf111, 96, .inl g111_183))]) [8, 9, 11, 10, 0, 1, 2, 3, 4, 5, 6, 7] (by decide) rfl, hP.sub (ws' := [(h0, .inr (13, z_10)), (qf103, .inl (cf103, 8, .inl g103_183)), (qf112, .inl (cf112, 6000, .inl f112)), (qf102, .inl (cf102, 2048, .inl g102_183)), (qf104, .inl (cf104, 8, .inl g104_183)), (qf105, .inl (cf105, 8, .inl g105_183)), (qf106, .inl (cf106, 8, .inl g106_183)), (qf107, .inl (cf107, 96, .inl g107_183)), (qf108, .inl (cf108, 8, .inl g108_183)), (qf109, .inl (cf109, 96, .inl g109_183)), (qf110, .inl (cf110, 96, .inl g110_183)), (qf111, .inl (cf111, 96, .inl g111_183))]) [8, 9, 11, 10, 0, 1, 2, 3, 4, 5, 6, 7] rfl, hfk_10_102, hfk_10_103, hfk_10_104, hfk_10_105, hfk_10_106, hfk_10_107, hfk_10_108, hfk_10_109, hfk_10_110, hfk_10_111, hfk_10_112, hfk_10_113, hfk_10_114, hfk_10_115, hln_10, hrq_10, hsp⟩
  intro hj_183
  refine jn_use (α := Heap × List Loc × Array Slot × List Value × Int32 × Int32 × Int32 × (Nat → Int32) × (Nat → Int32) × (Nat → Int32) × (Nat → Int32) × (Nat → Int32) × (Nat → Int32) × (Nat → Int32) × (Nat → Int32) × (Nat → Int32) × (Nat → Int32) × Int32 × Int32) (fun x9 => x9.1) (fun x9 => x9.2.1) (fun x9 => F0 m 143 x9.2.2.1 []) (fun x9 => match x9 with | (H, locs, ls, z143, l1_143, l2_143, l3_143, g102_143, g103_143, g104_143, g105_143, g106_143, g107_143, g108_143, g109_143, g110_143, g111_143, x114_143, x115_143) => lv_has ls 5 [(0, .ref h0), (1, .int l1_143), (2, .int l2_143), (3, .int l3_143)] ∧ va_S A s.heap H locs ∧ va_D A [(h0, .inr (13, z143)), (qf103, .inl (cf103, 8, .inl g103_143)), (qf112, .inl (cf112, 6000, .inl f112)), (qf102, .inl (cf102, 2048, .inl g102_143)), (qf104, .inl (cf104, 8, .inl g104_143)), (qf105, .inl (cf105, 8, .inl g105_143)), (qf106, .inl (cf106, 8, .inl g106_143)), (qf107, .inl (cf107, 96, .inl g107_143)), (qf108, .inl (cf108, 8, .inl g108_143)), (qf109, .inl (cf109, 96, .inl g109_143)), (qf110, .inl (cf110, 96, .inl g110_143)), (qf111, .inl (cf111, 96, .inl g111_143))] ∧ va_P (dC, dI) vwCl [(h0, .inr (13, z143)), (qf103, .inl (cf103, 8, .inl g103_143)), (qf112, .inl (cf112, 6000, .inl f112)), (qf102, .inl (cf102, 2048, .inl g102_143)), (qf104, .inl (cf104, 8, .inl g104_143)), (qf105, .inl (cf105, 8, .inl g105_143)), (qf106, .inl (cf106, 8, .inl g106_143)), (qf107, .inl (cf107, 96, .inl g107_143)), (qf108, .inl (cf108, 8, .inl g108_143)), (qf109, .inl (cf109, 96, .inl g109_143)), (qf110, .inl (cf110, 96, .inl g110_143)), (qf111, .inl (cf111, 96, .inl g111_143))] H ∧ z143[102]? = some (.ref qf102) ∧ z143[103]? = some (.ref qf103) ∧ z143[104]? = some (.ref qf104) ∧ z143[105]? = some (.ref qf105) ∧ z143[106]? = some (.ref qf106) ∧ z143[107]? = some (.ref qf107) ∧ z143[108]? = some (.ref qf108) ∧ z143[109]? = some (.ref qf109) ∧ z143[110]? = some (.ref qf110) ∧ z143[111]? = some (.ref qf111) ∧ z143[112]? = some (.ref qf112) ∧ z143[113]? = some (.int v113) ∧ z143[114]? = some (.int x114_143) ∧ z143[115]? = some (.int x115_143) ∧ z143.length = 155 ∧ (∀ j : Nat, j ≠ 114 → j ≠ 115 → z143[j]? = zs[j]?) ∧ jn_vm_scan_143 nf a1 v113 f103 f112 f102 f104 f105 f106 f107 f108 f109 f110 f111 l1_143 l2_143 l3_143 g102_143 g103_143 g104_143 g105_143 g106_143 g107_143 g108_143 g109_143 g110_143 g111_143 x114_143 x115_143 = some (o102, o103, o104, o105, o106, o107, o108, o109, o110, o111, w114, w115)) ?_ ?_
  · intro x9 hJ9
    obtain ⟨H, locs, ls, z143, l1_143, l2_143, l3_143, g102_143, g103_143, g104_143, g105_143, g106_143, g107_143, g108_143, g109_143, g110_143, g111_143, x114_143, x115_143⟩ := x9
    obtain ⟨hl, hS, hD, hP, hfh_143_102, hfh_143_103, hfh_143_104, hfh_143_105, hfh_143_106, hfh_143_107, hfh_143_108, hfh_143_109, hfh_143_110, hfh_143_111, hfh_143_112, hfh_143_113, hfh_143_114, hfh_143_115, hlh_143, hrh_143, hsp⟩ := hJ9
    replace hl : lv_has ls 5 [(0, .ref h0), (1, .int l1_143), (2, .int l2_143), (3, .int l3_143)] := hl
    replace hS : va_S A s.heap H locs := hS
    replace hD : va_D A [(h0, .inr (13, z143)), (qf103, .inl (cf103, 8, .inl g103_143)), (qf112, .inl (cf112, 6000, .inl f112)), (qf102, .inl (cf102, 2048, .inl g102_143)), (qf104, .inl (cf104, 8, .inl g104_143)), (qf105, .inl (cf105, 8, .inl g105_143)), (qf106, .inl (cf106, 8, .inl g106_143)), (qf107, .inl (cf107, 96, .inl g107_143)), (qf108, .inl (cf108, 8, .inl g108_143)), (qf109, .inl (cf109, 96, .inl g109_143)), (qf110, .inl (cf110, 96, .inl g110_143)), (qf111, .inl (cf111, 96, .inl g111_143))] := hD
    replace hP : va_P (dC, dI) vwCl [(h0, .inr (13, z143)), (qf103, .inl (cf103, 8, .inl g103_143)), (qf112, .inl (cf112, 6000, .inl f112)), (qf102, .inl (cf102, 2048, .inl g102_143)), (qf104, .inl (cf104, 8, .inl g104_143)), (qf105, .inl (cf105, 8, .inl g105_143)), (qf106, .inl (cf106, 8, .inl g106_143)), (qf107, .inl (cf107, 96, .inl g107_143)), (qf108, .inl (cf108, 8, .inl g108_143)), (qf109, .inl (cf109, 96, .inl g109_143)), (qf110, .inl (cf110, 96, .inl g110_143)), (qf111, .inl (cf111, 96, .inl g111_143))] H := hP
    replace hsp : jn_vm_scan_143 nf a1 v113 f103 f112 f102 f104 f105 f106 f107 f108 f109 f110 f111 l1_143 l2_143 l3_143 g102_143 g103_143 g104_143 g105_143 g106_143 g107_143 g108_143 g109_143 g110_143 g111_143 x114_143 x115_143 = some (o102, o103, o104, o105, o106, o107, o108, o109, o110, o111, w114, w115) := hsp
    show W _ _ _ _ _ _ _ _ _ _ H locs _ _ _ (F0 m 143 ls [])
    unfold jn_vm_scan_143 at hsp
    try dsimp only at hsp
    refine lv_iconst (v := 1) hx hb dX13_scan_143 (by decide) ?_
    refine lv_istore (lv' := [(4, .int 1), (0, .ref h0), (1, .int l1_143), (2, .int l2_143), (3, .int l3_143)]) hx hb dX13_scan_144 hl (by decide) rfl (fun ls hl => ?_)
    replace hl : lv_has ls 5 [(4, .int 1), (0, .ref h0), (1, .int l1_143), (2, .int l2_143), (3, .int l3_143)] := lv_sub hl [0, 1, 2, 3, 4] rfl
    replace hP := hP.sub (ws' := [(h0, .inr (13, z143)), (qf103, .inl (cf103, 8, .inl g103_143)), (qf112, .inl (cf112, 6000, .inl f112)), (qf102, .inl (cf102, 2048, .inl g102_143)), (qf104, .inl (cf104, 8, .inl g104_143)), (qf105, .inl (cf105, 8, .inl g105_143)), (qf106, .inl (cf106, 8, .inl g106_143)), (qf107, .inl (cf107, 96, .inl g107_143)), (qf108, .inl (cf108, 8, .inl g108_143)), (qf109, .inl (cf109, 96, .inl g109_143)), (qf110, .inl (cf110, 96, .inl g110_143)), (qf111, .inl (cf111, 96, .inl g111_143))]) [0, 1, 2, 3, 4, 5, 6, 7, 8, 9, 10, 11] rfl
    replace hD := hD.sub (ws' := [(h0, .inr (13, z143)), (qf103, .inl (cf103, 8, .inl g103_143)), (qf112, .inl (cf112, 6000, .inl f112)), (qf102, .inl (cf102, 2048, .inl g102_143)), (qf104, .inl (cf104, 8, .inl g104_143)), (qf105, .inl (cf105, 8, .inl g105_143)), (qf106, .inl (cf106, 8, .inl g106_143)), (qf107, .inl (cf107, 96, .inl g107_143)), (qf108, .inl (cf108, 8, .inl g108_143)), (qf109, .inl (cf109, 96, .inl g109_143)), (qf110, .inl (cf110, 96, .inl g110_143)), (qf111, .inl (cf111, 96, .inl g111_143))]) [0, 1, 2, 3, 4, 5, 6, 7, 8, 9, 10, 11] (by decide) rfl
    replace hK := hK.sub (tys' := [(cf103, .int), (cf112, .int), (cf102, .int), (cf104, .int), (cf105, .int), (cf106, .int), (cf107, .int), (cf108, .int), (cf109, .int), (cf110, .int), (cf111, .int)]) [0, 1, 2, 3, 4, 5, 6, 7, 8, 9, 10] rfl
    obtain ⟨n_146, hn_146⟩ : ∃ z : Nat, z = nf := ⟨_, rfl⟩
    obtain ⟨l1_146, el1_146⟩ : ∃ z : Int32, z = l1_143 := ⟨_, rfl⟩
    obtain ⟨l2_146, el2_146⟩ : ∃ z : Int32, z = l2_143 := ⟨_, rfl⟩
    obtain ⟨l3_146, el3_146⟩ : ∃ z : Int32, z = l3_143 := ⟨_, rfl⟩
    obtain ⟨l4_146, el4_146⟩ : ∃ z : Int32, z = 1 := ⟨_, rfl⟩
    obtain ⟨g102_146, eg102_146⟩ : ∃ z : Nat → Int32, z = g102_143 := ⟨_, rfl⟩
    obtain ⟨g103_146, eg103_146⟩ : ∃ z : Nat → Int32, z = g103_143 := ⟨_, rfl⟩
    obtain ⟨g104_146, eg104_146⟩ : ∃ z : Nat → Int32, z = g104_143 := ⟨_, rfl⟩
    obtain ⟨g105_146, eg105_146⟩ : ∃ z : Nat → Int32, z = g105_143 := ⟨_, rfl⟩
    obtain ⟨g106_146, eg106_146⟩ : ∃ z : Nat → Int32, z = g106_143 := ⟨_, rfl⟩
    obtain ⟨g107_146, eg107_146⟩ : ∃ z : Nat → Int32, z = g107_143 := ⟨_, rfl⟩
    obtain ⟨g108_146, eg108_146⟩ : ∃ z : Nat → Int32, z = g108_143 := ⟨_, rfl⟩
    obtain ⟨g109_146, eg109_146⟩ : ∃ z : Nat → Int32, z = g109_143 := ⟨_, rfl⟩
    obtain ⟨g110_146, eg110_146⟩ : ∃ z : Nat → Int32, z = g110_143 := ⟨_, rfl⟩
    obtain ⟨g111_146, eg111_146⟩ : ∃ z : Nat → Int32, z = g111_143 := ⟨_, rfl⟩
    obtain ⟨x114_146, ex114_146⟩ : ∃ z : Int32, z = x114_143 := ⟨_, rfl⟩
    obtain ⟨x115_146, ex115_146⟩ : ∃ z : Int32, z = x115_143 := ⟨_, rfl⟩
    replace hsp : lp_vm_scan_146 nf n_146 a1 v113 f103 f112 f102 f104 f105 f106 f107 f108 f109 f110 f111 l1_146 l2_146 l3_146 l4_146 g102_146 g103_146 g104_146 g105_146 g106_146 g107_146 g108_146 g109_146 g110_146 g111_146 x114_146 x115_146 = some (o102, o103, o104, o105, o106, o107, o108, o109, o110, o111, w114, w115) := by rw [hn_146, el1_146, el2_146, el3_146, el4_146, eg102_146, eg103_146, eg104_146, eg105_146, eg106_146, eg107_146, eg108_146, eg109_146, eg110_146, eg111_146, ex114_146, ex115_146]; exact hsp
    replace hl : lv_has ls 5 [(4, .int l4_146), (0, .ref h0), (1, .int l1_146), (2, .int l2_146), (3, .int l3_146)] := by rw [el1_146, el2_146, el3_146, el4_146]; exact hl
    obtain ⟨z146, ez146⟩ : ∃ z : List Value, z = z143 := ⟨_, rfl⟩
    have hfh_146_102 : z146[102]? = some (.ref qf102) := by rw [ez146]; exact hfh_143_102
    have hfh_146_103 : z146[103]? = some (.ref qf103) := by rw [ez146]; exact hfh_143_103
    have hfh_146_104 : z146[104]? = some (.ref qf104) := by rw [ez146]; exact hfh_143_104
    have hfh_146_105 : z146[105]? = some (.ref qf105) := by rw [ez146]; exact hfh_143_105
    have hfh_146_106 : z146[106]? = some (.ref qf106) := by rw [ez146]; exact hfh_143_106
    have hfh_146_107 : z146[107]? = some (.ref qf107) := by rw [ez146]; exact hfh_143_107
    have hfh_146_108 : z146[108]? = some (.ref qf108) := by rw [ez146]; exact hfh_143_108
    have hfh_146_109 : z146[109]? = some (.ref qf109) := by rw [ez146]; exact hfh_143_109
    have hfh_146_110 : z146[110]? = some (.ref qf110) := by rw [ez146]; exact hfh_143_110
    have hfh_146_111 : z146[111]? = some (.ref qf111) := by rw [ez146]; exact hfh_143_111
    have hfh_146_112 : z146[112]? = some (.ref qf112) := by rw [ez146]; exact hfh_143_112
    have hfh_146_113 : z146[113]? = some (.int v113) := by rw [ez146]; exact hfh_143_113
    have hfh_146_114 : z146[114]? = some (.int x114_146) := by rw [ez146, ex114_146]; exact hfh_143_114
    have hfh_146_115 : z146[115]? = some (.int x115_146) := by rw [ez146, ex115_146]; exact hfh_143_115
    have hlh_146 : z146.length = 155 := by rw [ez146]; exact hlh_143
    have hrh_146 : ∀ j : Nat, j ≠ 114 → j ≠ 115 → z146[j]? = zs[j]? := by rw [ez146]; exact hrh_143
    replace hP : va_P (dC, dI) vwCl [(h0, .inr (13, z146)), (qf103, .inl (cf103, 8, .inl g103_146)), (qf112, .inl (cf112, 6000, .inl f112)), (qf102, .inl (cf102, 2048, .inl g102_146)), (qf104, .inl (cf104, 8, .inl g104_146)), (qf105, .inl (cf105, 8, .inl g105_146)), (qf106, .inl (cf106, 8, .inl g106_146)), (qf107, .inl (cf107, 96, .inl g107_146)), (qf108, .inl (cf108, 8, .inl g108_146)), (qf109, .inl (cf109, 96, .inl g109_146)), (qf110, .inl (cf110, 96, .inl g110_146)), (qf111, .inl (cf111, 96, .inl g111_146))] H := by rw [ez146, eg102_146, eg103_146, eg104_146, eg105_146, eg106_146, eg107_146, eg108_146, eg109_146, eg110_146, eg111_146]; exact hP
    replace hD : va_D A [(h0, .inr (13, z146)), (qf103, .inl (cf103, 8, .inl g103_146)), (qf112, .inl (cf112, 6000, .inl f112)), (qf102, .inl (cf102, 2048, .inl g102_146)), (qf104, .inl (cf104, 8, .inl g104_146)), (qf105, .inl (cf105, 8, .inl g105_146)), (qf106, .inl (cf106, 8, .inl g106_146)), (qf107, .inl (cf107, 96, .inl g107_146)), (qf108, .inl (cf108, 8, .inl g108_146)), (qf109, .inl (cf109, 96, .inl g109_146)), (qf110, .inl (cf110, 96, .inl g110_146)), (qf111, .inl (cf111, 96, .inl g111_146))] := by rw [ez146, eg102_146, eg103_146, eg104_146, eg105_146, eg106_146, eg107_146, eg108_146, eg109_146, eg110_146, eg111_146]; exact hD
    clear hn_146 ez146 el1_146 el2_146 el3_146 el4_146 eg102_146 eg103_146 eg104_146 eg105_146 eg106_146 eg107_146 eg108_146 eg109_146 eg110_146 eg111_146 ex114_146 ex115_146
    try clear hlo
    try clear hH
    revert hsp
    revert hP
    revert hD
    revert hS
    revert hl
    revert hrh_146
    revert hlh_146
    revert hfh_146_115
    revert hfh_146_114
    revert hfh_146_113
    revert hfh_146_112
    revert hfh_146_111
    revert hfh_146_110
    revert hfh_146_109
    revert hfh_146_108
    revert hfh_146_107
    revert hfh_146_106
    revert hfh_146_105
    revert hfh_146_104
    revert hfh_146_103
    revert hfh_146_102
    revert x115_146
    revert x114_146
    revert g111_146
    revert g110_146
    revert g109_146
    revert g108_146
    revert g107_146
    revert g106_146
    revert g105_146
    revert g104_146
    revert g103_146
    revert g102_146
    revert l4_146
    revert l3_146
    revert l2_146
    revert l1_146
    revert z146
    revert ls
    revert locs
    revert H
    induction n_146 with
    | zero => intro H locs ls z146 l1_146 l2_146 l3_146 l4_146 g102_146 g103_146 g104_146 g105_146 g106_146 g107_146 g108_146 g109_146 g110_146 g111_146 x114_146 x115_146 hfh_146_102 hfh_146_103 hfh_146_104 hfh_146_105 hfh_146_106 hfh_146_107 hfh_146_108 hfh_146_109 hfh_146_110 hfh_146_111 hfh_146_112 hfh_146_113 hfh_146_114 hfh_146_115 hlh_146 hrh_146 hl hS hD hP hsp; unfold lp_vm_scan_146 at hsp; cases hsp
    | succ n_146 ih_146 =>
      intro H locs ls z146 l1_146 l2_146 l3_146 l4_146 g102_146 g103_146 g104_146 g105_146 g106_146 g107_146 g108_146 g109_146 g110_146 g111_146 x114_146 x115_146 hfh_146_102 hfh_146_103 hfh_146_104 hfh_146_105 hfh_146_106 hfh_146_107 hfh_146_108 hfh_146_109 hfh_146_110 hfh_146_111 hfh_146_112 hfh_146_113 hfh_146_114 hfh_146_115 hlh_146 hrh_146 hl hS hD hP hsp
      unfold lp_vm_scan_146 at hsp
      try dsimp only at hsp
      refine lv_iload hx hb dX13_scan_146 (lv_at hl 0 rfl) ?_
      refine lv_iload_n hx hb dX13_scan_148 rfl (lv_at hl 3 rfl) ?_
      refine lv_icmp_gt (tgt := 183) hx hb dX13_scan_149 (by decide) (fun c_25 => ?_) (fun c_25 => ?_)
      · rw [if_pos c_25] at hsp
        exact hj_183 (H, locs, ls, z146, l1_146, l3_146, g102_146, g103_146, g104_146, g105_146, g106_146, g107_146, g108_146, g109_146, g110_146, g111_146, x114_146, x115_146) ⟨lv_sub hl [1, 2, 4] rfl, hS, hD.sub (ws' := [(h0, .inr (13, z146)), (qf103, .inl (cf103, 8, .inl g103_146)), (qf112, .inl (cf112, 6000, .inl f112)), (qf102, .inl (cf102, 2048, .inl g102_146)), (qf104, .inl (cf104, 8, .inl g104_146)), (qf105, .inl (cf105, 8, .inl g105_146)), (qf106, .inl (cf106, 8, .inl g106_146)), (qf107, .inl (cf107, 96, .inl g107_146)), (qf108, .inl (cf108, 8, .inl g108_146)), (qf109, .inl (cf109, 96, .inl g109_146)), (qf110, .inl (cf110, 96, .inl g110_146)), (qf111, .inl (cf111, 96, .inl g111_146))]) [0, 1, 2, 3, 4, 5, 6, 7, 8, 9, 10, 11] (by decide) rfl, hP.sub (ws' := [(h0, .inr (13, z146)), (qf103, .inl (cf103, 8, .inl g103_146)), (qf112, .inl (cf112, 6000, .inl f112)), (qf102, .inl (cf102, 2048, .inl g102_146)), (qf104, .inl (cf104, 8, .inl g104_146)), (qf105, .inl (cf105, 8, .inl g105_146)), (qf106, .inl (cf106, 8, .inl g106_146)), (qf107, .inl (cf107, 96, .inl g107_146)), (qf108, .inl (cf108, 8, .inl g108_146)), (qf109, .inl (cf109, 96, .inl g109_146)), (qf110, .inl (cf110, 96, .inl g110_146)), (qf111, .inl (cf111, 96, .inl g111_146))]) [0, 1, 2, 3, 4, 5, 6, 7, 8, 9, 10, 11] rfl, hfh_146_102, hfh_146_103, hfh_146_104, hfh_146_105, hfh_146_106, hfh_146_107, hfh_146_108, hfh_146_109, hfh_146_110, hfh_146_111, hfh_146_112, hfh_146_113, hfh_146_114, hfh_146_115, hlh_146, hrh_146, hsp⟩
      · rw [if_neg c_25] at hsp
        refine lv_aload_n hx hb dX13_scan_152 rfl (lv_at hl 1 rfl) ?_
        refine va_get (D := (dC, dI)) (ci := 13) (v := .int x114_146) (C := RX13) (T := TX13) (N := 155) hx hb hts uV_h9_X13 hown hK hP 0 rfl rfl 114 (by decide) (hts (.fieldLink RX13 764 "ClassMillModel" "form" "I") mw_h9_251) (fun _ h9 => h9) hfh_146_114 dX13_scan_153 ?_
        refine lv_iconst (v := (-1)) hx hb dX13_scan_156 (by decide) ?_
        refine lv_icmp_ne (tgt := 183) hx hb dX13_scan_157 (by decide) (fun c_26 => ?_) (fun c_26 => ?_)
        · rw [if_neg c_26] at hsp
          exact hj_183 (H, locs, ls, z146, l1_146, l3_146, g102_146, g103_146, g104_146, g105_146, g106_146, g107_146, g108_146, g109_146, g110_146, g111_146, x114_146, x115_146) ⟨lv_sub hl [1, 2, 4] rfl, hS, hD.sub (ws' := [(h0, .inr (13, z146)), (qf103, .inl (cf103, 8, .inl g103_146)), (qf112, .inl (cf112, 6000, .inl f112)), (qf102, .inl (cf102, 2048, .inl g102_146)), (qf104, .inl (cf104, 8, .inl g104_146)), (qf105, .inl (cf105, 8, .inl g105_146)), (qf106, .inl (cf106, 8, .inl g106_146)), (qf107, .inl (cf107, 96, .inl g107_146)), (qf108, .inl (cf108, 8, .inl g108_146)), (qf109, .inl (cf109, 96, .inl g109_146)), (qf110, .inl (cf110, 96, .inl g110_146)), (qf111, .inl (cf111, 96, .inl g111_146))]) [0, 1, 2, 3, 4, 5, 6, 7, 8, 9, 10, 11] (by decide) rfl, hP.sub (ws' := [(h0, .inr (13, z146)), (qf103, .inl (cf103, 8, .inl g103_146)), (qf112, .inl (cf112, 6000, .inl f112)), (qf102, .inl (cf102, 2048, .inl g102_146)), (qf104, .inl (cf104, 8, .inl g104_146)), (qf105, .inl (cf105, 8, .inl g105_146)), (qf106, .inl (cf106, 8, .inl g106_146)), (qf107, .inl (cf107, 96, .inl g107_146)), (qf108, .inl (cf108, 8, .inl g108_146)), (qf109, .inl (cf109, 96, .inl g109_146)), (qf110, .inl (cf110, 96, .inl g110_146)), (qf111, .inl (cf111, 96, .inl g111_146))]) [0, 1, 2, 3, 4, 5, 6, 7, 8, 9, 10, 11] rfl, hfh_146_102, hfh_146_103, hfh_146_104, hfh_146_105, hfh_146_106, hfh_146_107, hfh_146_108, hfh_146_109, hfh_146_110, hfh_146_111, hfh_146_112, hfh_146_113, hfh_146_114, hfh_146_115, hlh_146, hrh_146, hsp⟩
        · rw [if_pos c_26] at hsp
          refine lv_aload_n hx hb dX13_scan_160 rfl (lv_at hl 1 rfl) ?_
          refine lv_aload_n hx hb dX13_scan_161 rfl (lv_at hl 1 rfl) ?_
          refine va_get (D := (dC, dI)) (ci := 13) (v := .ref qf102) (C := RX13) (T := TX13) (N := 155) hx hb hts uV_h9_X13 hown hK hP 0 rfl rfl 102 (by decide) (hts (.fieldLink RX13 215 "ClassMillModel" "constantAt" "[I") mw_h9_267) (fun _ h9 => h9) hfh_146_102 dX13_scan_162 ?_
          refine lv_sipush (v := 256) hx hb dX13_scan_165 (by decide) ?_
          refine lv_iload_n hx hb dX13_scan_168 rfl (lv_at hl 2 rfl) ?_
          refine lv_imul hx hb dX13_scan_169 ?_
          refine lv_iload hx hb dX13_scan_170 (lv_at hl 0 rfl) ?_
          refine lv_iadd hx hb dX13_scan_172 ?_
          obtain ⟨hi_27, hsp⟩ := ox_in hsp
          refine va_iald hx hb hK hP 3 2 rfl rfl (i := ((256 * l1_146) + l4_146)) hi_27 dX13_scan_173 ?_
          obtain ⟨u8_0, hu_8, hsp⟩ := ox_bind hsp
          try dsimp only at hsp
          have hPc := hP.sub (ws' := [(h0, .inr (13, z146)), (qf112, .inl (cf112, 6000, .inl f112)), (qf103, .inl (cf103, 8, .inl g103_146)), (qf102, .inl (cf102, 2048, .inl g102_146))]) [0, 2, 1, 3] rfl
          have hDc := hD.sub (ws' := [(h0, .inr (13, z146)), (qf112, .inl (cf112, 6000, .inl f112)), (qf103, .inl (cf103, 8, .inl g103_146)), (qf102, .inl (cf102, 2048, .inl g102_146))]) [0, 2, 1, 3] (by decide) rfl
          have hKc := hK.sub (tys' := [(cf112, .int), (cf103, .int), (cf102, .int)]) [1, 0, 2] rfl
          have hFc := va_free (wc := [(h0, .inr (13, z146)), (qf112, .inl (cf112, 6000, .inl f112)), (qf103, .inl (cf103, 8, .inl g103_146)), (qf102, .inl (cf102, 2048, .inl g102_146))]) hD hS hA [0, 2, 1, 3] rfl
          refine va_callv (va_runV (As := [.int (g102_146 (((256 * l1_146) + l4_146) : Int32).toNatClampNeg)]) (rest := []) ⟨hx, hb, hml, hown, hts⟩ (vm_checkConstant l dC dI H.size h0 z146 ((g102_146 (((256 * l1_146) + l4_146) : Int32).toNatClampNeg)) qf102 qf103 qf112 x114_146 x115_146 cf112 f112 cf103 g103_146 cf102 g102_146 nf u8_0 hlh_146 hfh_146_102 hfh_146_103 hfh_146_112 hfh_146_114 hfh_146_115 hu_8) (cwV 1 hts gv_h9_86 rfl rfl rfl (by decide +kernel) ⟨Nat.le_of_ble_eq_true rfl, Nat.le_of_ble_eq_true rfl⟩) ⟨fun a U g mk q => by obtain ⟨q0, q1, qP, qK, qD⟩ := q; exact ⟨q0, q1, qP, va_K.moved (u := U) (U := U.calling g mk a) (Vm.Alike.refl U.vm) qK, qD⟩, va_recv hKc hPc (ci := 13) (q0 := 0) rfl rfl, fun U hU hW => ⟨rfl, by rw [hU], by rw [hU]; exact hPc, va_K.moved hW.alike hKc, hDc.weaken (fun _ _ _ _ => trivial)⟩⟩ rfl rfl hl.1 rfl (lv_room (Nat.le_of_ble_eq_true rfl)) dX13_scan_174 ⟨Nat.le_of_ble_eq_true rfl, Nat.le_of_ble_eq_true rfl⟩) hS (fun q _ h => hFc q h) hFc ?_
          clear hS
          intro u t H1 locs ht hvm hw hB hz1 hk1 hS
          obtain ⟨z_8, rfl⟩ : ∃ z, z = u := ⟨_, rfl⟩
          obtain ⟨hP1, hK1, hD1⟩ := hB
          rw [ht] at hP1
          have hK1 := va_K.moved hvm.symm hK1
          try dsimp only at hw
          have hPD := va_join (wr := [(qf104, .inl (cf104, 8, .inl g104_146)), (qf105, .inl (cf105, 8, .inl g105_146)), (qf106, .inl (cf106, 8, .inl g106_146)), (qf107, .inl (cf107, 96, .inl g107_146)), (qf108, .inl (cf108, 8, .inl g108_146)), (qf109, .inl (cf109, 96, .inl g109_146)), (qf110, .inl (cf110, 96, .inl g110_146)), (qf111, .inl (cf111, 96, .inl g111_146))]) (w1 := [(h0, .inr (13, z_8)), (qf112, .inl (cf112, 6000, .inl f112)), (qf103, .inl (cf103, 8, .inl g103_146)), (qf102, .inl (cf102, 2048, .inl g102_146))]) hP hD [0, 2, 1, 3] [4, 5, 6, 7, 8, 9, 10, 11] rfl rfl (by decide) (by decide) hk1 hFc hP1 hD1
          clear hP hD
          obtain ⟨hP, hD⟩ := hPD
          replace hK := (hK.sub (tys' := [(cf104, .int), (cf105, .int), (cf106, .int), (cf107, .int), (cf108, .int), (cf109, .int), (cf110, .int), (cf111, .int)]) [3, 4, 5, 6, 7, 8, 9, 10] rfl).app hK1
          clear hPc hDc hKc hFc hP1 hK1 hD1 hz1 hk1 ht hvm
          generalize H1 = H at hP hS ⊢
          replace hP : va_P (dC, dI) vwCl [(qf104, .inl (cf104, 8, .inl g104_146)), (qf105, .inl (cf105, 8, .inl g105_146)), (qf106, .inl (cf106, 8, .inl g106_146)), (qf107, .inl (cf107, 96, .inl g107_146)), (qf108, .inl (cf108, 8, .inl g108_146)), (qf109, .inl (cf109, 96, .inl g109_146)), (qf110, .inl (cf110, 96, .inl g110_146)), (qf111, .inl (cf111, 96, .inl g111_146)), (h0, .inr (13, z_8)), (qf112, .inl (cf112, 6000, .inl f112)), (qf103, .inl (cf103, 8, .inl g103_146)), (qf102, .inl (cf102, 2048, .inl g102_146))] H := hP
          replace hD : va_D A [(qf104, .inl (cf104, 8, .inl g104_146)), (qf105, .inl (cf105, 8, .inl g105_146)), (qf106, .inl (cf106, 8, .inl g106_146)), (qf107, .inl (cf107, 96, .inl g107_146)), (qf108, .inl (cf108, 8, .inl g108_146)), (qf109, .inl (cf109, 96, .inl g109_146)), (qf110, .inl (cf110, 96, .inl g110_146)), (qf111, .inl (cf111, 96, .inl g111_146)), (h0, .inr (13, z_8)), (qf112, .inl (cf112, 6000, .inl f112)), (qf103, .inl (cf103, 8, .inl g103_146)), (qf102, .inl (cf102, 2048, .inl g102_146))] := hD
          replace hK : va_K (dC, dI) vwCl [(cf104, .int), (cf105, .int), (cf106, .int), (cf107, .int), (cf108, .int), (cf109, .int), (cf110, .int), (cf111, .int), (cf112, .int), (cf103, .int), (cf102, .int)] s := hK
          obtain ⟨hwa_8, hln_8, hre_8, hch_8_114⟩ := hw
          have hfk_8_102 : z_8[102]? = some (.ref qf102) := (hre_8 102 (by decide)).trans (hfh_146_102)
          have hfk_8_103 : z_8[103]? = some (.ref qf103) := (hre_8 103 (by decide)).trans (hfh_146_103)
          have hfk_8_104 : z_8[104]? = some (.ref qf104) := (hre_8 104 (by decide)).trans (hfh_146_104)
          have hfk_8_105 : z_8[105]? = some (.ref qf105) := (hre_8 105 (by decide)).trans (hfh_146_105)
          have hfk_8_106 : z_8[106]? = some (.ref qf106) := (hre_8 106 (by decide)).trans (hfh_146_106)
          have hfk_8_107 : z_8[107]? = some (.ref qf107) := (hre_8 107 (by decide)).trans (hfh_146_107)
          have hfk_8_108 : z_8[108]? = some (.ref qf108) := (hre_8 108 (by decide)).trans (hfh_146_108)
          have hfk_8_109 : z_8[109]? = some (.ref qf109) := (hre_8 109 (by decide)).trans (hfh_146_109)
          have hfk_8_110 : z_8[110]? = some (.ref qf110) := (hre_8 110 (by decide)).trans (hfh_146_110)
          have hfk_8_111 : z_8[111]? = some (.ref qf111) := (hre_8 111 (by decide)).trans (hfh_146_111)
          have hfk_8_112 : z_8[112]? = some (.ref qf112) := (hre_8 112 (by decide)).trans (hfh_146_112)
          have hfk_8_113 : z_8[113]? = some (.int v113) := (hre_8 113 (by decide)).trans (hfh_146_113)
          have hfk_8_115 : z_8[115]? = some (.int x115_146) := (hre_8 115 (by decide)).trans (hfh_146_115)
          have hrq_8 : ∀ j : Nat, j ≠ 114 → j ≠ 115 → z_8[j]? = zs[j]? := fun j g114 g115 => (hre_8 j g114).trans (hrh_146 j g114 g115)
          refine lv_iinc (v := (l4_146 + 1)) (lv' := [(4, .int (l4_146 + 1)), (0, .ref h0), (1, .int l1_146), (2, .int l2_146), (3, .int l3_146)]) hx hb dX13_scan_177 hl (k := 0) rfl rfl (by decide) rfl (fun ls hl => ?_)
          refine lv_goto (tgt := 146) hx hb dX13_scan_180 (by decide) ?_
          exact ih_146 H locs ls z_8 l1_146 l2_146 l3_146 (l4_146 + 1) g102_146 g103_146 g104_146 g105_146 g106_146 g107_146 g108_146 g109_146 g110_146 g111_146 u8_0 x115_146 (hfk_8_102) (hfk_8_103) (hfk_8_104) (hfk_8_105) (hfk_8_106) (hfk_8_107) (hfk_8_108) (hfk_8_109) (hfk_8_110) (hfk_8_111) (hfk_8_112) (hfk_8_113) (hch_8_114) (hfk_8_115) hln_8 hrq_8 (lv_sub hl [0, 1, 2, 3, 4] rfl) hS (hD.sub (ws' := [(h0, .inr (13, z_8)), (qf103, .inl (cf103, 8, .inl g103_146)), (qf112, .inl (cf112, 6000, .inl f112)), (qf102, .inl (cf102, 2048, .inl g102_146)), (qf104, .inl (cf104, 8, .inl g104_146)), (qf105, .inl (cf105, 8, .inl g105_146)), (qf106, .inl (cf106, 8, .inl g106_146)), (qf107, .inl (cf107, 96, .inl g107_146)), (qf108, .inl (cf108, 8, .inl g108_146)), (qf109, .inl (cf109, 96, .inl g109_146)), (qf110, .inl (cf110, 96, .inl g110_146)), (qf111, .inl (cf111, 96, .inl g111_146))]) [8, 10, 9, 11, 0, 1, 2, 3, 4, 5, 6, 7] (by decide) rfl) (hP.sub (ws' := [(h0, .inr (13, z_8)), (qf103, .inl (cf103, 8, .inl g103_146)), (qf112, .inl (cf112, 6000, .inl f112)), (qf102, .inl (cf102, 2048, .inl g102_146)), (qf104, .inl (cf104, 8, .inl g104_146)), (qf105, .inl (cf105, 8, .inl g105_146)), (qf106, .inl (cf106, 8, .inl g106_146)), (qf107, .inl (cf107, 96, .inl g107_146)), (qf108, .inl (cf108, 8, .inl g108_146)), (qf109, .inl (cf109, 96, .inl g109_146)), (qf110, .inl (cf110, 96, .inl g110_146)), (qf111, .inl (cf111, 96, .inl g111_146))]) [8, 10, 9, 11, 0, 1, 2, 3, 4, 5, 6, 7] rfl) hsp
  intro hj_143
  refine jn_use (α := Heap × List Loc × Array Slot × List Value × Int32 × (Nat → Int32) × (Nat → Int32) × (Nat → Int32) × (Nat → Int32) × (Nat → Int32) × (Nat → Int32) × (Nat → Int32) × (Nat → Int32) × (Nat → Int32) × (Nat → Int32) × Int32 × Int32) (fun x9 => x9.1) (fun x9 => x9.2.1) (fun x9 => F0 m 65 x9.2.2.1 []) (fun x9 => match x9 with | (H, locs, ls, z65, l1_65, g102_65, g103_65, g104_65, g105_65, g106_65, g107_65, g108_65, g109_65, g110_65, g111_65, x114_65, x115_65) => lv_has ls 5 [(0, .ref h0), (1, .int l1_65)] ∧ va_S A s.heap H locs ∧ va_D A [(h0, .inr (13, z65)), (qf103, .inl (cf103, 8, .inl g103_65)), (qf112, .inl (cf112, 6000, .inl f112)), (qf102, .inl (cf102, 2048, .inl g102_65)), (qf104, .inl (cf104, 8, .inl g104_65)), (qf105, .inl (cf105, 8, .inl g105_65)), (qf106, .inl (cf106, 8, .inl g106_65)), (qf107, .inl (cf107, 96, .inl g107_65)), (qf108, .inl (cf108, 8, .inl g108_65)), (qf109, .inl (cf109, 96, .inl g109_65)), (qf110, .inl (cf110, 96, .inl g110_65)), (qf111, .inl (cf111, 96, .inl g111_65))] ∧ va_P (dC, dI) vwCl [(h0, .inr (13, z65)), (qf103, .inl (cf103, 8, .inl g103_65)), (qf112, .inl (cf112, 6000, .inl f112)), (qf102, .inl (cf102, 2048, .inl g102_65)), (qf104, .inl (cf104, 8, .inl g104_65)), (qf105, .inl (cf105, 8, .inl g105_65)), (qf106, .inl (cf106, 8, .inl g106_65)), (qf107, .inl (cf107, 96, .inl g107_65)), (qf108, .inl (cf108, 8, .inl g108_65)), (qf109, .inl (cf109, 96, .inl g109_65)), (qf110, .inl (cf110, 96, .inl g110_65)), (qf111, .inl (cf111, 96, .inl g111_65))] H ∧ z65[102]? = some (.ref qf102) ∧ z65[103]? = some (.ref qf103) ∧ z65[104]? = some (.ref qf104) ∧ z65[105]? = some (.ref qf105) ∧ z65[106]? = some (.ref qf106) ∧ z65[107]? = some (.ref qf107) ∧ z65[108]? = some (.ref qf108) ∧ z65[109]? = some (.ref qf109) ∧ z65[110]? = some (.ref qf110) ∧ z65[111]? = some (.ref qf111) ∧ z65[112]? = some (.ref qf112) ∧ z65[113]? = some (.int v113) ∧ z65[114]? = some (.int x114_65) ∧ z65[115]? = some (.int x115_65) ∧ z65.length = 155 ∧ (∀ j : Nat, j ≠ 114 → j ≠ 115 → z65[j]? = zs[j]?) ∧ jn_vm_scan_65 nf a1 v113 f103 f112 f102 f104 f105 f106 f107 f108 f109 f110 f111 l1_65 g102_65 g103_65 g104_65 g105_65 g106_65 g107_65 g108_65 g109_65 g110_65 g111_65 x114_65 x115_65 = some (o102, o103, o104, o105, o106, o107, o108, o109, o110, o111, w114, w115)) ?_ ?_
  · intro x9 hJ9
    obtain ⟨H, locs, ls, z65, l1_65, g102_65, g103_65, g104_65, g105_65, g106_65, g107_65, g108_65, g109_65, g110_65, g111_65, x114_65, x115_65⟩ := x9
    obtain ⟨hl, hS, hD, hP, hfh_65_102, hfh_65_103, hfh_65_104, hfh_65_105, hfh_65_106, hfh_65_107, hfh_65_108, hfh_65_109, hfh_65_110, hfh_65_111, hfh_65_112, hfh_65_113, hfh_65_114, hfh_65_115, hlh_65, hrh_65, hsp⟩ := hJ9
    replace hl : lv_has ls 5 [(0, .ref h0), (1, .int l1_65)] := hl
    replace hS : va_S A s.heap H locs := hS
    replace hD : va_D A [(h0, .inr (13, z65)), (qf103, .inl (cf103, 8, .inl g103_65)), (qf112, .inl (cf112, 6000, .inl f112)), (qf102, .inl (cf102, 2048, .inl g102_65)), (qf104, .inl (cf104, 8, .inl g104_65)), (qf105, .inl (cf105, 8, .inl g105_65)), (qf106, .inl (cf106, 8, .inl g106_65)), (qf107, .inl (cf107, 96, .inl g107_65)), (qf108, .inl (cf108, 8, .inl g108_65)), (qf109, .inl (cf109, 96, .inl g109_65)), (qf110, .inl (cf110, 96, .inl g110_65)), (qf111, .inl (cf111, 96, .inl g111_65))] := hD
    replace hP : va_P (dC, dI) vwCl [(h0, .inr (13, z65)), (qf103, .inl (cf103, 8, .inl g103_65)), (qf112, .inl (cf112, 6000, .inl f112)), (qf102, .inl (cf102, 2048, .inl g102_65)), (qf104, .inl (cf104, 8, .inl g104_65)), (qf105, .inl (cf105, 8, .inl g105_65)), (qf106, .inl (cf106, 8, .inl g106_65)), (qf107, .inl (cf107, 96, .inl g107_65)), (qf108, .inl (cf108, 8, .inl g108_65)), (qf109, .inl (cf109, 96, .inl g109_65)), (qf110, .inl (cf110, 96, .inl g110_65)), (qf111, .inl (cf111, 96, .inl g111_65))] H := hP
    replace hsp : jn_vm_scan_65 nf a1 v113 f103 f112 f102 f104 f105 f106 f107 f108 f109 f110 f111 l1_65 g102_65 g103_65 g104_65 g105_65 g106_65 g107_65 g108_65 g109_65 g110_65 g111_65 x114_65 x115_65 = some (o102, o103, o104, o105, o106, o107, o108, o109, o110, o111, w114, w115) := hsp
    show W _ _ _ _ _ _ _ _ _ _ H locs _ _ _ (F0 m 65 ls [])
    unfold jn_vm_scan_65 at hsp
    try dsimp only at hsp
    refine lv_aload_n hx hb dX13_scan_65 rfl (lv_at hl 0 rfl) ?_
    refine lv_iconst (v := 2) hx hb dX13_scan_66 (by decide) ?_
    obtain ⟨⟨u5_0, u5_1⟩, hu_5, hsp⟩ := ox_bind hsp
    try dsimp only at hsp
    have hPc := hP.sub (ws' := [(h0, .inr (13, z65))]) [0] rfl
    have hDc := hD.sub (ws' := [(h0, .inr (13, z65))]) [0] (by decide) rfl
    have hKc := hK.sub (tys' := []) [] rfl
    have hFc := va_free (wc := [(h0, .inr (13, z65))]) hD hS hA [0] rfl
    refine va_calli (va_runV (As := [.int 2]) (rest := []) ⟨hx, hb, hml, hown, hts⟩ (tm_isByte l dC dI H.size h0 z65 2 v113 x114_65 nf u5_0 u5_1 hlh_65 hfh_65_113 hfh_65_114 hu_5) (cwV 1 hts gv_h9_47 rfl rfl rfl (by decide +kernel) ⟨Nat.le_of_ble_eq_true rfl, Nat.le_of_ble_eq_true rfl⟩) ⟨fun a U g mk q => by obtain ⟨q0, q1, qP, qK, qD⟩ := q; exact ⟨q0, q1, qP, va_K.moved (u := U) (U := U.calling g mk a) (Vm.Alike.refl U.vm) qK, qD⟩, va_recv hKc hPc (ci := 13) (q0 := 0) rfl rfl, fun U hU hW => ⟨rfl, by rw [hU], by rw [hU]; exact hPc, va_K.moved hW.alike hKc, hDc.weaken (fun _ _ _ _ => trivial)⟩⟩ rfl rfl hl.1 rfl (lv_room (Nat.le_of_ble_eq_true rfl)) dX13_scan_67 ⟨Nat.le_of_ble_eq_true rfl, Nat.le_of_ble_eq_true rfl⟩) hS (fun q _ h => hFc q h) hFc ?_
    clear hS
    intro r_14 u t H1 locs ht hvm hw hB hz1 hk1 hS
    obtain ⟨z_5, rfl⟩ : ∃ z, z = u := ⟨_, rfl⟩
    obtain ⟨hP1, hK1, hD1⟩ := hB
    rw [ht] at hP1
    have hK1 := va_K.moved hvm.symm hK1
    try dsimp only at hw
    have hPD := va_join (wr := [(qf103, .inl (cf103, 8, .inl g103_65)), (qf112, .inl (cf112, 6000, .inl f112)), (qf102, .inl (cf102, 2048, .inl g102_65)), (qf104, .inl (cf104, 8, .inl g104_65)), (qf105, .inl (cf105, 8, .inl g105_65)), (qf106, .inl (cf106, 8, .inl g106_65)), (qf107, .inl (cf107, 96, .inl g107_65)), (qf108, .inl (cf108, 8, .inl g108_65)), (qf109, .inl (cf109, 96, .inl g109_65)), (qf110, .inl (cf110, 96, .inl g110_65)), (qf111, .inl (cf111, 96, .inl g111_65))]) (w1 := [(h0, .inr (13, z_5))]) hP hD [0] [1, 2, 3, 4, 5, 6, 7, 8, 9, 10, 11] rfl rfl (by decide) (by decide) hk1 hFc hP1 hD1
    clear hP hD
    obtain ⟨hP, hD⟩ := hPD
    replace hK := (hK.sub (tys' := [(cf103, .int), (cf112, .int), (cf102, .int), (cf104, .int), (cf105, .int), (cf106, .int), (cf107, .int), (cf108, .int), (cf109, .int), (cf110, .int), (cf111, .int)]) [0, 1, 2, 3, 4, 5, 6, 7, 8, 9, 10] rfl).app hK1
    clear hPc hDc hKc hFc hP1 hK1 hD1 hz1 hk1 ht hvm
    generalize H1 = H at hP hS ⊢
    replace hP : va_P (dC, dI) vwCl [(qf103, .inl (cf103, 8, .inl g103_65)), (qf112, .inl (cf112, 6000, .inl f112)), (qf102, .inl (cf102, 2048, .inl g102_65)), (qf104, .inl (cf104, 8, .inl g104_65)), (qf105, .inl (cf105, 8, .inl g105_65)), (qf106, .inl (cf106, 8, .inl g106_65)), (qf107, .inl (cf107, 96, .inl g107_65)), (qf108, .inl (cf108, 8, .inl g108_65)), (qf109, .inl (cf109, 96, .inl g109_65)), (qf110, .inl (cf110, 96, .inl g110_65)), (qf111, .inl (cf111, 96, .inl g111_65)), (h0, .inr (13, z_5))] H := hP
    replace hD : va_D A [(qf103, .inl (cf103, 8, .inl g103_65)), (qf112, .inl (cf112, 6000, .inl f112)), (qf102, .inl (cf102, 2048, .inl g102_65)), (qf104, .inl (cf104, 8, .inl g104_65)), (qf105, .inl (cf105, 8, .inl g105_65)), (qf106, .inl (cf106, 8, .inl g106_65)), (qf107, .inl (cf107, 96, .inl g107_65)), (qf108, .inl (cf108, 8, .inl g108_65)), (qf109, .inl (cf109, 96, .inl g109_65)), (qf110, .inl (cf110, 96, .inl g110_65)), (qf111, .inl (cf111, 96, .inl g111_65)), (h0, .inr (13, z_5))] := hD
    replace hK : va_K (dC, dI) vwCl [(cf103, .int), (cf112, .int), (cf102, .int), (cf104, .int), (cf105, .int), (cf106, .int), (cf107, .int), (cf108, .int), (cf109, .int), (cf110, .int), (cf111, .int)] s := hK
    obtain ⟨hwa_5, hln_5, hre_5, hch_5_114⟩ := hw
    have hfk_5_102 : z_5[102]? = some (.ref qf102) := (hre_5 102 (by decide)).trans (hfh_65_102)
    have hfk_5_103 : z_5[103]? = some (.ref qf103) := (hre_5 103 (by decide)).trans (hfh_65_103)
    have hfk_5_104 : z_5[104]? = some (.ref qf104) := (hre_5 104 (by decide)).trans (hfh_65_104)
    have hfk_5_105 : z_5[105]? = some (.ref qf105) := (hre_5 105 (by decide)).trans (hfh_65_105)
    have hfk_5_106 : z_5[106]? = some (.ref qf106) := (hre_5 106 (by decide)).trans (hfh_65_106)
    have hfk_5_107 : z_5[107]? = some (.ref qf107) := (hre_5 107 (by decide)).trans (hfh_65_107)
    have hfk_5_108 : z_5[108]? = some (.ref qf108) := (hre_5 108 (by decide)).trans (hfh_65_108)
    have hfk_5_109 : z_5[109]? = some (.ref qf109) := (hre_5 109 (by decide)).trans (hfh_65_109)
    have hfk_5_110 : z_5[110]? = some (.ref qf110) := (hre_5 110 (by decide)).trans (hfh_65_110)
    have hfk_5_111 : z_5[111]? = some (.ref qf111) := (hre_5 111 (by decide)).trans (hfh_65_111)
    have hfk_5_112 : z_5[112]? = some (.ref qf112) := (hre_5 112 (by decide)).trans (hfh_65_112)
    have hfk_5_113 : z_5[113]? = some (.int v113) := (hre_5 113 (by decide)).trans (hfh_65_113)
    have hfk_5_115 : z_5[115]? = some (.int x115_65) := (hre_5 115 (by decide)).trans (hfh_65_115)
    have hrq_5 : ∀ j : Nat, j ≠ 114 → j ≠ 115 → z_5[j]? = zs[j]? := fun j g114 g115 => (hre_5 j g114).trans (hrh_65 j g114 g115)
    obtain ⟨rfl, hz_5⟩ := hwa_5
    rcases hz_5 with rfl | rfl
    · rw [if_pos rfl] at hsp
      refine lv_if_ne (tgt := 74) hx hb dX13_scan_70 (by decide) (fun c_15 => (show False by revert c_15; decide).elim) (fun c_15 => ?_)
      have hr0 := Option.some.inj hsp
      clear hsp
      obtain ⟨hq0, hr1⟩ := Prod.mk.inj hr0
      clear hr0
      obtain ⟨hq1, hr2⟩ := Prod.mk.inj hr1
      clear hr1
      obtain ⟨hq2, hr3⟩ := Prod.mk.inj hr2
      clear hr2
      obtain ⟨hq3, hr4⟩ := Prod.mk.inj hr3
      clear hr3
      obtain ⟨hq4, hr5⟩ := Prod.mk.inj hr4
      clear hr4
      obtain ⟨hq5, hr6⟩ := Prod.mk.inj hr5
      clear hr5
      obtain ⟨hq6, hr7⟩ := Prod.mk.inj hr6
      clear hr6
      obtain ⟨hq7, hr8⟩ := Prod.mk.inj hr7
      clear hr7
      obtain ⟨hq8, hr9⟩ := Prod.mk.inj hr8
      clear hr8
      obtain ⟨hq9, hr10⟩ := Prod.mk.inj hr9
      clear hr9
      obtain ⟨hq10, hr11⟩ := Prod.mk.inj hr10
      clear hr10
      subst hq0
      subst hq1
      subst hq2
      subst hq3
      subst hq4
      subst hq5
      subst hq6
      subst hq7
      subst hq8
      subst hq9
      subst hq10
      subst hr11
      have hP9 := hP.sub (ws' := [(h0, .inr (13, z_5)), (qf103, .inl (cf103, 8, .inl g103_65)), (qf112, .inl (cf112, 6000, .inl f112)), (qf102, .inl (cf102, 2048, .inl g102_65)), (qf104, .inl (cf104, 8, .inl g104_65)), (qf105, .inl (cf105, 8, .inl g105_65)), (qf106, .inl (cf106, 8, .inl g106_65)), (qf107, .inl (cf107, 96, .inl g107_65)), (qf108, .inl (cf108, 8, .inl g108_65)), (qf109, .inl (cf109, 96, .inl g109_65)), (qf110, .inl (cf110, 96, .inl g110_65)), (qf111, .inl (cf111, 96, .inl g111_65))]) [11, 0, 1, 2, 3, 4, 5, 6, 7, 8, 9, 10] rfl
      have hD9 := hD.sub (ws' := [(h0, .inr (13, z_5)), (qf103, .inl (cf103, 8, .inl g103_65)), (qf112, .inl (cf112, 6000, .inl f112)), (qf102, .inl (cf102, 2048, .inl g102_65)), (qf104, .inl (cf104, 8, .inl g104_65)), (qf105, .inl (cf105, 8, .inl g105_65)), (qf106, .inl (cf106, 8, .inl g106_65)), (qf107, .inl (cf107, 96, .inl g107_65)), (qf108, .inl (cf108, 8, .inl g108_65)), (qf109, .inl (cf109, 96, .inl g109_65)), (qf110, .inl (cf110, 96, .inl g110_65)), (qf111, .inl (cf111, 96, .inl g111_65))]) [11, 0, 1, 2, 3, 4, 5, 6, 7, 8, 9, 10] (by decide) rfl
      have hK9 := hK.sub (tys' := [(cf103, .int), (cf112, .int), (cf102, .int), (cf104, .int), (cf105, .int), (cf106, .int), (cf107, .int), (cf108, .int), (cf109, .int), (cf110, .int), (cf111, .int)]) [0, 1, 2, 3, 4, 5, 6, 7, 8, 9, 10] rfl
      exact W.vret hx hb hr (fun t ht hW => ⟨⟨(z_5), rfl, ⟨trivial, hln_5, hrq_5, hch_5_114, hfk_5_115⟩, by rw [ht]; exact hP9, va_K.moved hW.alike hK9, hD9⟩, hS.F ht⟩) hS.2.2 dX13_scan_73
    · rw [if_neg (by decide)] at hsp
      refine lv_if_ne (tgt := 74) hx hb dX13_scan_70 (by decide) (fun c_16 => ?_) (fun c_16 => (show False by revert c_16; decide).elim)
      refine lv_aload_n hx hb dX13_scan_74 rfl (lv_at hl 0 rfl) ?_
      refine va_get (D := (dC, dI)) (ci := 13) (v := .ref qf112) (C := RX13) (T := TX13) (N := 155) hx hb hts uV_h9_X13 hown hK hP 11 rfl rfl 112 (by decide) (hts (.fieldLink RX13 245 "ClassMillModel" "look" "[I") mw_h9_242) (fun _ h9 => h9) hfk_5_112 dX13_scan_75 ?_
      refine lv_iconst (v := 2) hx hb dX13_scan_78 (by decide) ?_
      refine va_iald hx hb hK hP 1 1 rfl rfl (i := 2) (by unfold vp_in; decide) dX13_scan_79 ?_
      refine lv_istore_n (lv' := [(2, .int (f112 (2 : Int32).toNatClampNeg)), (0, .ref h0), (1, .int l1_65)]) hx hb dX13_scan_80 rfl hl (by decide) rfl (fun ls hl => ?_)
      refine lv_iconst (v := 3) hx hb dX13_scan_81 (by decide) ?_
      refine lv_istore_n (lv' := [(3, .int 3), (2, .int (f112 (2 : Int32).toNatClampNeg)), (0, .ref h0), (1, .int l1_65)]) hx hb dX13_scan_82 rfl hl (by decide) rfl (fun ls hl => ?_)
      refine lv_iconst (v := 1) hx hb dX13_scan_83 (by decide) ?_
      refine lv_istore (lv' := [(4, .int 1), (3, .int 3), (2, .int (f112 (2 : Int32).toNatClampNeg)), (0, .ref h0), (1, .int l1_65)]) hx hb dX13_scan_84 hl (by decide) rfl (fun ls hl => ?_)
      replace hl : lv_has ls 5 [(4, .int 1), (3, .int 3), (2, .int (f112 (2 : Int32).toNatClampNeg)), (0, .ref h0), (1, .int l1_65)] := lv_sub hl [0, 1, 2, 3, 4] rfl
      replace hP := hP.sub (ws' := [(h0, .inr (13, z_5)), (qf103, .inl (cf103, 8, .inl g103_65)), (qf112, .inl (cf112, 6000, .inl f112)), (qf102, .inl (cf102, 2048, .inl g102_65)), (qf104, .inl (cf104, 8, .inl g104_65)), (qf105, .inl (cf105, 8, .inl g105_65)), (qf106, .inl (cf106, 8, .inl g106_65)), (qf107, .inl (cf107, 96, .inl g107_65)), (qf108, .inl (cf108, 8, .inl g108_65)), (qf109, .inl (cf109, 96, .inl g109_65)), (qf110, .inl (cf110, 96, .inl g110_65)), (qf111, .inl (cf111, 96, .inl g111_65))]) [11, 0, 1, 2, 3, 4, 5, 6, 7, 8, 9, 10] rfl
      replace hD := hD.sub (ws' := [(h0, .inr (13, z_5)), (qf103, .inl (cf103, 8, .inl g103_65)), (qf112, .inl (cf112, 6000, .inl f112)), (qf102, .inl (cf102, 2048, .inl g102_65)), (qf104, .inl (cf104, 8, .inl g104_65)), (qf105, .inl (cf105, 8, .inl g105_65)), (qf106, .inl (cf106, 8, .inl g106_65)), (qf107, .inl (cf107, 96, .inl g107_65)), (qf108, .inl (cf108, 8, .inl g108_65)), (qf109, .inl (cf109, 96, .inl g109_65)), (qf110, .inl (cf110, 96, .inl g110_65)), (qf111, .inl (cf111, 96, .inl g111_65))]) [11, 0, 1, 2, 3, 4, 5, 6, 7, 8, 9, 10] (by decide) rfl
      replace hK := hK.sub (tys' := [(cf103, .int), (cf112, .int), (cf102, .int), (cf104, .int), (cf105, .int), (cf106, .int), (cf107, .int), (cf108, .int), (cf109, .int), (cf110, .int), (cf111, .int)]) [0, 1, 2, 3, 4, 5, 6, 7, 8, 9, 10] rfl
      obtain ⟨n_86, hn_86⟩ : ∃ z : Nat, z = nf := ⟨_, rfl⟩
      obtain ⟨l1_86, el1_86⟩ : ∃ z : Int32, z = l1_65 := ⟨_, rfl⟩
      obtain ⟨l2_86, el2_86⟩ : ∃ z : Int32, z = (f112 (2 : Int32).toNatClampNeg) := ⟨_, rfl⟩
      obtain ⟨l3_86, el3_86⟩ : ∃ z : Int32, z = 3 := ⟨_, rfl⟩
      obtain ⟨l4_86, el4_86⟩ : ∃ z : Int32, z = 1 := ⟨_, rfl⟩
      obtain ⟨g102_86, eg102_86⟩ : ∃ z : Nat → Int32, z = g102_65 := ⟨_, rfl⟩
      obtain ⟨g103_86, eg103_86⟩ : ∃ z : Nat → Int32, z = g103_65 := ⟨_, rfl⟩
      obtain ⟨g104_86, eg104_86⟩ : ∃ z : Nat → Int32, z = g104_65 := ⟨_, rfl⟩
      obtain ⟨g105_86, eg105_86⟩ : ∃ z : Nat → Int32, z = g105_65 := ⟨_, rfl⟩
      obtain ⟨g106_86, eg106_86⟩ : ∃ z : Nat → Int32, z = g106_65 := ⟨_, rfl⟩
      obtain ⟨g107_86, eg107_86⟩ : ∃ z : Nat → Int32, z = g107_65 := ⟨_, rfl⟩
      obtain ⟨g108_86, eg108_86⟩ : ∃ z : Nat → Int32, z = g108_65 := ⟨_, rfl⟩
      obtain ⟨g109_86, eg109_86⟩ : ∃ z : Nat → Int32, z = g109_65 := ⟨_, rfl⟩
      obtain ⟨g110_86, eg110_86⟩ : ∃ z : Nat → Int32, z = g110_65 := ⟨_, rfl⟩
      obtain ⟨g111_86, eg111_86⟩ : ∃ z : Nat → Int32, z = g111_65 := ⟨_, rfl⟩
      obtain ⟨x114_86, ex114_86⟩ : ∃ z : Int32, z = u5_1 := ⟨_, rfl⟩
      obtain ⟨x115_86, ex115_86⟩ : ∃ z : Int32, z = x115_65 := ⟨_, rfl⟩
      replace hsp : lp_vm_scan_86 nf n_86 a1 v113 f103 f112 f102 f104 f105 f106 f107 f108 f109 f110 f111 l1_86 l2_86 l3_86 l4_86 g102_86 g103_86 g104_86 g105_86 g106_86 g107_86 g108_86 g109_86 g110_86 g111_86 x114_86 x115_86 = some (o102, o103, o104, o105, o106, o107, o108, o109, o110, o111, w114, w115) := by rw [hn_86, el1_86, el2_86, el3_86, el4_86, eg102_86, eg103_86, eg104_86, eg105_86, eg106_86, eg107_86, eg108_86, eg109_86, eg110_86, eg111_86, ex114_86, ex115_86]; exact hsp
      replace hl : lv_has ls 5 [(4, .int l4_86), (3, .int l3_86), (2, .int l2_86), (0, .ref h0), (1, .int l1_86)] := by rw [el1_86, el2_86, el3_86, el4_86]; exact hl
      obtain ⟨z86, ez86⟩ : ∃ z : List Value, z = z_5 := ⟨_, rfl⟩
      have hfh_86_102 : z86[102]? = some (.ref qf102) := by rw [ez86]; exact hfk_5_102
      have hfh_86_103 : z86[103]? = some (.ref qf103) := by rw [ez86]; exact hfk_5_103
      have hfh_86_104 : z86[104]? = some (.ref qf104) := by rw [ez86]; exact hfk_5_104
      have hfh_86_105 : z86[105]? = some (.ref qf105) := by rw [ez86]; exact hfk_5_105
      have hfh_86_106 : z86[106]? = some (.ref qf106) := by rw [ez86]; exact hfk_5_106
      have hfh_86_107 : z86[107]? = some (.ref qf107) := by rw [ez86]; exact hfk_5_107
      have hfh_86_108 : z86[108]? = some (.ref qf108) := by rw [ez86]; exact hfk_5_108
      have hfh_86_109 : z86[109]? = some (.ref qf109) := by rw [ez86]; exact hfk_5_109
      have hfh_86_110 : z86[110]? = some (.ref qf110) := by rw [ez86]; exact hfk_5_110
      have hfh_86_111 : z86[111]? = some (.ref qf111) := by rw [ez86]; exact hfk_5_111
      have hfh_86_112 : z86[112]? = some (.ref qf112) := by rw [ez86]; exact hfk_5_112
      have hfh_86_113 : z86[113]? = some (.int v113) := by rw [ez86]; exact hfk_5_113
      have hfh_86_114 : z86[114]? = some (.int x114_86) := by rw [ez86, ex114_86]; exact hch_5_114
      have hfh_86_115 : z86[115]? = some (.int x115_86) := by rw [ez86, ex115_86]; exact hfk_5_115
      have hlh_86 : z86.length = 155 := by rw [ez86]; exact hln_5
      have hrh_86 : ∀ j : Nat, j ≠ 114 → j ≠ 115 → z86[j]? = zs[j]? := by rw [ez86]; exact hrq_5
      replace hP : va_P (dC, dI) vwCl [(h0, .inr (13, z86)), (qf103, .inl (cf103, 8, .inl g103_86)), (qf112, .inl (cf112, 6000, .inl f112)), (qf102, .inl (cf102, 2048, .inl g102_86)), (qf104, .inl (cf104, 8, .inl g104_86)), (qf105, .inl (cf105, 8, .inl g105_86)), (qf106, .inl (cf106, 8, .inl g106_86)), (qf107, .inl (cf107, 96, .inl g107_86)), (qf108, .inl (cf108, 8, .inl g108_86)), (qf109, .inl (cf109, 96, .inl g109_86)), (qf110, .inl (cf110, 96, .inl g110_86)), (qf111, .inl (cf111, 96, .inl g111_86))] H := by rw [ez86, eg102_86, eg103_86, eg104_86, eg105_86, eg106_86, eg107_86, eg108_86, eg109_86, eg110_86, eg111_86]; exact hP
      replace hD : va_D A [(h0, .inr (13, z86)), (qf103, .inl (cf103, 8, .inl g103_86)), (qf112, .inl (cf112, 6000, .inl f112)), (qf102, .inl (cf102, 2048, .inl g102_86)), (qf104, .inl (cf104, 8, .inl g104_86)), (qf105, .inl (cf105, 8, .inl g105_86)), (qf106, .inl (cf106, 8, .inl g106_86)), (qf107, .inl (cf107, 96, .inl g107_86)), (qf108, .inl (cf108, 8, .inl g108_86)), (qf109, .inl (cf109, 96, .inl g109_86)), (qf110, .inl (cf110, 96, .inl g110_86)), (qf111, .inl (cf111, 96, .inl g111_86))] := by rw [ez86, eg102_86, eg103_86, eg104_86, eg105_86, eg106_86, eg107_86, eg108_86, eg109_86, eg110_86, eg111_86]; exact hD
      clear hn_86 ez86 el1_86 el2_86 el3_86 el4_86 eg102_86 eg103_86 eg104_86 eg105_86 eg106_86 eg107_86 eg108_86 eg109_86 eg110_86 eg111_86 ex114_86 ex115_86
      try clear hlo
      try clear hH
      revert hsp
      revert hP
      revert hD
      revert hS
      revert hl
      revert hrh_86
      revert hlh_86
      revert hfh_86_115
      revert hfh_86_114
      revert hfh_86_113
      revert hfh_86_112
      revert hfh_86_111
      revert hfh_86_110
      revert hfh_86_109
      revert hfh_86_108
      revert hfh_86_107
      revert hfh_86_106
      revert hfh_86_105
      revert hfh_86_104
      revert hfh_86_103
      revert hfh_86_102
      revert x115_86
      revert x114_86
      revert g111_86
      revert g110_86
      revert g109_86
      revert g108_86
      revert g107_86
      revert g106_86
      revert g105_86
      revert g104_86
      revert g103_86
      revert g102_86
      revert l4_86
      revert l3_86
      revert l2_86
      revert l1_86
      revert z86
      revert ls
      revert locs
      revert H
      induction n_86 with
      | zero => intro H locs ls z86 l1_86 l2_86 l3_86 l4_86 g102_86 g103_86 g104_86 g105_86 g106_86 g107_86 g108_86 g109_86 g110_86 g111_86 x114_86 x115_86 hfh_86_102 hfh_86_103 hfh_86_104 hfh_86_105 hfh_86_106 hfh_86_107 hfh_86_108 hfh_86_109 hfh_86_110 hfh_86_111 hfh_86_112 hfh_86_113 hfh_86_114 hfh_86_115 hlh_86 hrh_86 hl hS hD hP hsp; unfold lp_vm_scan_86 at hsp; cases hsp
      | succ n_86 ih_86 =>
        intro H locs ls z86 l1_86 l2_86 l3_86 l4_86 g102_86 g103_86 g104_86 g105_86 g106_86 g107_86 g108_86 g109_86 g110_86 g111_86 x114_86 x115_86 hfh_86_102 hfh_86_103 hfh_86_104 hfh_86_105 hfh_86_106 hfh_86_107 hfh_86_108 hfh_86_109 hfh_86_110 hfh_86_111 hfh_86_112 hfh_86_113 hfh_86_114 hfh_86_115 hlh_86 hrh_86 hl hS hD hP hsp
        unfold lp_vm_scan_86 at hsp
        try dsimp only at hsp
        refine lv_iload hx hb dX13_scan_86 (lv_at hl 0 rfl) ?_
        refine lv_iload_n hx hb dX13_scan_88 rfl (lv_at hl 2 rfl) ?_
        refine lv_icmp_gt (tgt := 143) hx hb dX13_scan_89 (by decide) (fun c_17 => ?_) (fun c_17 => ?_)
        · rw [if_pos c_17] at hsp
          exact hj_143 (H, locs, ls, z86, l1_86, l2_86, l3_86, g102_86, g103_86, g104_86, g105_86, g106_86, g107_86, g108_86, g109_86, g110_86, g111_86, x114_86, x115_86) ⟨lv_sub hl [3, 4, 2, 1] rfl, hS, hD.sub (ws' := [(h0, .inr (13, z86)), (qf103, .inl (cf103, 8, .inl g103_86)), (qf112, .inl (cf112, 6000, .inl f112)), (qf102, .inl (cf102, 2048, .inl g102_86)), (qf104, .inl (cf104, 8, .inl g104_86)), (qf105, .inl (cf105, 8, .inl g105_86)), (qf106, .inl (cf106, 8, .inl g106_86)), (qf107, .inl (cf107, 96, .inl g107_86)), (qf108, .inl (cf108, 8, .inl g108_86)), (qf109, .inl (cf109, 96, .inl g109_86)), (qf110, .inl (cf110, 96, .inl g110_86)), (qf111, .inl (cf111, 96, .inl g111_86))]) [0, 1, 2, 3, 4, 5, 6, 7, 8, 9, 10, 11] (by decide) rfl, hP.sub (ws' := [(h0, .inr (13, z86)), (qf103, .inl (cf103, 8, .inl g103_86)), (qf112, .inl (cf112, 6000, .inl f112)), (qf102, .inl (cf102, 2048, .inl g102_86)), (qf104, .inl (cf104, 8, .inl g104_86)), (qf105, .inl (cf105, 8, .inl g105_86)), (qf106, .inl (cf106, 8, .inl g106_86)), (qf107, .inl (cf107, 96, .inl g107_86)), (qf108, .inl (cf108, 8, .inl g108_86)), (qf109, .inl (cf109, 96, .inl g109_86)), (qf110, .inl (cf110, 96, .inl g110_86)), (qf111, .inl (cf111, 96, .inl g111_86))]) [0, 1, 2, 3, 4, 5, 6, 7, 8, 9, 10, 11] rfl, hfh_86_102, hfh_86_103, hfh_86_104, hfh_86_105, hfh_86_106, hfh_86_107, hfh_86_108, hfh_86_109, hfh_86_110, hfh_86_111, hfh_86_112, hfh_86_113, hfh_86_114, hfh_86_115, hlh_86, hrh_86, hsp⟩
        · rw [if_neg c_17] at hsp
          refine lv_aload_n hx hb dX13_scan_92 rfl (lv_at hl 3 rfl) ?_
          refine va_get (D := (dC, dI)) (ci := 13) (v := .int x114_86) (C := RX13) (T := TX13) (N := 155) hx hb hts uV_h9_X13 hown hK hP 0 rfl rfl 114 (by decide) (hts (.fieldLink RX13 764 "ClassMillModel" "form" "I") mw_h9_251) (fun _ h9 => h9) hfh_86_114 dX13_scan_93 ?_
          refine lv_iconst (v := (-1)) hx hb dX13_scan_96 (by decide) ?_
          refine lv_icmp_ne (tgt := 143) hx hb dX13_scan_97 (by decide) (fun c_18 => ?_) (fun c_18 => ?_)
          · rw [if_neg c_18] at hsp
            exact hj_143 (H, locs, ls, z86, l1_86, l2_86, l3_86, g102_86, g103_86, g104_86, g105_86, g106_86, g107_86, g108_86, g109_86, g110_86, g111_86, x114_86, x115_86) ⟨lv_sub hl [3, 4, 2, 1] rfl, hS, hD.sub (ws' := [(h0, .inr (13, z86)), (qf103, .inl (cf103, 8, .inl g103_86)), (qf112, .inl (cf112, 6000, .inl f112)), (qf102, .inl (cf102, 2048, .inl g102_86)), (qf104, .inl (cf104, 8, .inl g104_86)), (qf105, .inl (cf105, 8, .inl g105_86)), (qf106, .inl (cf106, 8, .inl g106_86)), (qf107, .inl (cf107, 96, .inl g107_86)), (qf108, .inl (cf108, 8, .inl g108_86)), (qf109, .inl (cf109, 96, .inl g109_86)), (qf110, .inl (cf110, 96, .inl g110_86)), (qf111, .inl (cf111, 96, .inl g111_86))]) [0, 1, 2, 3, 4, 5, 6, 7, 8, 9, 10, 11] (by decide) rfl, hP.sub (ws' := [(h0, .inr (13, z86)), (qf103, .inl (cf103, 8, .inl g103_86)), (qf112, .inl (cf112, 6000, .inl f112)), (qf102, .inl (cf102, 2048, .inl g102_86)), (qf104, .inl (cf104, 8, .inl g104_86)), (qf105, .inl (cf105, 8, .inl g105_86)), (qf106, .inl (cf106, 8, .inl g106_86)), (qf107, .inl (cf107, 96, .inl g107_86)), (qf108, .inl (cf108, 8, .inl g108_86)), (qf109, .inl (cf109, 96, .inl g109_86)), (qf110, .inl (cf110, 96, .inl g110_86)), (qf111, .inl (cf111, 96, .inl g111_86))]) [0, 1, 2, 3, 4, 5, 6, 7, 8, 9, 10, 11] rfl, hfh_86_102, hfh_86_103, hfh_86_104, hfh_86_105, hfh_86_106, hfh_86_107, hfh_86_108, hfh_86_109, hfh_86_110, hfh_86_111, hfh_86_112, hfh_86_113, hfh_86_114, hfh_86_115, hlh_86, hrh_86, hsp⟩
          · rw [if_pos c_18] at hsp
            refine lv_aload_n hx hb dX13_scan_100 rfl (lv_at hl 3 rfl) ?_
            refine lv_iload_n hx hb dX13_scan_101 rfl (lv_at hl 1 rfl) ?_
            obtain ⟨⟨u6_0, u6_1⟩, hu_6, hsp⟩ := ox_bind hsp
            try dsimp only at hsp
            have hPc := hP.sub (ws' := [(h0, .inr (13, z86))]) [0] rfl
            have hDc := hD.sub (ws' := [(h0, .inr (13, z86))]) [0] (by decide) rfl
            have hKc := hK.sub (tys' := []) [] rfl
            have hFc := va_free (wc := [(h0, .inr (13, z86))]) hD hS hA [0] rfl
            refine va_calli (va_runV (As := [.int l3_86]) (rest := []) ⟨hx, hb, hml, hown, hts⟩ (tm_isByte l dC dI H.size h0 z86 l3_86 v113 x114_86 nf u6_0 u6_1 hlh_86 hfh_86_113 hfh_86_114 hu_6) (cwV 1 hts gv_h9_47 rfl rfl rfl (by decide +kernel) ⟨Nat.le_of_ble_eq_true rfl, Nat.le_of_ble_eq_true rfl⟩) ⟨fun a U g mk q => by obtain ⟨q0, q1, qP, qK, qD⟩ := q; exact ⟨q0, q1, qP, va_K.moved (u := U) (U := U.calling g mk a) (Vm.Alike.refl U.vm) qK, qD⟩, va_recv hKc hPc (ci := 13) (q0 := 0) rfl rfl, fun U hU hW => ⟨rfl, by rw [hU], by rw [hU]; exact hPc, va_K.moved hW.alike hKc, hDc.weaken (fun _ _ _ _ => trivial)⟩⟩ rfl rfl hl.1 rfl (lv_room (Nat.le_of_ble_eq_true rfl)) dX13_scan_102 ⟨Nat.le_of_ble_eq_true rfl, Nat.le_of_ble_eq_true rfl⟩) hS (fun q _ h => hFc q h) hFc ?_
            clear hS
            intro r_19 u t H1 locs ht hvm hw hB hz1 hk1 hS
            obtain ⟨z_6, rfl⟩ : ∃ z, z = u := ⟨_, rfl⟩
            obtain ⟨hP1, hK1, hD1⟩ := hB
            rw [ht] at hP1
            have hK1 := va_K.moved hvm.symm hK1
            try dsimp only at hw
            have hPD := va_join (wr := [(qf103, .inl (cf103, 8, .inl g103_86)), (qf112, .inl (cf112, 6000, .inl f112)), (qf102, .inl (cf102, 2048, .inl g102_86)), (qf104, .inl (cf104, 8, .inl g104_86)), (qf105, .inl (cf105, 8, .inl g105_86)), (qf106, .inl (cf106, 8, .inl g106_86)), (qf107, .inl (cf107, 96, .inl g107_86)), (qf108, .inl (cf108, 8, .inl g108_86)), (qf109, .inl (cf109, 96, .inl g109_86)), (qf110, .inl (cf110, 96, .inl g110_86)), (qf111, .inl (cf111, 96, .inl g111_86))]) (w1 := [(h0, .inr (13, z_6))]) hP hD [0] [1, 2, 3, 4, 5, 6, 7, 8, 9, 10, 11] rfl rfl (by decide) (by decide) hk1 hFc hP1 hD1
            clear hP hD
            obtain ⟨hP, hD⟩ := hPD
            replace hK := (hK.sub (tys' := [(cf103, .int), (cf112, .int), (cf102, .int), (cf104, .int), (cf105, .int), (cf106, .int), (cf107, .int), (cf108, .int), (cf109, .int), (cf110, .int), (cf111, .int)]) [0, 1, 2, 3, 4, 5, 6, 7, 8, 9, 10] rfl).app hK1
            clear hPc hDc hKc hFc hP1 hK1 hD1 hz1 hk1 ht hvm
            generalize H1 = H at hP hS ⊢
            replace hP : va_P (dC, dI) vwCl [(qf103, .inl (cf103, 8, .inl g103_86)), (qf112, .inl (cf112, 6000, .inl f112)), (qf102, .inl (cf102, 2048, .inl g102_86)), (qf104, .inl (cf104, 8, .inl g104_86)), (qf105, .inl (cf105, 8, .inl g105_86)), (qf106, .inl (cf106, 8, .inl g106_86)), (qf107, .inl (cf107, 96, .inl g107_86)), (qf108, .inl (cf108, 8, .inl g108_86)), (qf109, .inl (cf109, 96, .inl g109_86)), (qf110, .inl (cf110, 96, .inl g110_86)), (qf111, .inl (cf111, 96, .inl g111_86)), (h0, .inr (13, z_6))] H := hP
            replace hD : va_D A [(qf103, .inl (cf103, 8, .inl g103_86)), (qf112, .inl (cf112, 6000, .inl f112)), (qf102, .inl (cf102, 2048, .inl g102_86)), (qf104, .inl (cf104, 8, .inl g104_86)), (qf105, .inl (cf105, 8, .inl g105_86)), (qf106, .inl (cf106, 8, .inl g106_86)), (qf107, .inl (cf107, 96, .inl g107_86)), (qf108, .inl (cf108, 8, .inl g108_86)), (qf109, .inl (cf109, 96, .inl g109_86)), (qf110, .inl (cf110, 96, .inl g110_86)), (qf111, .inl (cf111, 96, .inl g111_86)), (h0, .inr (13, z_6))] := hD
            replace hK : va_K (dC, dI) vwCl [(cf103, .int), (cf112, .int), (cf102, .int), (cf104, .int), (cf105, .int), (cf106, .int), (cf107, .int), (cf108, .int), (cf109, .int), (cf110, .int), (cf111, .int)] s := hK
            obtain ⟨hwa_6, hln_6, hre_6, hch_6_114⟩ := hw
            have hfk_6_102 : z_6[102]? = some (.ref qf102) := (hre_6 102 (by decide)).trans (hfh_86_102)
            have hfk_6_103 : z_6[103]? = some (.ref qf103) := (hre_6 103 (by decide)).trans (hfh_86_103)
            have hfk_6_104 : z_6[104]? = some (.ref qf104) := (hre_6 104 (by decide)).trans (hfh_86_104)
            have hfk_6_105 : z_6[105]? = some (.ref qf105) := (hre_6 105 (by decide)).trans (hfh_86_105)
            have hfk_6_106 : z_6[106]? = some (.ref qf106) := (hre_6 106 (by decide)).trans (hfh_86_106)
            have hfk_6_107 : z_6[107]? = some (.ref qf107) := (hre_6 107 (by decide)).trans (hfh_86_107)
            have hfk_6_108 : z_6[108]? = some (.ref qf108) := (hre_6 108 (by decide)).trans (hfh_86_108)
            have hfk_6_109 : z_6[109]? = some (.ref qf109) := (hre_6 109 (by decide)).trans (hfh_86_109)
            have hfk_6_110 : z_6[110]? = some (.ref qf110) := (hre_6 110 (by decide)).trans (hfh_86_110)
            have hfk_6_111 : z_6[111]? = some (.ref qf111) := (hre_6 111 (by decide)).trans (hfh_86_111)
            have hfk_6_112 : z_6[112]? = some (.ref qf112) := (hre_6 112 (by decide)).trans (hfh_86_112)
            have hfk_6_113 : z_6[113]? = some (.int v113) := (hre_6 113 (by decide)).trans (hfh_86_113)
            have hfk_6_115 : z_6[115]? = some (.int x115_86) := (hre_6 115 (by decide)).trans (hfh_86_115)
            have hrq_6 : ∀ j : Nat, j ≠ 114 → j ≠ 115 → z_6[j]? = zs[j]? := fun j g114 g115 => (hre_6 j g114).trans (hrh_86 j g114 g115)
            obtain ⟨rfl, hz_6⟩ := hwa_6
            rcases hz_6 with rfl | rfl
            · rw [if_pos rfl] at hsp
              refine lv_if_ne (tgt := 109) hx hb dX13_scan_105 (by decide) (fun c_20 => (show False by revert c_20; decide).elim) (fun c_20 => ?_)
              have hr0 := Option.some.inj hsp
              clear hsp
              obtain ⟨hq0, hr1⟩ := Prod.mk.inj hr0
              clear hr0
              obtain ⟨hq1, hr2⟩ := Prod.mk.inj hr1
              clear hr1
              obtain ⟨hq2, hr3⟩ := Prod.mk.inj hr2
              clear hr2
              obtain ⟨hq3, hr4⟩ := Prod.mk.inj hr3
              clear hr3
              obtain ⟨hq4, hr5⟩ := Prod.mk.inj hr4
              clear hr4
              obtain ⟨hq5, hr6⟩ := Prod.mk.inj hr5
              clear hr5
              obtain ⟨hq6, hr7⟩ := Prod.mk.inj hr6
              clear hr6
              obtain ⟨hq7, hr8⟩ := Prod.mk.inj hr7
              clear hr7
              obtain ⟨hq8, hr9⟩ := Prod.mk.inj hr8
              clear hr8
              obtain ⟨hq9, hr10⟩ := Prod.mk.inj hr9
              clear hr9
              obtain ⟨hq10, hr11⟩ := Prod.mk.inj hr10
              clear hr10
              subst hq0
              subst hq1
              subst hq2
              subst hq3
              subst hq4
              subst hq5
              subst hq6
              subst hq7
              subst hq8
              subst hq9
              subst hq10
              subst hr11
              have hP9 := hP.sub (ws' := [(h0, .inr (13, z_6)), (qf103, .inl (cf103, 8, .inl g103_86)), (qf112, .inl (cf112, 6000, .inl f112)), (qf102, .inl (cf102, 2048, .inl g102_86)), (qf104, .inl (cf104, 8, .inl g104_86)), (qf105, .inl (cf105, 8, .inl g105_86)), (qf106, .inl (cf106, 8, .inl g106_86)), (qf107, .inl (cf107, 96, .inl g107_86)), (qf108, .inl (cf108, 8, .inl g108_86)), (qf109, .inl (cf109, 96, .inl g109_86)), (qf110, .inl (cf110, 96, .inl g110_86)), (qf111, .inl (cf111, 96, .inl g111_86))]) [11, 0, 1, 2, 3, 4, 5, 6, 7, 8, 9, 10] rfl
              have hD9 := hD.sub (ws' := [(h0, .inr (13, z_6)), (qf103, .inl (cf103, 8, .inl g103_86)), (qf112, .inl (cf112, 6000, .inl f112)), (qf102, .inl (cf102, 2048, .inl g102_86)), (qf104, .inl (cf104, 8, .inl g104_86)), (qf105, .inl (cf105, 8, .inl g105_86)), (qf106, .inl (cf106, 8, .inl g106_86)), (qf107, .inl (cf107, 96, .inl g107_86)), (qf108, .inl (cf108, 8, .inl g108_86)), (qf109, .inl (cf109, 96, .inl g109_86)), (qf110, .inl (cf110, 96, .inl g110_86)), (qf111, .inl (cf111, 96, .inl g111_86))]) [11, 0, 1, 2, 3, 4, 5, 6, 7, 8, 9, 10] (by decide) rfl
              have hK9 := hK.sub (tys' := [(cf103, .int), (cf112, .int), (cf102, .int), (cf104, .int), (cf105, .int), (cf106, .int), (cf107, .int), (cf108, .int), (cf109, .int), (cf110, .int), (cf111, .int)]) [0, 1, 2, 3, 4, 5, 6, 7, 8, 9, 10] rfl
              exact W.vret hx hb hr (fun t ht hW => ⟨⟨(z_6), rfl, ⟨trivial, hln_6, hrq_6, hch_6_114, hfk_6_115⟩, by rw [ht]; exact hP9, va_K.moved hW.alike hK9, hD9⟩, hS.F ht⟩) hS.2.2 dX13_scan_108
            · rw [if_neg (by decide)] at hsp
              refine lv_if_ne (tgt := 109) hx hb dX13_scan_105 (by decide) (fun c_21 => ?_) (fun c_21 => (show False by revert c_21; decide).elim)
              refine lv_aload_n hx hb dX13_scan_109 rfl (lv_at hl 3 rfl) ?_
              refine va_get (D := (dC, dI)) (ci := 13) (v := .ref qf102) (C := RX13) (T := TX13) (N := 155) hx hb hts uV_h9_X13 hown hK hP 11 rfl rfl 102 (by decide) (hts (.fieldLink RX13 215 "ClassMillModel" "constantAt" "[I") mw_h9_267) (fun _ h9 => h9) hfk_6_102 dX13_scan_110 ?_
              refine lv_sipush (v := 256) hx hb dX13_scan_113 (by decide) ?_
              refine lv_iload_n hx hb dX13_scan_116 rfl (lv_at hl 4 rfl) ?_
              refine lv_imul hx hb dX13_scan_117 ?_
              refine lv_iload hx hb dX13_scan_118 (lv_at hl 0 rfl) ?_
              refine lv_iadd hx hb dX13_scan_120 ?_
              refine lv_iload_n hx hb dX13_scan_121 rfl (lv_at hl 1 rfl) ?_
              obtain ⟨hi_22, hsp⟩ := ox_in hsp
              refine va_iast hx hb hK hP hD hS 2 2 rfl rfl (i := ((256 * l1_86) + l4_86)) (x := l3_86) hi_22 dX13_scan_122 ?_
              clear hP hD hS
              intro H locs hP hD hS
              replace hP : va_P (dC, dI) vwCl [(qf103, .inl (cf103, 8, .inl g103_86)), (qf112, .inl (cf112, 6000, .inl f112)), (qf102, .inl (cf102, 2048, .inl (upd g102_86 (((256 * l1_86) + l4_86) : Int32).toNatClampNeg l3_86))), (qf104, .inl (cf104, 8, .inl g104_86)), (qf105, .inl (cf105, 8, .inl g105_86)), (qf106, .inl (cf106, 8, .inl g106_86)), (qf107, .inl (cf107, 96, .inl g107_86)), (qf108, .inl (cf108, 8, .inl g108_86)), (qf109, .inl (cf109, 96, .inl g109_86)), (qf110, .inl (cf110, 96, .inl g110_86)), (qf111, .inl (cf111, 96, .inl g111_86)), (h0, .inr (13, z_6))] H := hP
              replace hD : va_D A [(qf103, .inl (cf103, 8, .inl g103_86)), (qf112, .inl (cf112, 6000, .inl f112)), (qf102, .inl (cf102, 2048, .inl (upd g102_86 (((256 * l1_86) + l4_86) : Int32).toNatClampNeg l3_86))), (qf104, .inl (cf104, 8, .inl g104_86)), (qf105, .inl (cf105, 8, .inl g105_86)), (qf106, .inl (cf106, 8, .inl g106_86)), (qf107, .inl (cf107, 96, .inl g107_86)), (qf108, .inl (cf108, 8, .inl g108_86)), (qf109, .inl (cf109, 96, .inl g109_86)), (qf110, .inl (cf110, 96, .inl g110_86)), (qf111, .inl (cf111, 96, .inl g111_86)), (h0, .inr (13, z_6))] := hD
              refine lv_aload_n hx hb dX13_scan_123 rfl (lv_at hl 3 rfl) ?_
              refine va_get (D := (dC, dI)) (ci := 13) (v := .ref qf103) (C := RX13) (T := TX13) (N := 155) hx hb hts uV_h9_X13 hown hK hP 11 rfl rfl 103 (by decide) (hts (.fieldLink RX13 218 "ClassMillModel" "constantMany" "[I") mw_h9_278) (fun _ h9 => h9) hfk_6_103 dX13_scan_124 ?_
              refine lv_iload_n hx hb dX13_scan_127 rfl (lv_at hl 4 rfl) ?_
              refine lv_iload hx hb dX13_scan_128 (lv_at hl 0 rfl) ?_
              obtain ⟨hi_23, hsp⟩ := ox_in hsp
              refine va_iast hx hb hK hP hD hS 0 0 rfl rfl (i := l1_86) (x := l4_86) hi_23 dX13_scan_130 ?_
              clear hP hD hS
              intro H locs hP hD hS
              replace hP : va_P (dC, dI) vwCl [(qf103, .inl (cf103, 8, .inl (upd g103_86 (l1_86 : Int32).toNatClampNeg l4_86))), (qf112, .inl (cf112, 6000, .inl f112)), (qf102, .inl (cf102, 2048, .inl (upd g102_86 (((256 * l1_86) + l4_86) : Int32).toNatClampNeg l3_86))), (qf104, .inl (cf104, 8, .inl g104_86)), (qf105, .inl (cf105, 8, .inl g105_86)), (qf106, .inl (cf106, 8, .inl g106_86)), (qf107, .inl (cf107, 96, .inl g107_86)), (qf108, .inl (cf108, 8, .inl g108_86)), (qf109, .inl (cf109, 96, .inl g109_86)), (qf110, .inl (cf110, 96, .inl g110_86)), (qf111, .inl (cf111, 96, .inl g111_86)), (h0, .inr (13, z_6))] H := hP
              replace hD : va_D A [(qf103, .inl (cf103, 8, .inl (upd g103_86 (l1_86 : Int32).toNatClampNeg l4_86))), (qf112, .inl (cf112, 6000, .inl f112)), (qf102, .inl (cf102, 2048, .inl (upd g102_86 (((256 * l1_86) + l4_86) : Int32).toNatClampNeg l3_86))), (qf104, .inl (cf104, 8, .inl g104_86)), (qf105, .inl (cf105, 8, .inl g105_86)), (qf106, .inl (cf106, 8, .inl g106_86)), (qf107, .inl (cf107, 96, .inl g107_86)), (qf108, .inl (cf108, 8, .inl g108_86)), (qf109, .inl (cf109, 96, .inl g109_86)), (qf110, .inl (cf110, 96, .inl g110_86)), (qf111, .inl (cf111, 96, .inl g111_86)), (h0, .inr (13, z_6))] := hD
              refine lv_aload_n hx hb dX13_scan_131 rfl (lv_at hl 3 rfl) ?_
              refine lv_iload_n hx hb dX13_scan_132 rfl (lv_at hl 1 rfl) ?_
              obtain ⟨⟨u7_0, u7_1⟩, hu_7, hsp⟩ := ox_bind hsp
              try dsimp only at hsp
              have hPc := hP.sub (ws' := [(h0, .inr (13, z_6)), (qf112, .inl (cf112, 6000, .inl f112))]) [11, 1] rfl
              have hDc := hD.sub (ws' := [(h0, .inr (13, z_6)), (qf112, .inl (cf112, 6000, .inl f112))]) [11, 1] (by decide) rfl
              have hKc := hK.sub (tys' := [(cf112, .int)]) [1] rfl
              have hFc := va_free (wc := [(h0, .inr (13, z_6)), (qf112, .inl (cf112, 6000, .inl f112))]) hD hS hA [11, 1] rfl
              refine va_calli (va_runV (As := [.int l3_86]) (rest := []) ⟨hx, hb, hml, hown, hts⟩ (vm_scanConstant l dC dI H.size h0 z_6 l3_86 qf112 v113 u6_1 cf112 f112 nf u7_0 u7_1 hln_6 hfk_6_112 hfk_6_113 hch_6_114 hu_7) (cwV 1 hts gv_h9_85 rfl rfl rfl (by decide +kernel) ⟨Nat.le_of_ble_eq_true rfl, Nat.le_of_ble_eq_true rfl⟩) ⟨fun a U g mk q => by obtain ⟨q0, q1, qP, qK, qD⟩ := q; exact ⟨q0, q1, qP, va_K.moved (u := U) (U := U.calling g mk a) (Vm.Alike.refl U.vm) qK, qD⟩, va_recv hKc hPc (ci := 13) (q0 := 0) rfl rfl, fun U hU hW => ⟨rfl, by rw [hU], by rw [hU]; exact hPc, va_K.moved hW.alike hKc, hDc.weaken (fun _ _ _ _ => trivial)⟩⟩ rfl rfl hl.1 rfl (lv_room (Nat.le_of_ble_eq_true rfl)) dX13_scan_133 ⟨Nat.le_of_ble_eq_true rfl, Nat.le_of_ble_eq_true rfl⟩) hS (fun q _ h => hFc q h) hFc ?_
              clear hS
              intro r_24 u t H1 locs ht hvm hw hB hz1 hk1 hS
              obtain ⟨z_7, rfl⟩ : ∃ z, z = u := ⟨_, rfl⟩
              obtain ⟨hP1, hK1, hD1⟩ := hB
              rw [ht] at hP1
              have hK1 := va_K.moved hvm.symm hK1
              try dsimp only at hw
              have hPD := va_join (wr := [(qf103, .inl (cf103, 8, .inl (upd g103_86 (l1_86 : Int32).toNatClampNeg l4_86))), (qf102, .inl (cf102, 2048, .inl (upd g102_86 (((256 * l1_86) + l4_86) : Int32).toNatClampNeg l3_86))), (qf104, .inl (cf104, 8, .inl g104_86)), (qf105, .inl (cf105, 8, .inl g105_86)), (qf106, .inl (cf106, 8, .inl g106_86)), (qf107, .inl (cf107, 96, .inl g107_86)), (qf108, .inl (cf108, 8, .inl g108_86)), (qf109, .inl (cf109, 96, .inl g109_86)), (qf110, .inl (cf110, 96, .inl g110_86)), (qf111, .inl (cf111, 96, .inl g111_86))]) (w1 := [(h0, .inr (13, z_7)), (qf112, .inl (cf112, 6000, .inl f112))]) hP hD [11, 1] [0, 2, 3, 4, 5, 6, 7, 8, 9, 10] rfl rfl (by decide) (by decide) hk1 hFc hP1 hD1
              clear hP hD
              obtain ⟨hP, hD⟩ := hPD
              replace hK := (hK.sub (tys' := [(cf103, .int), (cf102, .int), (cf104, .int), (cf105, .int), (cf106, .int), (cf107, .int), (cf108, .int), (cf109, .int), (cf110, .int), (cf111, .int)]) [0, 2, 3, 4, 5, 6, 7, 8, 9, 10] rfl).app hK1
              clear hPc hDc hKc hFc hP1 hK1 hD1 hz1 hk1 ht hvm
              generalize H1 = H at hP hS ⊢
              replace hP : va_P (dC, dI) vwCl [(qf103, .inl (cf103, 8, .inl (upd g103_86 (l1_86 : Int32).toNatClampNeg l4_86))), (qf102, .inl (cf102, 2048, .inl (upd g102_86 (((256 * l1_86) + l4_86) : Int32).toNatClampNeg l3_86))), (qf104, .inl (cf104, 8, .inl g104_86)), (qf105, .inl (cf105, 8, .inl g105_86)), (qf106, .inl (cf106, 8, .inl g106_86)), (qf107, .inl (cf107, 96, .inl g107_86)), (qf108, .inl (cf108, 8, .inl g108_86)), (qf109, .inl (cf109, 96, .inl g109_86)), (qf110, .inl (cf110, 96, .inl g110_86)), (qf111, .inl (cf111, 96, .inl g111_86)), (h0, .inr (13, z_7)), (qf112, .inl (cf112, 6000, .inl f112))] H := hP
              replace hD : va_D A [(qf103, .inl (cf103, 8, .inl (upd g103_86 (l1_86 : Int32).toNatClampNeg l4_86))), (qf102, .inl (cf102, 2048, .inl (upd g102_86 (((256 * l1_86) + l4_86) : Int32).toNatClampNeg l3_86))), (qf104, .inl (cf104, 8, .inl g104_86)), (qf105, .inl (cf105, 8, .inl g105_86)), (qf106, .inl (cf106, 8, .inl g106_86)), (qf107, .inl (cf107, 96, .inl g107_86)), (qf108, .inl (cf108, 8, .inl g108_86)), (qf109, .inl (cf109, 96, .inl g109_86)), (qf110, .inl (cf110, 96, .inl g110_86)), (qf111, .inl (cf111, 96, .inl g111_86)), (h0, .inr (13, z_7)), (qf112, .inl (cf112, 6000, .inl f112))] := hD
              replace hK : va_K (dC, dI) vwCl [(cf103, .int), (cf102, .int), (cf104, .int), (cf105, .int), (cf106, .int), (cf107, .int), (cf108, .int), (cf109, .int), (cf110, .int), (cf111, .int), (cf112, .int)] s := hK
              obtain ⟨hwa_7, hln_7, hre_7, hch_7_114⟩ := hw
              have hfk_7_102 : z_7[102]? = some (.ref qf102) := (hre_7 102 (by decide)).trans (hfk_6_102)
              have hfk_7_103 : z_7[103]? = some (.ref qf103) := (hre_7 103 (by decide)).trans (hfk_6_103)
              have hfk_7_104 : z_7[104]? = some (.ref qf104) := (hre_7 104 (by decide)).trans (hfk_6_104)
              have hfk_7_105 : z_7[105]? = some (.ref qf105) := (hre_7 105 (by decide)).trans (hfk_6_105)
              have hfk_7_106 : z_7[106]? = some (.ref qf106) := (hre_7 106 (by decide)).trans (hfk_6_106)
              have hfk_7_107 : z_7[107]? = some (.ref qf107) := (hre_7 107 (by decide)).trans (hfk_6_107)
              have hfk_7_108 : z_7[108]? = some (.ref qf108) := (hre_7 108 (by decide)).trans (hfk_6_108)
              have hfk_7_109 : z_7[109]? = some (.ref qf109) := (hre_7 109 (by decide)).trans (hfk_6_109)
              have hfk_7_110 : z_7[110]? = some (.ref qf110) := (hre_7 110 (by decide)).trans (hfk_6_110)
              have hfk_7_111 : z_7[111]? = some (.ref qf111) := (hre_7 111 (by decide)).trans (hfk_6_111)
              have hfk_7_112 : z_7[112]? = some (.ref qf112) := (hre_7 112 (by decide)).trans (hfk_6_112)
              have hfk_7_113 : z_7[113]? = some (.int v113) := (hre_7 113 (by decide)).trans (hfk_6_113)
              have hfk_7_115 : z_7[115]? = some (.int x115_86) := (hre_7 115 (by decide)).trans (hfk_6_115)
              have hrq_7 : ∀ j : Nat, j ≠ 114 → j ≠ 115 → z_7[j]? = zs[j]? := fun j g114 g115 => (hre_7 j g114).trans (hrq_6 j g114 g115)
              obtain rfl := hwa_7
              refine lv_istore_n (lv' := [(3, .int u7_0), (4, .int l4_86), (2, .int l2_86), (0, .ref h0), (1, .int l1_86)]) hx hb dX13_scan_136 rfl hl (by decide) rfl (fun ls hl => ?_)
              refine lv_iinc (v := (l4_86 + 1)) (lv' := [(4, .int (l4_86 + 1)), (3, .int u7_0), (2, .int l2_86), (0, .ref h0), (1, .int l1_86)]) hx hb dX13_scan_137 hl (k := 1) rfl rfl (by decide) rfl (fun ls hl => ?_)
              refine lv_goto (tgt := 86) hx hb dX13_scan_140 (by decide) ?_
              exact ih_86 H locs ls z_7 l1_86 l2_86 u7_0 (l4_86 + 1) (upd g102_86 (((256 * l1_86) + l4_86) : Int32).toNatClampNeg l3_86) (upd g103_86 (l1_86 : Int32).toNatClampNeg l4_86) g104_86 g105_86 g106_86 g107_86 g108_86 g109_86 g110_86 g111_86 u7_1 x115_86 (hfk_7_102) (hfk_7_103) (hfk_7_104) (hfk_7_105) (hfk_7_106) (hfk_7_107) (hfk_7_108) (hfk_7_109) (hfk_7_110) (hfk_7_111) (hfk_7_112) (hfk_7_113) (hch_7_114) (hfk_7_115) hln_7 hrq_7 (lv_sub hl [0, 1, 2, 3, 4] rfl) hS (hD.sub (ws' := [(h0, .inr (13, z_7)), (qf103, .inl (cf103, 8, .inl (upd g103_86 (l1_86 : Int32).toNatClampNeg l4_86))), (qf112, .inl (cf112, 6000, .inl f112)), (qf102, .inl (cf102, 2048, .inl (upd g102_86 (((256 * l1_86) + l4_86) : Int32).toNatClampNeg l3_86))), (qf104, .inl (cf104, 8, .inl g104_86)), (qf105, .inl (cf105, 8, .inl g105_86)), (qf106, .inl (cf106, 8, .inl g106_86)), (qf107, .inl (cf107, 96, .inl g107_86)), (qf108, .inl (cf108, 8, .inl g108_86)), (qf109, .inl (cf109, 96, .inl g109_86)), (qf110, .inl (cf110, 96, .inl g110_86)), (qf111, .inl (cf111, 96, .inl g111_86))]) [10, 0, 11, 1, 2, 3, 4, 5, 6, 7, 8, 9] (by decide) rfl) (hP.sub (ws' := [(h0, .inr (13, z_7)), (qf103, .inl (cf103, 8, .inl (upd g103_86 (l1_86 : Int32).toNatClampNeg l4_86))), (qf112, .inl (cf112, 6000, .inl f112)), (qf102, .inl (cf102, 2048, .inl (upd g102_86 (((256 * l1_86) + l4_86) : Int32).toNatClampNeg l3_86))), (qf104, .inl (cf104, 8, .inl g104_86)), (qf105, .inl (cf105, 8, .inl g105_86)), (qf106, .inl (cf106, 8, .inl g106_86)), (qf107, .inl (cf107, 96, .inl g107_86)), (qf108, .inl (cf108, 8, .inl g108_86)), (qf109, .inl (cf109, 96, .inl g109_86)), (qf110, .inl (cf110, 96, .inl g110_86)), (qf111, .inl (cf111, 96, .inl g111_86))]) [10, 0, 11, 1, 2, 3, 4, 5, 6, 7, 8, 9] rfl) hsp
  intro hj_65
  refine jn_use (α := Heap × List Loc × Array Slot × List Value × Int32 × (Nat → Int32) × (Nat → Int32) × (Nat → Int32) × (Nat → Int32) × (Nat → Int32) × (Nat → Int32) × (Nat → Int32) × (Nat → Int32) × (Nat → Int32) × (Nat → Int32) × Int32 × Int32) (fun x9 => x9.1) (fun x9 => x9.2.1) (fun x9 => F0 m 41 x9.2.2.1 []) (fun x9 => match x9 with | (H, locs, ls, z41, l1_41, g102_41, g103_41, g104_41, g105_41, g106_41, g107_41, g108_41, g109_41, g110_41, g111_41, x114_41, x115_41) => lv_has ls 5 [(0, .ref h0), (1, .int l1_41)] ∧ va_S A s.heap H locs ∧ va_D A [(h0, .inr (13, z41)), (qf103, .inl (cf103, 8, .inl g103_41)), (qf112, .inl (cf112, 6000, .inl f112)), (qf102, .inl (cf102, 2048, .inl g102_41)), (qf104, .inl (cf104, 8, .inl g104_41)), (qf105, .inl (cf105, 8, .inl g105_41)), (qf106, .inl (cf106, 8, .inl g106_41)), (qf107, .inl (cf107, 96, .inl g107_41)), (qf108, .inl (cf108, 8, .inl g108_41)), (qf109, .inl (cf109, 96, .inl g109_41)), (qf110, .inl (cf110, 96, .inl g110_41)), (qf111, .inl (cf111, 96, .inl g111_41))] ∧ va_P (dC, dI) vwCl [(h0, .inr (13, z41)), (qf103, .inl (cf103, 8, .inl g103_41)), (qf112, .inl (cf112, 6000, .inl f112)), (qf102, .inl (cf102, 2048, .inl g102_41)), (qf104, .inl (cf104, 8, .inl g104_41)), (qf105, .inl (cf105, 8, .inl g105_41)), (qf106, .inl (cf106, 8, .inl g106_41)), (qf107, .inl (cf107, 96, .inl g107_41)), (qf108, .inl (cf108, 8, .inl g108_41)), (qf109, .inl (cf109, 96, .inl g109_41)), (qf110, .inl (cf110, 96, .inl g110_41)), (qf111, .inl (cf111, 96, .inl g111_41))] H ∧ z41[102]? = some (.ref qf102) ∧ z41[103]? = some (.ref qf103) ∧ z41[104]? = some (.ref qf104) ∧ z41[105]? = some (.ref qf105) ∧ z41[106]? = some (.ref qf106) ∧ z41[107]? = some (.ref qf107) ∧ z41[108]? = some (.ref qf108) ∧ z41[109]? = some (.ref qf109) ∧ z41[110]? = some (.ref qf110) ∧ z41[111]? = some (.ref qf111) ∧ z41[112]? = some (.ref qf112) ∧ z41[113]? = some (.int v113) ∧ z41[114]? = some (.int x114_41) ∧ z41[115]? = some (.int x115_41) ∧ z41.length = 155 ∧ (∀ j : Nat, j ≠ 114 → j ≠ 115 → z41[j]? = zs[j]?) ∧ jn_vm_scan_41 nf a1 v113 f103 f112 f102 f104 f105 f106 f107 f108 f109 f110 f111 l1_41 g102_41 g103_41 g104_41 g105_41 g106_41 g107_41 g108_41 g109_41 g110_41 g111_41 x114_41 x115_41 = some (o102, o103, o104, o105, o106, o107, o108, o109, o110, o111, w114, w115)) ?_ ?_
  · intro x9 hJ9
    obtain ⟨H, locs, ls, z41, l1_41, g102_41, g103_41, g104_41, g105_41, g106_41, g107_41, g108_41, g109_41, g110_41, g111_41, x114_41, x115_41⟩ := x9
    obtain ⟨hl, hS, hD, hP, hfh_41_102, hfh_41_103, hfh_41_104, hfh_41_105, hfh_41_106, hfh_41_107, hfh_41_108, hfh_41_109, hfh_41_110, hfh_41_111, hfh_41_112, hfh_41_113, hfh_41_114, hfh_41_115, hlh_41, hrh_41, hsp⟩ := hJ9
    replace hl : lv_has ls 5 [(0, .ref h0), (1, .int l1_41)] := hl
    replace hS : va_S A s.heap H locs := hS
    replace hD : va_D A [(h0, .inr (13, z41)), (qf103, .inl (cf103, 8, .inl g103_41)), (qf112, .inl (cf112, 6000, .inl f112)), (qf102, .inl (cf102, 2048, .inl g102_41)), (qf104, .inl (cf104, 8, .inl g104_41)), (qf105, .inl (cf105, 8, .inl g105_41)), (qf106, .inl (cf106, 8, .inl g106_41)), (qf107, .inl (cf107, 96, .inl g107_41)), (qf108, .inl (cf108, 8, .inl g108_41)), (qf109, .inl (cf109, 96, .inl g109_41)), (qf110, .inl (cf110, 96, .inl g110_41)), (qf111, .inl (cf111, 96, .inl g111_41))] := hD
    replace hP : va_P (dC, dI) vwCl [(h0, .inr (13, z41)), (qf103, .inl (cf103, 8, .inl g103_41)), (qf112, .inl (cf112, 6000, .inl f112)), (qf102, .inl (cf102, 2048, .inl g102_41)), (qf104, .inl (cf104, 8, .inl g104_41)), (qf105, .inl (cf105, 8, .inl g105_41)), (qf106, .inl (cf106, 8, .inl g106_41)), (qf107, .inl (cf107, 96, .inl g107_41)), (qf108, .inl (cf108, 8, .inl g108_41)), (qf109, .inl (cf109, 96, .inl g109_41)), (qf110, .inl (cf110, 96, .inl g110_41)), (qf111, .inl (cf111, 96, .inl g111_41))] H := hP
    replace hsp : jn_vm_scan_41 nf a1 v113 f103 f112 f102 f104 f105 f106 f107 f108 f109 f110 f111 l1_41 g102_41 g103_41 g104_41 g105_41 g106_41 g107_41 g108_41 g109_41 g110_41 g111_41 x114_41 x115_41 = some (o102, o103, o104, o105, o106, o107, o108, o109, o110, o111, w114, w115) := hsp
    show W _ _ _ _ _ _ _ _ _ _ H locs _ _ _ (F0 m 41 ls [])
    unfold jn_vm_scan_41 at hsp
    try dsimp only at hsp
    refine lv_aload_n hx hb dX13_scan_41 rfl (lv_at hl 0 rfl) ?_
    refine lv_iconst (v := 1) hx hb dX13_scan_42 (by decide) ?_
    obtain ⟨⟨u3_0, u3_1⟩, hu_3, hsp⟩ := ox_bind hsp
    try dsimp only at hsp
    have hPc := hP.sub (ws' := [(h0, .inr (13, z41))]) [0] rfl
    have hDc := hD.sub (ws' := [(h0, .inr (13, z41))]) [0] (by decide) rfl
    have hKc := hK.sub (tys' := []) [] rfl
    have hFc := va_free (wc := [(h0, .inr (13, z41))]) hD hS hA [0] rfl
    refine va_calli (va_runV (As := [.int 1]) (rest := []) ⟨hx, hb, hml, hown, hts⟩ (tm_isByte l dC dI H.size h0 z41 1 v113 x114_41 nf u3_0 u3_1 hlh_41 hfh_41_113 hfh_41_114 hu_3) (cwV 1 hts gv_h9_47 rfl rfl rfl (by decide +kernel) ⟨Nat.le_of_ble_eq_true rfl, Nat.le_of_ble_eq_true rfl⟩) ⟨fun a U g mk q => by obtain ⟨q0, q1, qP, qK, qD⟩ := q; exact ⟨q0, q1, qP, va_K.moved (u := U) (U := U.calling g mk a) (Vm.Alike.refl U.vm) qK, qD⟩, va_recv hKc hPc (ci := 13) (q0 := 0) rfl rfl, fun U hU hW => ⟨rfl, by rw [hU], by rw [hU]; exact hPc, va_K.moved hW.alike hKc, hDc.weaken (fun _ _ _ _ => trivial)⟩⟩ rfl rfl hl.1 rfl (lv_room (Nat.le_of_ble_eq_true rfl)) dX13_scan_43 ⟨Nat.le_of_ble_eq_true rfl, Nat.le_of_ble_eq_true rfl⟩) hS (fun q _ h => hFc q h) hFc ?_
    clear hS
    intro r_10 u t H1 locs ht hvm hw hB hz1 hk1 hS
    obtain ⟨z_3, rfl⟩ : ∃ z, z = u := ⟨_, rfl⟩
    obtain ⟨hP1, hK1, hD1⟩ := hB
    rw [ht] at hP1
    have hK1 := va_K.moved hvm.symm hK1
    try dsimp only at hw
    have hPD := va_join (wr := [(qf103, .inl (cf103, 8, .inl g103_41)), (qf112, .inl (cf112, 6000, .inl f112)), (qf102, .inl (cf102, 2048, .inl g102_41)), (qf104, .inl (cf104, 8, .inl g104_41)), (qf105, .inl (cf105, 8, .inl g105_41)), (qf106, .inl (cf106, 8, .inl g106_41)), (qf107, .inl (cf107, 96, .inl g107_41)), (qf108, .inl (cf108, 8, .inl g108_41)), (qf109, .inl (cf109, 96, .inl g109_41)), (qf110, .inl (cf110, 96, .inl g110_41)), (qf111, .inl (cf111, 96, .inl g111_41))]) (w1 := [(h0, .inr (13, z_3))]) hP hD [0] [1, 2, 3, 4, 5, 6, 7, 8, 9, 10, 11] rfl rfl (by decide) (by decide) hk1 hFc hP1 hD1
    clear hP hD
    obtain ⟨hP, hD⟩ := hPD
    replace hK := (hK.sub (tys' := [(cf103, .int), (cf112, .int), (cf102, .int), (cf104, .int), (cf105, .int), (cf106, .int), (cf107, .int), (cf108, .int), (cf109, .int), (cf110, .int), (cf111, .int)]) [0, 1, 2, 3, 4, 5, 6, 7, 8, 9, 10] rfl).app hK1
    clear hPc hDc hKc hFc hP1 hK1 hD1 hz1 hk1 ht hvm
    generalize H1 = H at hP hS ⊢
    replace hP : va_P (dC, dI) vwCl [(qf103, .inl (cf103, 8, .inl g103_41)), (qf112, .inl (cf112, 6000, .inl f112)), (qf102, .inl (cf102, 2048, .inl g102_41)), (qf104, .inl (cf104, 8, .inl g104_41)), (qf105, .inl (cf105, 8, .inl g105_41)), (qf106, .inl (cf106, 8, .inl g106_41)), (qf107, .inl (cf107, 96, .inl g107_41)), (qf108, .inl (cf108, 8, .inl g108_41)), (qf109, .inl (cf109, 96, .inl g109_41)), (qf110, .inl (cf110, 96, .inl g110_41)), (qf111, .inl (cf111, 96, .inl g111_41)), (h0, .inr (13, z_3))] H := hP
    replace hD : va_D A [(qf103, .inl (cf103, 8, .inl g103_41)), (qf112, .inl (cf112, 6000, .inl f112)), (qf102, .inl (cf102, 2048, .inl g102_41)), (qf104, .inl (cf104, 8, .inl g104_41)), (qf105, .inl (cf105, 8, .inl g105_41)), (qf106, .inl (cf106, 8, .inl g106_41)), (qf107, .inl (cf107, 96, .inl g107_41)), (qf108, .inl (cf108, 8, .inl g108_41)), (qf109, .inl (cf109, 96, .inl g109_41)), (qf110, .inl (cf110, 96, .inl g110_41)), (qf111, .inl (cf111, 96, .inl g111_41)), (h0, .inr (13, z_3))] := hD
    replace hK : va_K (dC, dI) vwCl [(cf103, .int), (cf112, .int), (cf102, .int), (cf104, .int), (cf105, .int), (cf106, .int), (cf107, .int), (cf108, .int), (cf109, .int), (cf110, .int), (cf111, .int)] s := hK
    obtain ⟨hwa_3, hln_3, hre_3, hch_3_114⟩ := hw
    have hfk_3_102 : z_3[102]? = some (.ref qf102) := (hre_3 102 (by decide)).trans (hfh_41_102)
    have hfk_3_103 : z_3[103]? = some (.ref qf103) := (hre_3 103 (by decide)).trans (hfh_41_103)
    have hfk_3_104 : z_3[104]? = some (.ref qf104) := (hre_3 104 (by decide)).trans (hfh_41_104)
    have hfk_3_105 : z_3[105]? = some (.ref qf105) := (hre_3 105 (by decide)).trans (hfh_41_105)
    have hfk_3_106 : z_3[106]? = some (.ref qf106) := (hre_3 106 (by decide)).trans (hfh_41_106)
    have hfk_3_107 : z_3[107]? = some (.ref qf107) := (hre_3 107 (by decide)).trans (hfh_41_107)
    have hfk_3_108 : z_3[108]? = some (.ref qf108) := (hre_3 108 (by decide)).trans (hfh_41_108)
    have hfk_3_109 : z_3[109]? = some (.ref qf109) := (hre_3 109 (by decide)).trans (hfh_41_109)
    have hfk_3_110 : z_3[110]? = some (.ref qf110) := (hre_3 110 (by decide)).trans (hfh_41_110)
    have hfk_3_111 : z_3[111]? = some (.ref qf111) := (hre_3 111 (by decide)).trans (hfh_41_111)
    have hfk_3_112 : z_3[112]? = some (.ref qf112) := (hre_3 112 (by decide)).trans (hfh_41_112)
    have hfk_3_113 : z_3[113]? = some (.int v113) := (hre_3 113 (by decide)).trans (hfh_41_113)
    have hfk_3_115 : z_3[115]? = some (.int x115_41) := (hre_3 115 (by decide)).trans (hfh_41_115)
    have hrq_3 : ∀ j : Nat, j ≠ 114 → j ≠ 115 → z_3[j]? = zs[j]? := fun j g114 g115 => (hre_3 j g114).trans (hrh_41 j g114 g115)
    obtain ⟨rfl, hz_3⟩ := hwa_3
    rcases hz_3 with rfl | rfl
    · rw [if_pos rfl] at hsp
      refine lv_if_eq (tgt := 65) hx hb dX13_scan_46 (by decide) (fun c_11 => ?_) (fun c_11 => (show False by revert c_11; decide).elim)
      exact hj_65 (H, locs, ls, z_3, l1_41, g102_41, g103_41, g104_41, g105_41, g106_41, g107_41, g108_41, g109_41, g110_41, g111_41, u3_1, x115_41) ⟨lv_sub hl [0, 1] rfl, hS, hD.sub (ws' := [(h0, .inr (13, z_3)), (qf103, .inl (cf103, 8, .inl g103_41)), (qf112, .inl (cf112, 6000, .inl f112)), (qf102, .inl (cf102, 2048, .inl g102_41)), (qf104, .inl (cf104, 8, .inl g104_41)), (qf105, .inl (cf105, 8, .inl g105_41)), (qf106, .inl (cf106, 8, .inl g106_41)), (qf107, .inl (cf107, 96, .inl g107_41)), (qf108, .inl (cf108, 8, .inl g108_41)), (qf109, .inl (cf109, 96, .inl g109_41)), (qf110, .inl (cf110, 96, .inl g110_41)), (qf111, .inl (cf111, 96, .inl g111_41))]) [11, 0, 1, 2, 3, 4, 5, 6, 7, 8, 9, 10] (by decide) rfl, hP.sub (ws' := [(h0, .inr (13, z_3)), (qf103, .inl (cf103, 8, .inl g103_41)), (qf112, .inl (cf112, 6000, .inl f112)), (qf102, .inl (cf102, 2048, .inl g102_41)), (qf104, .inl (cf104, 8, .inl g104_41)), (qf105, .inl (cf105, 8, .inl g105_41)), (qf106, .inl (cf106, 8, .inl g106_41)), (qf107, .inl (cf107, 96, .inl g107_41)), (qf108, .inl (cf108, 8, .inl g108_41)), (qf109, .inl (cf109, 96, .inl g109_41)), (qf110, .inl (cf110, 96, .inl g110_41)), (qf111, .inl (cf111, 96, .inl g111_41))]) [11, 0, 1, 2, 3, 4, 5, 6, 7, 8, 9, 10] rfl, hfk_3_102, hfk_3_103, hfk_3_104, hfk_3_105, hfk_3_106, hfk_3_107, hfk_3_108, hfk_3_109, hfk_3_110, hfk_3_111, hfk_3_112, hfk_3_113, hch_3_114, hfk_3_115, hln_3, hrq_3, hsp⟩
    · rw [if_neg (by decide)] at hsp
      refine lv_if_eq (tgt := 65) hx hb dX13_scan_46 (by decide) (fun c_12 => (show False by revert c_12; decide).elim) (fun c_12 => ?_)
      refine lv_aload_n hx hb dX13_scan_49 rfl (lv_at hl 0 rfl) ?_
      refine va_get (D := (dC, dI)) (ci := 13) (v := .ref qf112) (C := RX13) (T := TX13) (N := 155) hx hb hts uV_h9_X13 hown hK hP 11 rfl rfl 112 (by decide) (hts (.fieldLink RX13 245 "ClassMillModel" "look" "[I") mw_h9_242) (fun _ h9 => h9) hfk_3_112 dX13_scan_50 ?_
      refine lv_iconst (v := 1) hx hb dX13_scan_53 (by decide) ?_
      refine va_iald hx hb hK hP 1 1 rfl rfl (i := 1) (by unfold vp_in; decide) dX13_scan_54 ?_
      refine lv_bipush (v := 77) hx hb dX13_scan_55 (by decide) ?_
      refine lv_icmp_eq (tgt := 65) hx hb dX13_scan_57 (by decide) (fun c_13 => ?_) (fun c_13 => ?_)
      · rw [if_pos c_13] at hsp
        exact hj_65 (H, locs, ls, z_3, l1_41, g102_41, g103_41, g104_41, g105_41, g106_41, g107_41, g108_41, g109_41, g110_41, g111_41, u3_1, x115_41) ⟨lv_sub hl [0, 1] rfl, hS, hD.sub (ws' := [(h0, .inr (13, z_3)), (qf103, .inl (cf103, 8, .inl g103_41)), (qf112, .inl (cf112, 6000, .inl f112)), (qf102, .inl (cf102, 2048, .inl g102_41)), (qf104, .inl (cf104, 8, .inl g104_41)), (qf105, .inl (cf105, 8, .inl g105_41)), (qf106, .inl (cf106, 8, .inl g106_41)), (qf107, .inl (cf107, 96, .inl g107_41)), (qf108, .inl (cf108, 8, .inl g108_41)), (qf109, .inl (cf109, 96, .inl g109_41)), (qf110, .inl (cf110, 96, .inl g110_41)), (qf111, .inl (cf111, 96, .inl g111_41))]) [11, 0, 1, 2, 3, 4, 5, 6, 7, 8, 9, 10] (by decide) rfl, hP.sub (ws' := [(h0, .inr (13, z_3)), (qf103, .inl (cf103, 8, .inl g103_41)), (qf112, .inl (cf112, 6000, .inl f112)), (qf102, .inl (cf102, 2048, .inl g102_41)), (qf104, .inl (cf104, 8, .inl g104_41)), (qf105, .inl (cf105, 8, .inl g105_41)), (qf106, .inl (cf106, 8, .inl g106_41)), (qf107, .inl (cf107, 96, .inl g107_41)), (qf108, .inl (cf108, 8, .inl g108_41)), (qf109, .inl (cf109, 96, .inl g109_41)), (qf110, .inl (cf110, 96, .inl g110_41)), (qf111, .inl (cf111, 96, .inl g111_41))]) [11, 0, 1, 2, 3, 4, 5, 6, 7, 8, 9, 10] rfl, hfk_3_102, hfk_3_103, hfk_3_104, hfk_3_105, hfk_3_106, hfk_3_107, hfk_3_108, hfk_3_109, hfk_3_110, hfk_3_111, hfk_3_112, hfk_3_113, hch_3_114, hfk_3_115, hln_3, hrq_3, hsp⟩
      · rw [if_neg c_13] at hsp
        refine lv_aload_n hx hb dX13_scan_60 rfl (lv_at hl 0 rfl) ?_
        refine lv_iconst (v := 1) hx hb dX13_scan_61 (by decide) ?_
        obtain ⟨u4_0, hu_4, hsp⟩ := ox_bind hsp
        try dsimp only at hsp
        have hPc := hP.sub (ws' := [(h0, .inr (13, z_3))]) [11] rfl
        have hDc := hD.sub (ws' := [(h0, .inr (13, z_3))]) [11] (by decide) rfl
        have hKc := hK.sub (tys' := []) [] rfl
        have hFc := va_free (wc := [(h0, .inr (13, z_3))]) hD hS hA [11] rfl
        refine va_callv (va_runV (As := [.int 1]) (rest := []) ⟨hx, hb, hml, hown, hts⟩ (tm_unfit l dC dI H.size h0 z_3 1 u3_1 nf u4_0 hln_3 hch_3_114 hu_4) (cwV 1 hts gv_h9_48 rfl rfl rfl (by decide +kernel) ⟨Nat.le_of_ble_eq_true rfl, Nat.le_of_ble_eq_true rfl⟩) ⟨fun a U g mk q => by obtain ⟨q0, q1, qP, qK, qD⟩ := q; exact ⟨q0, q1, qP, va_K.moved (u := U) (U := U.calling g mk a) (Vm.Alike.refl U.vm) qK, qD⟩, va_recv hKc hPc (ci := 13) (q0 := 0) rfl rfl, fun U hU hW => ⟨rfl, by rw [hU], by rw [hU]; exact hPc, va_K.moved hW.alike hKc, hDc.weaken (fun _ _ _ _ => trivial)⟩⟩ rfl rfl hl.1 rfl (lv_room (Nat.le_of_ble_eq_true rfl)) dX13_scan_62 ⟨Nat.le_of_ble_eq_true rfl, Nat.le_of_ble_eq_true rfl⟩) hS (fun q _ h => hFc q h) hFc ?_
        clear hS
        intro u t H1 locs ht hvm hw hB hz1 hk1 hS
        obtain ⟨z_4, rfl⟩ : ∃ z, z = u := ⟨_, rfl⟩
        obtain ⟨hP1, hK1, hD1⟩ := hB
        rw [ht] at hP1
        have hK1 := va_K.moved hvm.symm hK1
        try dsimp only at hw
        have hPD := va_join (wr := [(qf103, .inl (cf103, 8, .inl g103_41)), (qf112, .inl (cf112, 6000, .inl f112)), (qf102, .inl (cf102, 2048, .inl g102_41)), (qf104, .inl (cf104, 8, .inl g104_41)), (qf105, .inl (cf105, 8, .inl g105_41)), (qf106, .inl (cf106, 8, .inl g106_41)), (qf107, .inl (cf107, 96, .inl g107_41)), (qf108, .inl (cf108, 8, .inl g108_41)), (qf109, .inl (cf109, 96, .inl g109_41)), (qf110, .inl (cf110, 96, .inl g110_41)), (qf111, .inl (cf111, 96, .inl g111_41))]) (w1 := [(h0, .inr (13, z_4))]) hP hD [11] [0, 1, 2, 3, 4, 5, 6, 7, 8, 9, 10] rfl rfl (by decide) (by decide) hk1 hFc hP1 hD1
        clear hP hD
        obtain ⟨hP, hD⟩ := hPD
        replace hK := (hK.sub (tys' := [(cf103, .int), (cf112, .int), (cf102, .int), (cf104, .int), (cf105, .int), (cf106, .int), (cf107, .int), (cf108, .int), (cf109, .int), (cf110, .int), (cf111, .int)]) [0, 1, 2, 3, 4, 5, 6, 7, 8, 9, 10] rfl).app hK1
        clear hPc hDc hKc hFc hP1 hK1 hD1 hz1 hk1 ht hvm
        generalize H1 = H at hP hS ⊢
        replace hP : va_P (dC, dI) vwCl [(qf103, .inl (cf103, 8, .inl g103_41)), (qf112, .inl (cf112, 6000, .inl f112)), (qf102, .inl (cf102, 2048, .inl g102_41)), (qf104, .inl (cf104, 8, .inl g104_41)), (qf105, .inl (cf105, 8, .inl g105_41)), (qf106, .inl (cf106, 8, .inl g106_41)), (qf107, .inl (cf107, 96, .inl g107_41)), (qf108, .inl (cf108, 8, .inl g108_41)), (qf109, .inl (cf109, 96, .inl g109_41)), (qf110, .inl (cf110, 96, .inl g110_41)), (qf111, .inl (cf111, 96, .inl g111_41)), (h0, .inr (13, z_4))] H := hP
        replace hD : va_D A [(qf103, .inl (cf103, 8, .inl g103_41)), (qf112, .inl (cf112, 6000, .inl f112)), (qf102, .inl (cf102, 2048, .inl g102_41)), (qf104, .inl (cf104, 8, .inl g104_41)), (qf105, .inl (cf105, 8, .inl g105_41)), (qf106, .inl (cf106, 8, .inl g106_41)), (qf107, .inl (cf107, 96, .inl g107_41)), (qf108, .inl (cf108, 8, .inl g108_41)), (qf109, .inl (cf109, 96, .inl g109_41)), (qf110, .inl (cf110, 96, .inl g110_41)), (qf111, .inl (cf111, 96, .inl g111_41)), (h0, .inr (13, z_4))] := hD
        replace hK : va_K (dC, dI) vwCl [(cf103, .int), (cf112, .int), (cf102, .int), (cf104, .int), (cf105, .int), (cf106, .int), (cf107, .int), (cf108, .int), (cf109, .int), (cf110, .int), (cf111, .int)] s := hK
        obtain ⟨hwa_4, hln_4, hre_4, hch_4_114⟩ := hw
        have hfk_4_102 : z_4[102]? = some (.ref qf102) := (hre_4 102 (by decide)).trans (hfk_3_102)
        have hfk_4_103 : z_4[103]? = some (.ref qf103) := (hre_4 103 (by decide)).trans (hfk_3_103)
        have hfk_4_104 : z_4[104]? = some (.ref qf104) := (hre_4 104 (by decide)).trans (hfk_3_104)
        have hfk_4_105 : z_4[105]? = some (.ref qf105) := (hre_4 105 (by decide)).trans (hfk_3_105)
        have hfk_4_106 : z_4[106]? = some (.ref qf106) := (hre_4 106 (by decide)).trans (hfk_3_106)
        have hfk_4_107 : z_4[107]? = some (.ref qf107) := (hre_4 107 (by decide)).trans (hfk_3_107)
        have hfk_4_108 : z_4[108]? = some (.ref qf108) := (hre_4 108 (by decide)).trans (hfk_3_108)
        have hfk_4_109 : z_4[109]? = some (.ref qf109) := (hre_4 109 (by decide)).trans (hfk_3_109)
        have hfk_4_110 : z_4[110]? = some (.ref qf110) := (hre_4 110 (by decide)).trans (hfk_3_110)
        have hfk_4_111 : z_4[111]? = some (.ref qf111) := (hre_4 111 (by decide)).trans (hfk_3_111)
        have hfk_4_112 : z_4[112]? = some (.ref qf112) := (hre_4 112 (by decide)).trans (hfk_3_112)
        have hfk_4_113 : z_4[113]? = some (.int v113) := (hre_4 113 (by decide)).trans (hfk_3_113)
        have hfk_4_115 : z_4[115]? = some (.int x115_41) := (hre_4 115 (by decide)).trans (hfk_3_115)
        have hrq_4 : ∀ j : Nat, j ≠ 114 → j ≠ 115 → z_4[j]? = zs[j]? := fun j g114 g115 => (hre_4 j g114).trans (hrq_3 j g114 g115)
        exact hj_65 (H, locs, ls, z_4, l1_41, g102_41, g103_41, g104_41, g105_41, g106_41, g107_41, g108_41, g109_41, g110_41, g111_41, u4_0, x115_41) ⟨lv_sub hl [0, 1] rfl, hS, hD.sub (ws' := [(h0, .inr (13, z_4)), (qf103, .inl (cf103, 8, .inl g103_41)), (qf112, .inl (cf112, 6000, .inl f112)), (qf102, .inl (cf102, 2048, .inl g102_41)), (qf104, .inl (cf104, 8, .inl g104_41)), (qf105, .inl (cf105, 8, .inl g105_41)), (qf106, .inl (cf106, 8, .inl g106_41)), (qf107, .inl (cf107, 96, .inl g107_41)), (qf108, .inl (cf108, 8, .inl g108_41)), (qf109, .inl (cf109, 96, .inl g109_41)), (qf110, .inl (cf110, 96, .inl g110_41)), (qf111, .inl (cf111, 96, .inl g111_41))]) [11, 0, 1, 2, 3, 4, 5, 6, 7, 8, 9, 10] (by decide) rfl, hP.sub (ws' := [(h0, .inr (13, z_4)), (qf103, .inl (cf103, 8, .inl g103_41)), (qf112, .inl (cf112, 6000, .inl f112)), (qf102, .inl (cf102, 2048, .inl g102_41)), (qf104, .inl (cf104, 8, .inl g104_41)), (qf105, .inl (cf105, 8, .inl g105_41)), (qf106, .inl (cf106, 8, .inl g106_41)), (qf107, .inl (cf107, 96, .inl g107_41)), (qf108, .inl (cf108, 8, .inl g108_41)), (qf109, .inl (cf109, 96, .inl g109_41)), (qf110, .inl (cf110, 96, .inl g110_41)), (qf111, .inl (cf111, 96, .inl g111_41))]) [11, 0, 1, 2, 3, 4, 5, 6, 7, 8, 9, 10] rfl, hfk_4_102, hfk_4_103, hfk_4_104, hfk_4_105, hfk_4_106, hfk_4_107, hfk_4_108, hfk_4_109, hfk_4_110, hfk_4_111, hfk_4_112, hfk_4_113, hch_4_114, hfk_4_115, hln_4, hrq_4, hsp⟩
  intro hj_41
  refine lv_aload_n hx hb dX13_scan_0 rfl (lv_at hl 0 rfl) ?_
  refine lv_iload_n hx hb dX13_scan_1 rfl (lv_at hl 1 rfl) ?_
  refine va_put (D := (dC, dI)) (ci := 13) (v := .int a1) (ty := .int) (C := RX13) (T := TX13) (N := 155) hx hb hts uV_h9_X13 tyX13 tyX13_ok nmX13 hown hK hP hD hS 0 rfl rfl 115 (by decide) (hts (.fieldLink RX13 788 "ClassMillModel" "into" "I") mw_h9_241) (fun _ h9 => h9) rfl (by decide +kernel) rfl rfl (by rw [hlen]; decide) dX13_scan_2 ?_
  clear hP hD hS
  intro H locs hP hD hS
  obtain ⟨fs_1, efs_1⟩ : ∃ zf : List Value, zf = zs.set 115 (.int a1) := ⟨_, rfl⟩
  rw [← efs_1] at hP hD
  have hlfs_1 : fs_1.length = 155 := by rw [efs_1, List.length_set]; exact hlen
  have hfs_1_102 : fs_1[102]? = some (.ref qf102) := by rw [efs_1, List.getElem?_set_ne (by decide)]; exact hf102
  have hfs_1_103 : fs_1[103]? = some (.ref qf103) := by rw [efs_1, List.getElem?_set_ne (by decide)]; exact hf103
  have hfs_1_104 : fs_1[104]? = some (.ref qf104) := by rw [efs_1, List.getElem?_set_ne (by decide)]; exact hf104
  have hfs_1_105 : fs_1[105]? = some (.ref qf105) := by rw [efs_1, List.getElem?_set_ne (by decide)]; exact hf105
  have hfs_1_106 : fs_1[106]? = some (.ref qf106) := by rw [efs_1, List.getElem?_set_ne (by decide)]; exact hf106
  have hfs_1_107 : fs_1[107]? = some (.ref qf107) := by rw [efs_1, List.getElem?_set_ne (by decide)]; exact hf107
  have hfs_1_108 : fs_1[108]? = some (.ref qf108) := by rw [efs_1, List.getElem?_set_ne (by decide)]; exact hf108
  have hfs_1_109 : fs_1[109]? = some (.ref qf109) := by rw [efs_1, List.getElem?_set_ne (by decide)]; exact hf109
  have hfs_1_110 : fs_1[110]? = some (.ref qf110) := by rw [efs_1, List.getElem?_set_ne (by decide)]; exact hf110
  have hfs_1_111 : fs_1[111]? = some (.ref qf111) := by rw [efs_1, List.getElem?_set_ne (by decide)]; exact hf111
  have hfs_1_112 : fs_1[112]? = some (.ref qf112) := by rw [efs_1, List.getElem?_set_ne (by decide)]; exact hf112
  have hfs_1_113 : fs_1[113]? = some (.int v113) := by rw [efs_1, List.getElem?_set_ne (by decide)]; exact hf113
  have hfs_1_114 : fs_1[114]? = some (.int v114) := by rw [efs_1, List.getElem?_set_ne (by decide)]; exact hf114
  have hfs_1_115 : fs_1[115]? = some (.int a1) := by rw [efs_1, List.getElem?_set_self (by rw [hlen]; decide)]
  replace hP : va_P (dC, dI) vwCl [(h0, .inr (13, fs_1)), (qf103, .inl (cf103, 8, .inl f103)), (qf112, .inl (cf112, 6000, .inl f112)), (qf102, .inl (cf102, 2048, .inl f102)), (qf104, .inl (cf104, 8, .inl f104)), (qf105, .inl (cf105, 8, .inl f105)), (qf106, .inl (cf106, 8, .inl f106)), (qf107, .inl (cf107, 96, .inl f107)), (qf108, .inl (cf108, 8, .inl f108)), (qf109, .inl (cf109, 96, .inl f109)), (qf110, .inl (cf110, 96, .inl f110)), (qf111, .inl (cf111, 96, .inl f111))] H := hP
  replace hD : va_D A [(h0, .inr (13, fs_1)), (qf103, .inl (cf103, 8, .inl f103)), (qf112, .inl (cf112, 6000, .inl f112)), (qf102, .inl (cf102, 2048, .inl f102)), (qf104, .inl (cf104, 8, .inl f104)), (qf105, .inl (cf105, 8, .inl f105)), (qf106, .inl (cf106, 8, .inl f106)), (qf107, .inl (cf107, 96, .inl f107)), (qf108, .inl (cf108, 8, .inl f108)), (qf109, .inl (cf109, 96, .inl f109)), (qf110, .inl (cf110, 96, .inl f110)), (qf111, .inl (cf111, 96, .inl f111))] := hD
  have hrs_2 : ∀ j : Nat, j ≠ 114 → j ≠ 115 → fs_1[j]? = zs[j]? := fun j g114 g115 => ((congrArg (fun z : List Value => z[j]?) efs_1).trans (List.getElem?_set_ne (Ne.symm g115))).trans (hrs0 j g114 g115)
  refine lv_aload_n hx hb dX13_scan_5 rfl (lv_at hl 0 rfl) ?_
  refine lv_iconst (v := (-1)) hx hb dX13_scan_6 (by decide) ?_
  refine va_put (D := (dC, dI)) (ci := 13) (v := .int (-1)) (ty := .int) (C := RX13) (T := TX13) (N := 155) hx hb hts uV_h9_X13 tyX13 tyX13_ok nmX13 hown hK hP hD hS 0 rfl rfl 114 (by decide) (hts (.fieldLink RX13 764 "ClassMillModel" "form" "I") mw_h9_251) (fun _ h9 => h9) rfl (by decide +kernel) rfl rfl (by rw [hlfs_1]; decide) dX13_scan_7 ?_
  clear hP hD hS
  intro H locs hP hD hS
  obtain ⟨fs_3, efs_3⟩ : ∃ zf : List Value, zf = fs_1.set 114 (.int (-1)) := ⟨_, rfl⟩
  rw [← efs_3] at hP hD
  have hlfs_3 : fs_3.length = 155 := by rw [efs_3, List.length_set]; exact hlfs_1
  have hfs_3_102 : fs_3[102]? = some (.ref qf102) := by rw [efs_3, List.getElem?_set_ne (by decide)]; exact hfs_1_102
  have hfs_3_103 : fs_3[103]? = some (.ref qf103) := by rw [efs_3, List.getElem?_set_ne (by decide)]; exact hfs_1_103
  have hfs_3_104 : fs_3[104]? = some (.ref qf104) := by rw [efs_3, List.getElem?_set_ne (by decide)]; exact hfs_1_104
  have hfs_3_105 : fs_3[105]? = some (.ref qf105) := by rw [efs_3, List.getElem?_set_ne (by decide)]; exact hfs_1_105
  have hfs_3_106 : fs_3[106]? = some (.ref qf106) := by rw [efs_3, List.getElem?_set_ne (by decide)]; exact hfs_1_106
  have hfs_3_107 : fs_3[107]? = some (.ref qf107) := by rw [efs_3, List.getElem?_set_ne (by decide)]; exact hfs_1_107
  have hfs_3_108 : fs_3[108]? = some (.ref qf108) := by rw [efs_3, List.getElem?_set_ne (by decide)]; exact hfs_1_108
  have hfs_3_109 : fs_3[109]? = some (.ref qf109) := by rw [efs_3, List.getElem?_set_ne (by decide)]; exact hfs_1_109
  have hfs_3_110 : fs_3[110]? = some (.ref qf110) := by rw [efs_3, List.getElem?_set_ne (by decide)]; exact hfs_1_110
  have hfs_3_111 : fs_3[111]? = some (.ref qf111) := by rw [efs_3, List.getElem?_set_ne (by decide)]; exact hfs_1_111
  have hfs_3_112 : fs_3[112]? = some (.ref qf112) := by rw [efs_3, List.getElem?_set_ne (by decide)]; exact hfs_1_112
  have hfs_3_113 : fs_3[113]? = some (.int v113) := by rw [efs_3, List.getElem?_set_ne (by decide)]; exact hfs_1_113
  have hfs_3_115 : fs_3[115]? = some (.int a1) := by rw [efs_3, List.getElem?_set_ne (by decide)]; exact hfs_1_115
  have hfs_3_114 : fs_3[114]? = some (.int (-1)) := by rw [efs_3, List.getElem?_set_self (by rw [hlfs_1]; decide)]
  replace hP : va_P (dC, dI) vwCl [(h0, .inr (13, fs_3)), (qf103, .inl (cf103, 8, .inl f103)), (qf112, .inl (cf112, 6000, .inl f112)), (qf102, .inl (cf102, 2048, .inl f102)), (qf104, .inl (cf104, 8, .inl f104)), (qf105, .inl (cf105, 8, .inl f105)), (qf106, .inl (cf106, 8, .inl f106)), (qf107, .inl (cf107, 96, .inl f107)), (qf108, .inl (cf108, 8, .inl f108)), (qf109, .inl (cf109, 96, .inl f109)), (qf110, .inl (cf110, 96, .inl f110)), (qf111, .inl (cf111, 96, .inl f111))] H := hP
  replace hD : va_D A [(h0, .inr (13, fs_3)), (qf103, .inl (cf103, 8, .inl f103)), (qf112, .inl (cf112, 6000, .inl f112)), (qf102, .inl (cf102, 2048, .inl f102)), (qf104, .inl (cf104, 8, .inl f104)), (qf105, .inl (cf105, 8, .inl f105)), (qf106, .inl (cf106, 8, .inl f106)), (qf107, .inl (cf107, 96, .inl f107)), (qf108, .inl (cf108, 8, .inl f108)), (qf109, .inl (cf109, 96, .inl f109)), (qf110, .inl (cf110, 96, .inl f110)), (qf111, .inl (cf111, 96, .inl f111))] := hD
  have hrs_4 : ∀ j : Nat, j ≠ 114 → j ≠ 115 → fs_3[j]? = zs[j]? := fun j g114 g115 => ((congrArg (fun z : List Value => z[j]?) efs_3).trans (List.getElem?_set_ne (Ne.symm g114))).trans (hrs_2 j g114 g115)
  refine lv_aload_n hx hb dX13_scan_10 rfl (lv_at hl 0 rfl) ?_
  refine va_get (D := (dC, dI)) (ci := 13) (v := .ref qf103) (C := RX13) (T := TX13) (N := 155) hx hb hts uV_h9_X13 hown hK hP 0 rfl rfl 103 (by decide) (hts (.fieldLink RX13 218 "ClassMillModel" "constantMany" "[I") mw_h9_278) (fun _ h9 => h9) hfs_3_103 dX13_scan_11 ?_
  refine lv_iload_n hx hb dX13_scan_14 rfl (lv_at hl 1 rfl) ?_
  refine lv_iconst (v := 0) hx hb dX13_scan_15 (by decide) ?_
  obtain ⟨hi_5, hsp⟩ := ox_in hsp
  refine va_iast hx hb hK hP hD hS 1 0 rfl rfl (i := a1) (x := 0) hi_5 dX13_scan_16 ?_
  clear hP hD hS
  intro H locs hP hD hS
  replace hP : va_P (dC, dI) vwCl [(h0, .inr (13, fs_3)), (qf103, .inl (cf103, 8, .inl (upd f103 (a1 : Int32).toNatClampNeg 0))), (qf112, .inl (cf112, 6000, .inl f112)), (qf102, .inl (cf102, 2048, .inl f102)), (qf104, .inl (cf104, 8, .inl f104)), (qf105, .inl (cf105, 8, .inl f105)), (qf106, .inl (cf106, 8, .inl f106)), (qf107, .inl (cf107, 96, .inl f107)), (qf108, .inl (cf108, 8, .inl f108)), (qf109, .inl (cf109, 96, .inl f109)), (qf110, .inl (cf110, 96, .inl f110)), (qf111, .inl (cf111, 96, .inl f111))] H := hP
  replace hD : va_D A [(h0, .inr (13, fs_3)), (qf103, .inl (cf103, 8, .inl (upd f103 (a1 : Int32).toNatClampNeg 0))), (qf112, .inl (cf112, 6000, .inl f112)), (qf102, .inl (cf102, 2048, .inl f102)), (qf104, .inl (cf104, 8, .inl f104)), (qf105, .inl (cf105, 8, .inl f105)), (qf106, .inl (cf106, 8, .inl f106)), (qf107, .inl (cf107, 96, .inl f107)), (qf108, .inl (cf108, 8, .inl f108)), (qf109, .inl (cf109, 96, .inl f109)), (qf110, .inl (cf110, 96, .inl f110)), (qf111, .inl (cf111, 96, .inl f111))] := hD
  refine lv_aload_n hx hb dX13_scan_17 rfl (lv_at hl 0 rfl) ?_
  refine lv_iconst (v := 0) hx hb dX13_scan_18 (by decide) ?_
  obtain ⟨⟨u1_0, u1_1⟩, hu_1, hsp⟩ := ox_bind hsp
  try dsimp only at hsp
  have hPc := hP.sub (ws' := [(h0, .inr (13, fs_3))]) [0] rfl
  have hDc := hD.sub (ws' := [(h0, .inr (13, fs_3))]) [0] (by decide) rfl
  have hKc := hK.sub (tys' := []) [] rfl
  have hFc := va_free (wc := [(h0, .inr (13, fs_3))]) hD hS hA [0] rfl
  refine va_calli (va_runV (As := [.int 0]) (rest := []) ⟨hx, hb, hml, hown, hts⟩ (tm_isByte l dC dI H.size h0 fs_3 0 v113 (-1) nf u1_0 u1_1 hlfs_3 hfs_3_113 hfs_3_114 hu_1) (cwV 1 hts gv_h9_47 rfl rfl rfl (by decide +kernel) ⟨Nat.le_of_ble_eq_true rfl, Nat.le_of_ble_eq_true rfl⟩) ⟨fun a U g mk q => by obtain ⟨q0, q1, qP, qK, qD⟩ := q; exact ⟨q0, q1, qP, va_K.moved (u := U) (U := U.calling g mk a) (Vm.Alike.refl U.vm) qK, qD⟩, va_recv hKc hPc (ci := 13) (q0 := 0) rfl rfl, fun U hU hW => ⟨rfl, by rw [hU], by rw [hU]; exact hPc, va_K.moved hW.alike hKc, hDc.weaken (fun _ _ _ _ => trivial)⟩⟩ rfl rfl hl.1 rfl (lv_room (Nat.le_of_ble_eq_true rfl)) dX13_scan_19 ⟨Nat.le_of_ble_eq_true rfl, Nat.le_of_ble_eq_true rfl⟩) hS (fun q _ h => hFc q h) hFc ?_
  clear hS
  intro r_6 u t H1 locs ht hvm hw hB hz1 hk1 hS
  obtain ⟨z_1, rfl⟩ : ∃ z, z = u := ⟨_, rfl⟩
  obtain ⟨hP1, hK1, hD1⟩ := hB
  rw [ht] at hP1
  have hK1 := va_K.moved hvm.symm hK1
  try dsimp only at hw
  have hPD := va_join (wr := [(qf103, .inl (cf103, 8, .inl (upd f103 (a1 : Int32).toNatClampNeg 0))), (qf112, .inl (cf112, 6000, .inl f112)), (qf102, .inl (cf102, 2048, .inl f102)), (qf104, .inl (cf104, 8, .inl f104)), (qf105, .inl (cf105, 8, .inl f105)), (qf106, .inl (cf106, 8, .inl f106)), (qf107, .inl (cf107, 96, .inl f107)), (qf108, .inl (cf108, 8, .inl f108)), (qf109, .inl (cf109, 96, .inl f109)), (qf110, .inl (cf110, 96, .inl f110)), (qf111, .inl (cf111, 96, .inl f111))]) (w1 := [(h0, .inr (13, z_1))]) hP hD [0] [1, 2, 3, 4, 5, 6, 7, 8, 9, 10, 11] rfl rfl (by decide) (by decide) hk1 hFc hP1 hD1
  clear hP hD
  obtain ⟨hP, hD⟩ := hPD
  replace hK := (hK.sub (tys' := [(cf103, .int), (cf112, .int), (cf102, .int), (cf104, .int), (cf105, .int), (cf106, .int), (cf107, .int), (cf108, .int), (cf109, .int), (cf110, .int), (cf111, .int)]) [0, 1, 2, 3, 4, 5, 6, 7, 8, 9, 10] rfl).app hK1
  clear hPc hDc hKc hFc hP1 hK1 hD1 hz1 hk1 ht hvm
  generalize H1 = H at hP hS ⊢
  replace hP : va_P (dC, dI) vwCl [(qf103, .inl (cf103, 8, .inl (upd f103 (a1 : Int32).toNatClampNeg 0))), (qf112, .inl (cf112, 6000, .inl f112)), (qf102, .inl (cf102, 2048, .inl f102)), (qf104, .inl (cf104, 8, .inl f104)), (qf105, .inl (cf105, 8, .inl f105)), (qf106, .inl (cf106, 8, .inl f106)), (qf107, .inl (cf107, 96, .inl f107)), (qf108, .inl (cf108, 8, .inl f108)), (qf109, .inl (cf109, 96, .inl f109)), (qf110, .inl (cf110, 96, .inl f110)), (qf111, .inl (cf111, 96, .inl f111)), (h0, .inr (13, z_1))] H := hP
  replace hD : va_D A [(qf103, .inl (cf103, 8, .inl (upd f103 (a1 : Int32).toNatClampNeg 0))), (qf112, .inl (cf112, 6000, .inl f112)), (qf102, .inl (cf102, 2048, .inl f102)), (qf104, .inl (cf104, 8, .inl f104)), (qf105, .inl (cf105, 8, .inl f105)), (qf106, .inl (cf106, 8, .inl f106)), (qf107, .inl (cf107, 96, .inl f107)), (qf108, .inl (cf108, 8, .inl f108)), (qf109, .inl (cf109, 96, .inl f109)), (qf110, .inl (cf110, 96, .inl f110)), (qf111, .inl (cf111, 96, .inl f111)), (h0, .inr (13, z_1))] := hD
  replace hK : va_K (dC, dI) vwCl [(cf103, .int), (cf112, .int), (cf102, .int), (cf104, .int), (cf105, .int), (cf106, .int), (cf107, .int), (cf108, .int), (cf109, .int), (cf110, .int), (cf111, .int)] s := hK
  obtain ⟨hwa_1, hln_1, hre_1, hch_1_114⟩ := hw
  have hfk_1_102 : z_1[102]? = some (.ref qf102) := (hre_1 102 (by decide)).trans (hfs_3_102)
  have hfk_1_103 : z_1[103]? = some (.ref qf103) := (hre_1 103 (by decide)).trans (hfs_3_103)
  have hfk_1_104 : z_1[104]? = some (.ref qf104) := (hre_1 104 (by decide)).trans (hfs_3_104)
  have hfk_1_105 : z_1[105]? = some (.ref qf105) := (hre_1 105 (by decide)).trans (hfs_3_105)
  have hfk_1_106 : z_1[106]? = some (.ref qf106) := (hre_1 106 (by decide)).trans (hfs_3_106)
  have hfk_1_107 : z_1[107]? = some (.ref qf107) := (hre_1 107 (by decide)).trans (hfs_3_107)
  have hfk_1_108 : z_1[108]? = some (.ref qf108) := (hre_1 108 (by decide)).trans (hfs_3_108)
  have hfk_1_109 : z_1[109]? = some (.ref qf109) := (hre_1 109 (by decide)).trans (hfs_3_109)
  have hfk_1_110 : z_1[110]? = some (.ref qf110) := (hre_1 110 (by decide)).trans (hfs_3_110)
  have hfk_1_111 : z_1[111]? = some (.ref qf111) := (hre_1 111 (by decide)).trans (hfs_3_111)
  have hfk_1_112 : z_1[112]? = some (.ref qf112) := (hre_1 112 (by decide)).trans (hfs_3_112)
  have hfk_1_113 : z_1[113]? = some (.int v113) := (hre_1 113 (by decide)).trans (hfs_3_113)
  have hfk_1_115 : z_1[115]? = some (.int a1) := (hre_1 115 (by decide)).trans (hfs_3_115)
  have hrq_1 : ∀ j : Nat, j ≠ 114 → j ≠ 115 → z_1[j]? = zs[j]? := fun j g114 g115 => (hre_1 j g114).trans (hrs_4 j g114 g115)
  obtain ⟨rfl, hz_1⟩ := hwa_1
  rcases hz_1 with rfl | rfl
  · rw [if_pos rfl] at hsp
    refine lv_if_eq (tgt := 41) hx hb dX13_scan_22 (by decide) (fun c_7 => ?_) (fun c_7 => (show False by revert c_7; decide).elim)
    exact hj_41 (H, locs, ls, z_1, a1, f102, (upd f103 (a1 : Int32).toNatClampNeg 0), f104, f105, f106, f107, f108, f109, f110, f111, u1_1, a1) ⟨lv_sub hl [0, 1] rfl, hS, hD.sub (ws' := [(h0, .inr (13, z_1)), (qf103, .inl (cf103, 8, .inl (upd f103 (a1 : Int32).toNatClampNeg 0))), (qf112, .inl (cf112, 6000, .inl f112)), (qf102, .inl (cf102, 2048, .inl f102)), (qf104, .inl (cf104, 8, .inl f104)), (qf105, .inl (cf105, 8, .inl f105)), (qf106, .inl (cf106, 8, .inl f106)), (qf107, .inl (cf107, 96, .inl f107)), (qf108, .inl (cf108, 8, .inl f108)), (qf109, .inl (cf109, 96, .inl f109)), (qf110, .inl (cf110, 96, .inl f110)), (qf111, .inl (cf111, 96, .inl f111))]) [11, 0, 1, 2, 3, 4, 5, 6, 7, 8, 9, 10] (by decide) rfl, hP.sub (ws' := [(h0, .inr (13, z_1)), (qf103, .inl (cf103, 8, .inl (upd f103 (a1 : Int32).toNatClampNeg 0))), (qf112, .inl (cf112, 6000, .inl f112)), (qf102, .inl (cf102, 2048, .inl f102)), (qf104, .inl (cf104, 8, .inl f104)), (qf105, .inl (cf105, 8, .inl f105)), (qf106, .inl (cf106, 8, .inl f106)), (qf107, .inl (cf107, 96, .inl f107)), (qf108, .inl (cf108, 8, .inl f108)), (qf109, .inl (cf109, 96, .inl f109)), (qf110, .inl (cf110, 96, .inl f110)), (qf111, .inl (cf111, 96, .inl f111))]) [11, 0, 1, 2, 3, 4, 5, 6, 7, 8, 9, 10] rfl, hfk_1_102, hfk_1_103, hfk_1_104, hfk_1_105, hfk_1_106, hfk_1_107, hfk_1_108, hfk_1_109, hfk_1_110, hfk_1_111, hfk_1_112, hfk_1_113, hch_1_114, hfk_1_115, hln_1, hrq_1, hsp⟩
  · rw [if_neg (by decide)] at hsp
    refine lv_if_eq (tgt := 41) hx hb dX13_scan_22 (by decide) (fun c_8 => (show False by revert c_8; decide).elim) (fun c_8 => ?_)
    refine lv_aload_n hx hb dX13_scan_25 rfl (lv_at hl 0 rfl) ?_
    refine va_get (D := (dC, dI)) (ci := 13) (v := .ref qf112) (C := RX13) (T := TX13) (N := 155) hx hb hts uV_h9_X13 hown hK hP 11 rfl rfl 112 (by decide) (hts (.fieldLink RX13 245 "ClassMillModel" "look" "[I") mw_h9_242) (fun _ h9 => h9) hfk_1_112 dX13_scan_26 ?_
    refine lv_iconst (v := 0) hx hb dX13_scan_29 (by decide) ?_
    refine va_iald hx hb hK hP 1 1 rfl rfl (i := 0) (by unfold vp_in; decide) dX13_scan_30 ?_
    refine lv_bipush (v := 74) hx hb dX13_scan_31 (by decide) ?_
    refine lv_icmp_eq (tgt := 41) hx hb dX13_scan_33 (by decide) (fun c_9 => ?_) (fun c_9 => ?_)
    · rw [if_pos c_9] at hsp
      exact hj_41 (H, locs, ls, z_1, a1, f102, (upd f103 (a1 : Int32).toNatClampNeg 0), f104, f105, f106, f107, f108, f109, f110, f111, u1_1, a1) ⟨lv_sub hl [0, 1] rfl, hS, hD.sub (ws' := [(h0, .inr (13, z_1)), (qf103, .inl (cf103, 8, .inl (upd f103 (a1 : Int32).toNatClampNeg 0))), (qf112, .inl (cf112, 6000, .inl f112)), (qf102, .inl (cf102, 2048, .inl f102)), (qf104, .inl (cf104, 8, .inl f104)), (qf105, .inl (cf105, 8, .inl f105)), (qf106, .inl (cf106, 8, .inl f106)), (qf107, .inl (cf107, 96, .inl f107)), (qf108, .inl (cf108, 8, .inl f108)), (qf109, .inl (cf109, 96, .inl f109)), (qf110, .inl (cf110, 96, .inl f110)), (qf111, .inl (cf111, 96, .inl f111))]) [11, 0, 1, 2, 3, 4, 5, 6, 7, 8, 9, 10] (by decide) rfl, hP.sub (ws' := [(h0, .inr (13, z_1)), (qf103, .inl (cf103, 8, .inl (upd f103 (a1 : Int32).toNatClampNeg 0))), (qf112, .inl (cf112, 6000, .inl f112)), (qf102, .inl (cf102, 2048, .inl f102)), (qf104, .inl (cf104, 8, .inl f104)), (qf105, .inl (cf105, 8, .inl f105)), (qf106, .inl (cf106, 8, .inl f106)), (qf107, .inl (cf107, 96, .inl f107)), (qf108, .inl (cf108, 8, .inl f108)), (qf109, .inl (cf109, 96, .inl f109)), (qf110, .inl (cf110, 96, .inl f110)), (qf111, .inl (cf111, 96, .inl f111))]) [11, 0, 1, 2, 3, 4, 5, 6, 7, 8, 9, 10] rfl, hfk_1_102, hfk_1_103, hfk_1_104, hfk_1_105, hfk_1_106, hfk_1_107, hfk_1_108, hfk_1_109, hfk_1_110, hfk_1_111, hfk_1_112, hfk_1_113, hch_1_114, hfk_1_115, hln_1, hrq_1, hsp⟩
    · rw [if_neg c_9] at hsp
      refine lv_aload_n hx hb dX13_scan_36 rfl (lv_at hl 0 rfl) ?_
      refine lv_iconst (v := 0) hx hb dX13_scan_37 (by decide) ?_
      obtain ⟨u2_0, hu_2, hsp⟩ := ox_bind hsp
      try dsimp only at hsp
      have hPc := hP.sub (ws' := [(h0, .inr (13, z_1))]) [11] rfl
      have hDc := hD.sub (ws' := [(h0, .inr (13, z_1))]) [11] (by decide) rfl
      have hKc := hK.sub (tys' := []) [] rfl
      have hFc := va_free (wc := [(h0, .inr (13, z_1))]) hD hS hA [11] rfl
      refine va_callv (va_runV (As := [.int 0]) (rest := []) ⟨hx, hb, hml, hown, hts⟩ (tm_unfit l dC dI H.size h0 z_1 0 u1_1 nf u2_0 hln_1 hch_1_114 hu_2) (cwV 1 hts gv_h9_48 rfl rfl rfl (by decide +kernel) ⟨Nat.le_of_ble_eq_true rfl, Nat.le_of_ble_eq_true rfl⟩) ⟨fun a U g mk q => by obtain ⟨q0, q1, qP, qK, qD⟩ := q; exact ⟨q0, q1, qP, va_K.moved (u := U) (U := U.calling g mk a) (Vm.Alike.refl U.vm) qK, qD⟩, va_recv hKc hPc (ci := 13) (q0 := 0) rfl rfl, fun U hU hW => ⟨rfl, by rw [hU], by rw [hU]; exact hPc, va_K.moved hW.alike hKc, hDc.weaken (fun _ _ _ _ => trivial)⟩⟩ rfl rfl hl.1 rfl (lv_room (Nat.le_of_ble_eq_true rfl)) dX13_scan_38 ⟨Nat.le_of_ble_eq_true rfl, Nat.le_of_ble_eq_true rfl⟩) hS (fun q _ h => hFc q h) hFc ?_
      clear hS
      intro u t H1 locs ht hvm hw hB hz1 hk1 hS
      obtain ⟨z_2, rfl⟩ : ∃ z, z = u := ⟨_, rfl⟩
      obtain ⟨hP1, hK1, hD1⟩ := hB
      rw [ht] at hP1
      have hK1 := va_K.moved hvm.symm hK1
      try dsimp only at hw
      have hPD := va_join (wr := [(qf103, .inl (cf103, 8, .inl (upd f103 (a1 : Int32).toNatClampNeg 0))), (qf112, .inl (cf112, 6000, .inl f112)), (qf102, .inl (cf102, 2048, .inl f102)), (qf104, .inl (cf104, 8, .inl f104)), (qf105, .inl (cf105, 8, .inl f105)), (qf106, .inl (cf106, 8, .inl f106)), (qf107, .inl (cf107, 96, .inl f107)), (qf108, .inl (cf108, 8, .inl f108)), (qf109, .inl (cf109, 96, .inl f109)), (qf110, .inl (cf110, 96, .inl f110)), (qf111, .inl (cf111, 96, .inl f111))]) (w1 := [(h0, .inr (13, z_2))]) hP hD [11] [0, 1, 2, 3, 4, 5, 6, 7, 8, 9, 10] rfl rfl (by decide) (by decide) hk1 hFc hP1 hD1
      clear hP hD
      obtain ⟨hP, hD⟩ := hPD
      replace hK := (hK.sub (tys' := [(cf103, .int), (cf112, .int), (cf102, .int), (cf104, .int), (cf105, .int), (cf106, .int), (cf107, .int), (cf108, .int), (cf109, .int), (cf110, .int), (cf111, .int)]) [0, 1, 2, 3, 4, 5, 6, 7, 8, 9, 10] rfl).app hK1
      clear hPc hDc hKc hFc hP1 hK1 hD1 hz1 hk1 ht hvm
      generalize H1 = H at hP hS ⊢
      replace hP : va_P (dC, dI) vwCl [(qf103, .inl (cf103, 8, .inl (upd f103 (a1 : Int32).toNatClampNeg 0))), (qf112, .inl (cf112, 6000, .inl f112)), (qf102, .inl (cf102, 2048, .inl f102)), (qf104, .inl (cf104, 8, .inl f104)), (qf105, .inl (cf105, 8, .inl f105)), (qf106, .inl (cf106, 8, .inl f106)), (qf107, .inl (cf107, 96, .inl f107)), (qf108, .inl (cf108, 8, .inl f108)), (qf109, .inl (cf109, 96, .inl f109)), (qf110, .inl (cf110, 96, .inl f110)), (qf111, .inl (cf111, 96, .inl f111)), (h0, .inr (13, z_2))] H := hP
      replace hD : va_D A [(qf103, .inl (cf103, 8, .inl (upd f103 (a1 : Int32).toNatClampNeg 0))), (qf112, .inl (cf112, 6000, .inl f112)), (qf102, .inl (cf102, 2048, .inl f102)), (qf104, .inl (cf104, 8, .inl f104)), (qf105, .inl (cf105, 8, .inl f105)), (qf106, .inl (cf106, 8, .inl f106)), (qf107, .inl (cf107, 96, .inl f107)), (qf108, .inl (cf108, 8, .inl f108)), (qf109, .inl (cf109, 96, .inl f109)), (qf110, .inl (cf110, 96, .inl f110)), (qf111, .inl (cf111, 96, .inl f111)), (h0, .inr (13, z_2))] := hD
      replace hK : va_K (dC, dI) vwCl [(cf103, .int), (cf112, .int), (cf102, .int), (cf104, .int), (cf105, .int), (cf106, .int), (cf107, .int), (cf108, .int), (cf109, .int), (cf110, .int), (cf111, .int)] s := hK
      obtain ⟨hwa_2, hln_2, hre_2, hch_2_114⟩ := hw
      have hfk_2_102 : z_2[102]? = some (.ref qf102) := (hre_2 102 (by decide)).trans (hfk_1_102)
      have hfk_2_103 : z_2[103]? = some (.ref qf103) := (hre_2 103 (by decide)).trans (hfk_1_103)
      have hfk_2_104 : z_2[104]? = some (.ref qf104) := (hre_2 104 (by decide)).trans (hfk_1_104)
      have hfk_2_105 : z_2[105]? = some (.ref qf105) := (hre_2 105 (by decide)).trans (hfk_1_105)
      have hfk_2_106 : z_2[106]? = some (.ref qf106) := (hre_2 106 (by decide)).trans (hfk_1_106)
      have hfk_2_107 : z_2[107]? = some (.ref qf107) := (hre_2 107 (by decide)).trans (hfk_1_107)
      have hfk_2_108 : z_2[108]? = some (.ref qf108) := (hre_2 108 (by decide)).trans (hfk_1_108)
      have hfk_2_109 : z_2[109]? = some (.ref qf109) := (hre_2 109 (by decide)).trans (hfk_1_109)
      have hfk_2_110 : z_2[110]? = some (.ref qf110) := (hre_2 110 (by decide)).trans (hfk_1_110)
      have hfk_2_111 : z_2[111]? = some (.ref qf111) := (hre_2 111 (by decide)).trans (hfk_1_111)
      have hfk_2_112 : z_2[112]? = some (.ref qf112) := (hre_2 112 (by decide)).trans (hfk_1_112)
      have hfk_2_113 : z_2[113]? = some (.int v113) := (hre_2 113 (by decide)).trans (hfk_1_113)
      have hfk_2_115 : z_2[115]? = some (.int a1) := (hre_2 115 (by decide)).trans (hfk_1_115)
      have hrq_2 : ∀ j : Nat, j ≠ 114 → j ≠ 115 → z_2[j]? = zs[j]? := fun j g114 g115 => (hre_2 j g114).trans (hrq_1 j g114 g115)
      exact hj_41 (H, locs, ls, z_2, a1, f102, (upd f103 (a1 : Int32).toNatClampNeg 0), f104, f105, f106, f107, f108, f109, f110, f111, u2_0, a1) ⟨lv_sub hl [0, 1] rfl, hS, hD.sub (ws' := [(h0, .inr (13, z_2)), (qf103, .inl (cf103, 8, .inl (upd f103 (a1 : Int32).toNatClampNeg 0))), (qf112, .inl (cf112, 6000, .inl f112)), (qf102, .inl (cf102, 2048, .inl f102)), (qf104, .inl (cf104, 8, .inl f104)), (qf105, .inl (cf105, 8, .inl f105)), (qf106, .inl (cf106, 8, .inl f106)), (qf107, .inl (cf107, 96, .inl f107)), (qf108, .inl (cf108, 8, .inl f108)), (qf109, .inl (cf109, 96, .inl f109)), (qf110, .inl (cf110, 96, .inl f110)), (qf111, .inl (cf111, 96, .inl f111))]) [11, 0, 1, 2, 3, 4, 5, 6, 7, 8, 9, 10] (by decide) rfl, hP.sub (ws' := [(h0, .inr (13, z_2)), (qf103, .inl (cf103, 8, .inl (upd f103 (a1 : Int32).toNatClampNeg 0))), (qf112, .inl (cf112, 6000, .inl f112)), (qf102, .inl (cf102, 2048, .inl f102)), (qf104, .inl (cf104, 8, .inl f104)), (qf105, .inl (cf105, 8, .inl f105)), (qf106, .inl (cf106, 8, .inl f106)), (qf107, .inl (cf107, 96, .inl f107)), (qf108, .inl (cf108, 8, .inl f108)), (qf109, .inl (cf109, 96, .inl f109)), (qf110, .inl (cf110, 96, .inl f110)), (qf111, .inl (cf111, 96, .inl f111))]) [11, 0, 1, 2, 3, 4, 5, 6, 7, 8, 9, 10] rfl, hfk_2_102, hfk_2_103, hfk_2_104, hfk_2_105, hfk_2_106, hfk_2_107, hfk_2_108, hfk_2_109, hfk_2_110, hfk_2_111, hfk_2_112, hfk_2_113, hch_2_114, hfk_2_115, hln_2, hrq_2, hsp⟩
def sp_vm_loaded (nf : Nat) (v98 : Int32) (v99 : Int32) (v113 : Int32) (v138 : Int32) (f103 : Nat → Int32) (f112 : Nat → Int32) (f102 : Nat → Int32) (f104 : Nat → Int32) (f105 : Nat → Int32) (f106 : Nat → Int32) (f107 : Nat → Int32) (f108 : Nat → Int32) (f109 : Nat → Int32) (f110 : Nat → Int32) (f111 : Nat → Int32) (f100 : Nat → Int32) (f101 : Nat → Int32) (f116 : Nat → Int32) (nS477 : Nat) (fS477 : Nat → Int32) : Option (Int32 × (Nat → Int32) × (Nat → Int32) × (Nat → Int32) × (Nat → Int32) × (Nat → Int32) × (Nat → Int32) × (Nat → Int32) × (Nat → Int32) × (Nat → Int32) × (Nat → Int32) × (Nat → Int32) × (Nat → Int32) × (Nat → Int32) × Int32 × Int32 × Int32 × Int32 × Int32) := (if v98 = 8 then ((sp_vm_aside nf 7 f103 f116 f104 f105 f106 f108 f107 f109 f110 f111 f102).bind (fun p4 => ((sp_vm_scan nf 7 v113 f103 f112 f102 f104 f105 f106 f107 f108 f109 f110 f111).bind (fun p5 => ((sp_vm_again nf 7 p4 p5.2.1 p5.2.2.1 p5.2.2.2.1 p5.2.2.2.2.1 p5.2.2.2.2.2.2.1 p5.2.2.2.2.2.1 p5.2.2.2.2.2.2.2.1 p5.2.2.2.2.2.2.2.2.1 p5.2.2.2.2.2.2.2.2.2.1 p5.1).bind (fun p6 => (if p5.2.2.2.2.2.2.2.2.2.2.1 = (-1) then (some ((-1), f100, f101, p6.1, p6.2.1, p6.2.2.1, p6.2.2.2.1, p6.2.2.2.2.1, p6.2.2.2.2.2.1, p6.2.2.2.2.2.2.1, p6.2.2.2.2.2.2.2.1, p6.2.2.2.2.2.2.2.2.1, p6.2.2.2.2.2.2.2.2.2, p4, p5.2.2.2.2.2.2.2.2.2.2.1, p5.2.2.2.2.2.2.2.2.2.2.2, v138, v98, v99)) else (some (((-2) - p5.2.2.2.2.2.2.2.2.2.2.1), f100, f101, p6.1, p6.2.1, p6.2.2.1, p6.2.2.2.1, p6.2.2.2.2.1, p6.2.2.2.2.2.1, p6.2.2.2.2.2.2.1, p6.2.2.2.2.2.2.2.1, p6.2.2.2.2.2.2.2.2.1, p6.2.2.2.2.2.2.2.2.2, p4, p5.2.2.2.2.2.2.2.2.2.2.1, p5.2.2.2.2.2.2.2.2.2.2.2, v138, v98, v99))))))))) else ((sp_vm_scan nf v98 v113 f103 f112 f102 f104 f105 f106 f107 f108 f109 f110 f111).bind (fun p1 => (if p1.2.2.2.2.2.2.2.2.2.2.1 = (-1) then (if v98 < 0 then none else if 8 ≤ (v98 : Int32).toNatClampNeg then none else (if ((256 * v98) + (p1.2.2.1 (v98 : Int32).toNatClampNeg)) < 0 then none else if 2048 ≤ (((256 * v98) + (p1.2.2.1 (v98 : Int32).toNatClampNeg)) : Int32).toNatClampNeg then none else (if ((p1.1 (((256 * v98) + (p1.2.2.1 (v98 : Int32).toNatClampNeg)) : Int32).toNatClampNeg) + 1) < 0 then none else if 6000 ≤ (((p1.1 (((256 * v98) + (p1.2.2.1 (v98 : Int32).toNatClampNeg)) : Int32).toNatClampNeg) + 1) : Int32).toNatClampNeg then none else (if ((256 * v98) + (f112 (((p1.1 (((256 * v98) + (p1.2.2.1 (v98 : Int32).toNatClampNeg)) : Int32).toNatClampNeg) + 1) : Int32).toNatClampNeg)) < 0 then none else if 2048 ≤ (((256 * v98) + (f112 (((p1.1 (((256 * v98) + (p1.2.2.1 (v98 : Int32).toNatClampNeg)) : Int32).toNatClampNeg) + 1) : Int32).toNatClampNeg)) : Int32).toNatClampNeg then none else (if ((p1.1 (((256 * v98) + (f112 (((p1.1 (((256 * v98) + (p1.2.2.1 (v98 : Int32).toNatClampNeg)) : Int32).toNatClampNeg) + 1) : Int32).toNatClampNeg)) : Int32).toNatClampNeg) + 1) < 0 then none else if 6000 ≤ (((p1.1 (((256 * v98) + (f112 (((p1.1 (((256 * v98) + (p1.2.2.1 (v98 : Int32).toNatClampNeg)) : Int32).toNatClampNeg) + 1) : Int32).toNatClampNeg)) : Int32).toNatClampNeg) + 1) : Int32).toNatClampNeg then none else ((sp_vm_classNamed nf ((p1.1 (((256 * v98) + (f112 (((p1.1 (((256 * v98) + (p1.2.2.1 (v98 : Int32).toNatClampNeg)) : Int32).toNatClampNeg) + 1) : Int32).toNatClampNeg)) : Int32).toNatClampNeg) + 2) (f112 (((p1.1 (((256 * v98) + (f112 (((p1.1 (((256 * v98) + (p1.2.2.1 (v98 : Int32).toNatClampNeg)) : Int32).toNatClampNeg) + 1) : Int32).toNatClampNeg)) : Int32).toNatClampNeg) + 1) : Int32).toNatClampNeg) v98 p1.2.2.1 p1.1 f100 6000 f112 nS477 fS477).bind (fun p2 => (if p2 = (-1) then ((sp_tn_install nf v98 v113 f101 f112 f100).bind (fun p3 => (some (p3.1, p3.2.1, p3.2.2, p1.1, p1.2.1, p1.2.2.1, p1.2.2.2.1, p1.2.2.2.2.1, p1.2.2.2.2.2.1, p1.2.2.2.2.2.2.1, p1.2.2.2.2.2.2.2.1, p1.2.2.2.2.2.2.2.2.1, p1.2.2.2.2.2.2.2.2.2.1, f116, p1.2.2.2.2.2.2.2.2.2.2.1, p1.2.2.2.2.2.2.2.2.2.2.2, 0, (v98 + 1), 0)))) else (some ((-1), f100, f101, p1.1, p1.2.1, p1.2.2.1, p1.2.2.2.1, p1.2.2.2.2.1, p1.2.2.2.2.2.1, p1.2.2.2.2.2.2.1, p1.2.2.2.2.2.2.2.1, p1.2.2.2.2.2.2.2.2.1, p1.2.2.2.2.2.2.2.2.2.1, f116, p1.2.2.2.2.2.2.2.2.2.2.1, p1.2.2.2.2.2.2.2.2.2.2.2, v138, v98, v99)))))))))) else (some (((-2) - p1.2.2.2.2.2.2.2.2.2.2.1), f100, f101, p1.1, p1.2.1, p1.2.2.1, p1.2.2.2.1, p1.2.2.2.2.1, p1.2.2.2.2.2.1, p1.2.2.2.2.2.2.1, p1.2.2.2.2.2.2.2.1, p1.2.2.2.2.2.2.2.2.1, p1.2.2.2.2.2.2.2.2.2.1, f116, p1.2.2.2.2.2.2.2.2.2.2.1, p1.2.2.2.2.2.2.2.2.2.2.2, v138, v98, v99))))))

set_option maxHeartbeats 4000000 in
set_option maxRecDepth 100000 in
/-- ClassMillModel.patch -/
theorem vm_patch (l : Launch) (dC : Nat → ClassId) (dI : Nat → Nat → Nat) (sz : Nat) (h0 : Nat) (zs : (List Value)) (a1 : Int32) (a2 : Int32) (a3 : Int32) (v98 : Int32) (v99 : Int32) (qf100 : Nat) (qf101 : Nat) (qf102 : Nat) (qf103 : Nat) (qf104 : Nat) (qf105 : Nat) (qf106 : Nat) (qf107 : Nat) (qf108 : Nat) (qf109 : Nat) (qf110 : Nat) (qf111 : Nat) (qf112 : Nat) (v113 : Int32) (v114 : Int32) (v115 : Int32) (qf116 : Nat) (v138 : Int32) (cf101 : ClassId) (f101 : (Nat → Int32)) (cf112 : ClassId) (f112 : (Nat → Int32)) (cf103 : ClassId) (f103 : (Nat → Int32)) (cf116 : ClassId) (f116 : (Nat → Int32)) (cf104 : ClassId) (f104 : (Nat → Int32)) (cf105 : ClassId) (f105 : (Nat → Int32)) (cf106 : ClassId) (f106 : (Nat → Int32)) (cf108 : ClassId) (f108 : (Nat → Int32)) (cf107 : ClassId) (f107 : (Nat → Int32)) (cf109 : ClassId) (f109 : (Nat → Int32)) (cf110 : ClassId) (f110 : (Nat → Int32)) (cf111 : ClassId) (f111 : (Nat → Int32)) (cf102 : ClassId) (f102 : (Nat → Int32)) (cf100 : ClassId) (f100 : (Nat → Int32)) (nS477 : Nat) (fS477 : (Nat → Int32)) (hS477 : Nat) (qS477 : Nat) (tS477 : String) (nf : Nat) (r0 : Int32) (o100 : (Nat → Int32)) (o101 : (Nat → Int32)) (o102 : (Nat → Int32)) (o103 : (Nat → Int32)) (o104 : (Nat → Int32)) (o105 : (Nat → Int32)) (o106 : (Nat → Int32)) (o107 : (Nat → Int32)) (o108 : (Nat → Int32)) (o109 : (Nat → Int32)) (o110 : (Nat → Int32)) (o111 : (Nat → Int32)) (o112 : (Nat → Int32)) (o116 : (Nat → Int32)) (w113 : Int32) (w114 : Int32) (w115 : Int32) (w138 : Int32) (w99 : Int32) (hlen : zs.length = 155) (hf98 : zs[98]? = some (.int v98)) (hf99 : zs[99]? = some (.int v99)) (hf100 : zs[100]? = some (.ref qf100)) (hf101 : zs[101]? = some (.ref qf101)) (hf102 : zs[102]? = some (.ref qf102)) (hf103 : zs[103]? = some (.ref qf103)) (hf104 : zs[104]? = some (.ref qf104)) (hf105 : zs[105]? = some (.ref qf105)) (hf106 : zs[106]? = some (.ref qf106)) (hf107 : zs[107]? = some (.ref qf107)) (hf108 : zs[108]? = some (.ref qf108)) (hf109 : zs[109]? = some (.ref qf109)) (hf110 : zs[110]? = some (.ref qf110)) (hf111 : zs[111]? = some (.ref qf111)) (hf112 : zs[112]? = some (.ref qf112)) (hf113 : zs[113]? = some (.int v113)) (hf114 : zs[114]? = some (.int v114)) (hf115 : zs[115]? = some (.int v115)) (hf116 : zs[116]? = some (.ref qf116)) (hf138 : zs[138]? = some (.int v138)) (hsp : sp_vm_patch nf a1 a2 a3 v98 v99 v113 v114 v115 v138 f101 f112 f103 f116 f104 f105 f106 f108 f107 f109 f110 f111 f102 f100 nS477 fS477 = some (r0, o100, o101, o102, o103, o104, o105, o106, o107, o108, o109, o110, o111, o112, o116, w113, w114, w115, w138, w99)) : Met l yX13_patch (.code yX13_patch cX13_patch 8 (some .boolean) :: VS_h9) ({ frames := 10, cells := 0, slots := 0, locals := 238 }) (va_Pc [.ref h0, .int a1, .int a2, .int a3] (fun U => U.heap.size = sz ∧ va_P (dC, dI) vwCl [(h0, .inr (13, zs)), (qf101, .inl (cf101, 8, .inl f101)), (qf112, .inl (cf112, 6000, .inl f112)), (qf103, .inl (cf103, 8, .inl f103)), (qf116, .inl (cf116, 309, .inl f116)), (qf104, .inl (cf104, 8, .inl f104)), (qf105, .inl (cf105, 8, .inl f105)), (qf106, .inl (cf106, 8, .inl f106)), (qf108, .inl (cf108, 8, .inl f108)), (qf107, .inl (cf107, 96, .inl f107)), (qf109, .inl (cf109, 96, .inl f109)), (qf110, .inl (cf110, 96, .inl f110)), (qf111, .inl (cf111, 96, .inl f111)), (qf102, .inl (cf102, 2048, .inl f102)), (qf100, .inl (cf100, 48000, .inl f100))] U.heap ∧ va_K (dC, dI) vwCl [(cf101, .int), (cf112, .int), (cf103, .int), (cf116, .int), (cf104, .int), (cf105, .int), (cf106, .int), (cf108, .int), (cf107, .int), (cf109, .int), (cf110, .int), (cf111, .int), (cf102, .int), (cf100, .int)] U ∧ va_D (fun _ => True) [(h0, .inr (13, zs)), (qf101, .inl (cf101, 8, .inl f101)), (qf112, .inl (cf112, 6000, .inl f112)), (qf103, .inl (cf103, 8, .inl f103)), (qf116, .inl (cf116, 309, .inl f116)), (qf104, .inl (cf104, 8, .inl f104)), (qf105, .inl (cf105, 8, .inl f105)), (qf106, .inl (cf106, 8, .inl f106)), (qf108, .inl (cf108, 8, .inl f108)), (qf107, .inl (cf107, 96, .inl f107)), (qf109, .inl (cf109, 96, .inl f109)), (qf110, .inl (cf110, 96, .inl f110)), (qf111, .inl (cf111, 96, .inl f111)), (qf102, .inl (cf102, 2048, .inl f102)), (qf100, .inl (cf100, 48000, .inl f100))] ∧ pz_W nS477 fS477 hS477 qS477 (va_A [(h0, .inr (13, zs)), (qf101, .inl (cf101, 8, .inl f101)), (qf112, .inl (cf112, 6000, .inl f112)), (qf103, .inl (cf103, 8, .inl f103)), (qf116, .inl (cf116, 309, .inl f116)), (qf104, .inl (cf104, 8, .inl f104)), (qf105, .inl (cf105, 8, .inl f105)), (qf106, .inl (cf106, 8, .inl f106)), (qf108, .inl (cf108, 8, .inl f108)), (qf107, .inl (cf107, 96, .inl f107)), (qf109, .inl (cf109, 96, .inl f109)), (qf110, .inl (cf110, 96, .inl f110)), (qf111, .inl (cf111, 96, .inl f111)), (qf102, .inl (cf102, 2048, .inl f102)), (qf100, .inl (cf100, 48000, .inl f100))] sz) U U.heap ∧ vk_R RX13 477 tS477 hS477 U)) (va_Qi (fun (r : Int32) (u : (List Value)) => match u with | (zo1) => (r0 = r ∧ (r0 = 0 ∨ r0 = 1)) ∧ zo1.length = 155 ∧ (∀ j : Nat, j ≠ 113 → j ≠ 114 → j ≠ 115 → j ≠ 138 → j ≠ 99 → zo1[j]? = zs[j]?) ∧ zo1[113]? = some (.int w113) ∧ zo1[114]? = some (.int w114) ∧ zo1[115]? = some (.int w115) ∧ zo1[138]? = some (.int w138) ∧ zo1[99]? = some (.int w99)) (fun (u : (List Value)) (t : State) => match u with | (zo1) => va_P (dC, dI) vwCl [(h0, .inr (13, zo1)), (qf101, .inl (cf101, 8, .inl o101)), (qf112, .inl (cf112, 6000, .inl o112)), (qf103, .inl (cf103, 8, .inl o103)), (qf116, .inl (cf116, 309, .inl o116)), (qf104, .inl (cf104, 8, .inl o104)), (qf105, .inl (cf105, 8, .inl o105)), (qf106, .inl (cf106, 8, .inl o106)), (qf108, .inl (cf108, 8, .inl o108)), (qf107, .inl (cf107, 96, .inl o107)), (qf109, .inl (cf109, 96, .inl o109)), (qf110, .inl (cf110, 96, .inl o110)), (qf111, .inl (cf111, 96, .inl o111)), (qf102, .inl (cf102, 2048, .inl o102)), (qf100, .inl (cf100, 48000, .inl o100))] t.heap ∧ va_K (dC, dI) vwCl [(cf101, .int), (cf112, .int), (cf103, .int), (cf116, .int), (cf104, .int), (cf105, .int), (cf106, .int), (cf108, .int), (cf107, .int), (cf109, .int), (cf110, .int), (cf111, .int), (cf102, .int), (cf100, .int)] t ∧ va_D (va_A [(h0, .inr (13, zs)), (qf101, .inl (cf101, 8, .inl f101)), (qf112, .inl (cf112, 6000, .inl f112)), (qf103, .inl (cf103, 8, .inl f103)), (qf116, .inl (cf116, 309, .inl f116)), (qf104, .inl (cf104, 8, .inl f104)), (qf105, .inl (cf105, 8, .inl f105)), (qf106, .inl (cf106, 8, .inl f106)), (qf108, .inl (cf108, 8, .inl f108)), (qf107, .inl (cf107, 96, .inl f107)), (qf109, .inl (cf109, 96, .inl f109)), (qf110, .inl (cf110, 96, .inl f110)), (qf111, .inl (cf111, 96, .inl f111)), (qf102, .inl (cf102, 2048, .inl f102)), (qf100, .inl (cf100, 48000, .inl f100))] sz) [(h0, .inr (13, zo1)), (qf101, .inl (cf101, 8, .inl o101)), (qf112, .inl (cf112, 6000, .inl o112)), (qf103, .inl (cf103, 8, .inl o103)), (qf116, .inl (cf116, 309, .inl o116)), (qf104, .inl (cf104, 8, .inl o104)), (qf105, .inl (cf105, 8, .inl o105)), (qf106, .inl (cf106, 8, .inl o106)), (qf108, .inl (cf108, 8, .inl o108)), (qf107, .inl (cf107, 96, .inl o107)), (qf109, .inl (cf109, 96, .inl o109)), (qf110, .inl (cf110, 96, .inl o110)), (qf111, .inl (cf111, 96, .inl o111)), (qf102, .inl (cf102, 2048, .inl o102)), (qf100, .inl (cf100, 48000, .inl o100))]) (va_A [(h0, .inr (13, zs)), (qf101, .inl (cf101, 8, .inl f101)), (qf112, .inl (cf112, 6000, .inl f112)), (qf103, .inl (cf103, 8, .inl f103)), (qf116, .inl (cf116, 309, .inl f116)), (qf104, .inl (cf104, 8, .inl f104)), (qf105, .inl (cf105, 8, .inl f105)), (qf106, .inl (cf106, 8, .inl f106)), (qf108, .inl (cf108, 8, .inl f108)), (qf107, .inl (cf107, 96, .inl f107)), (qf109, .inl (cf109, 96, .inl f109)), (qf110, .inl (cf110, 96, .inl f110)), (qf111, .inl (cf111, 96, .inl f111)), (qf102, .inl (cf102, 2048, .inl f102)), (qf100, .inl (cf100, 48000, .inl f100))] sz)) 0 0 (va_A [(h0, .inr (13, zs)), (qf101, .inl (cf101, 8, .inl f101)), (qf112, .inl (cf112, 6000, .inl f112)), (qf103, .inl (cf103, 8, .inl f103)), (qf116, .inl (cf116, 309, .inl f116)), (qf104, .inl (cf104, 8, .inl f104)), (qf105, .inl (cf105, 8, .inl f105)), (qf106, .inl (cf106, 8, .inl f106)), (qf108, .inl (cf108, 8, .inl f108)), (qf107, .inl (cf107, 96, .inl f107)), (qf109, .inl (cf109, 96, .inl f109)), (qf110, .inl (cf110, 96, .inl f110)), (qf111, .inl (cf111, 96, .inl f111)), (qf102, .inl (cf102, 2048, .inl f102)), (qf100, .inl (cf100, 48000, .inl f100))] sz) := by
  refine Met.ofW (cc := cX13_patch) (maxL := 8) (ret := (some .boolean)) (by decide) rfl ?_
  intro p e s m args below meth c s₁ B hml hv
  obtain ⟨rfl, hsz, hP, hK, hD0, hZWS477, hZRS477⟩ := hv
  have hx := B.exec
  have hb := B.bytes
  have hr := B.returns
  have hts := atoms_spec (ws := (.code yX13_patch cX13_patch 8 (some .boolean) :: VS_h9)) B.pre
  replace hts := fun w (h : w ∈ VS_h9) => hts w (List.mem_cons_of_mem _ h)
  have hown : s.vm.findClass RX13 = some m.cls := findClass_of_methodNamed B.named
  have hlocks := B.notSynchronized
  subst hsz
  have hD := hD0.self (sz := s.heap.size)
  generalize hAe : va_A [(h0, .inr (13, zs)), (qf101, .inl (cf101, 8, .inl f101)), (qf112, .inl (cf112, 6000, .inl f112)), (qf103, .inl (cf103, 8, .inl f103)), (qf116, .inl (cf116, 309, .inl f116)), (qf104, .inl (cf104, 8, .inl f104)), (qf105, .inl (cf105, 8, .inl f105)), (qf106, .inl (cf106, 8, .inl f106)), (qf108, .inl (cf108, 8, .inl f108)), (qf107, .inl (cf107, 96, .inl f107)), (qf109, .inl (cf109, 96, .inl f109)), (qf110, .inl (cf110, 96, .inl f110)), (qf111, .inl (cf111, 96, .inl f111)), (qf102, .inl (cf102, 2048, .inl f102)), (qf100, .inl (cf100, 48000, .inl f100))] s.heap.size = A at hD hZWS477 ⊢
  have hA : ∀ q : Nat, s.heap.size ≤ q → A q := fun q h => by rw [← hAe]; exact Or.inr h
  have hP : va_P (dC, dI) vwCl [(h0, .inr (13, zs)), (qf101, .inl (cf101, 8, .inl f101)), (qf112, .inl (cf112, 6000, .inl f112)), (qf103, .inl (cf103, 8, .inl f103)), (qf116, .inl (cf116, 309, .inl f116)), (qf104, .inl (cf104, 8, .inl f104)), (qf105, .inl (cf105, 8, .inl f105)), (qf106, .inl (cf106, 8, .inl f106)), (qf108, .inl (cf108, 8, .inl f108)), (qf107, .inl (cf107, 96, .inl f107)), (qf109, .inl (cf109, 96, .inl f109)), (qf110, .inl (cf110, 96, .inl f110)), (qf111, .inl (cf111, 96, .inl f111)), (qf102, .inl (cf102, 2048, .inl f102)), (qf100, .inl (cf100, 48000, .inl f100))] s.heap := hP
  have hl := lv_entry ([.ref h0, .int a1, .int a2, .int a3]) (n := 8) (Nat.le_of_ble_eq_true rfl)
  rw [lg_entry_eq]
  generalize (lg_sl ([.ref h0, .int a1, .int a2, .int a3]) ++ List.replicate (8 - (lg_sl ([.ref h0, .int a1, .int a2, .int a3])).length) Slot.unset).toArray = ls at hl ⊢
  have hl : lv_has ls 8 [(0, .ref h0), (1, .int a1), (2, .int a2), (3, .int a3)] := hl
  obtain ⟨H, hH⟩ : ∃ H : Heap, s.heap = H := ⟨_, rfl⟩
  rw [hH] at hP ⊢
  have hS : va_S A s.heap H [] := by rw [← hH]; exact va_S.rf
  obtain ⟨locs, hlo⟩ : ∃ locs : List Loc, locs = [] := ⟨_, rfl⟩
  rw [← hlo] at hS ⊢
  have hrs0 : ∀ j : Nat, j ≠ 113 → j ≠ 114 → j ≠ 115 → j ≠ 138 → j ≠ 99 → zs[j]? = zs[j]? := fun _ _ _ _ _ _  => rfl
  unfold sp_vm_patch at hsp
  refine jn_use (α := Heap × List Loc × Array Slot × List Value × Int32 × Int32 × (Nat → Int32) × (Nat → Int32) × (Nat → Int32) × (Nat → Int32) × (Nat → Int32) × (Nat → Int32) × (Nat → Int32) × (Nat → Int32) × (Nat → Int32) × (Nat → Int32) × (Nat → Int32) × (Nat → Int32) × (Nat → Int32) × (Nat → Int32) × Int32 × Int32 × Int32 × Int32 × Int32) (fun x9 => x9.1) (fun x9 => x9.2.1) (fun x9 => F0 m 235 x9.2.2.1 []) (fun x9 => match x9 with | (H, locs, ls, z235, l4_235, l5_235, g100_235, g101_235, g102_235, g103_235, g104_235, g105_235, g106_235, g107_235, g108_235, g109_235, g110_235, g111_235, g112_235, g116_235, x113_235, x114_235, x115_235, x138_235, x99_235) => lv_has ls 8 [(0, .ref h0), (4, .int l4_235), (5, .int l5_235)] ∧ va_S A s.heap H locs ∧ va_D A [(h0, .inr (13, z235)), (qf101, .inl (cf101, 8, .inl g101_235)), (qf112, .inl (cf112, 6000, .inl g112_235)), (qf103, .inl (cf103, 8, .inl g103_235)), (qf116, .inl (cf116, 309, .inl g116_235)), (qf104, .inl (cf104, 8, .inl g104_235)), (qf105, .inl (cf105, 8, .inl g105_235)), (qf106, .inl (cf106, 8, .inl g106_235)), (qf108, .inl (cf108, 8, .inl g108_235)), (qf107, .inl (cf107, 96, .inl g107_235)), (qf109, .inl (cf109, 96, .inl g109_235)), (qf110, .inl (cf110, 96, .inl g110_235)), (qf111, .inl (cf111, 96, .inl g111_235)), (qf102, .inl (cf102, 2048, .inl g102_235)), (qf100, .inl (cf100, 48000, .inl g100_235))] ∧ va_P (dC, dI) vwCl [(h0, .inr (13, z235)), (qf101, .inl (cf101, 8, .inl g101_235)), (qf112, .inl (cf112, 6000, .inl g112_235)), (qf103, .inl (cf103, 8, .inl g103_235)), (qf116, .inl (cf116, 309, .inl g116_235)), (qf104, .inl (cf104, 8, .inl g104_235)), (qf105, .inl (cf105, 8, .inl g105_235)), (qf106, .inl (cf106, 8, .inl g106_235)), (qf108, .inl (cf108, 8, .inl g108_235)), (qf107, .inl (cf107, 96, .inl g107_235)), (qf109, .inl (cf109, 96, .inl g109_235)), (qf110, .inl (cf110, 96, .inl g110_235)), (qf111, .inl (cf111, 96, .inl g111_235)), (qf102, .inl (cf102, 2048, .inl g102_235)), (qf100, .inl (cf100, 48000, .inl g100_235))] H ∧ z235[98]? = some (.int v98) ∧ z235[99]? = some (.int x99_235) ∧ z235[100]? = some (.ref qf100) ∧ z235[101]? = some (.ref qf101) ∧ z235[102]? = some (.ref qf102) ∧ z235[103]? = some (.ref qf103) ∧ z235[104]? = some (.ref qf104) ∧ z235[105]? = some (.ref qf105) ∧ z235[106]? = some (.ref qf106) ∧ z235[107]? = some (.ref qf107) ∧ z235[108]? = some (.ref qf108) ∧ z235[109]? = some (.ref qf109) ∧ z235[110]? = some (.ref qf110) ∧ z235[111]? = some (.ref qf111) ∧ z235[112]? = some (.ref qf112) ∧ z235[113]? = some (.int x113_235) ∧ z235[114]? = some (.int x114_235) ∧ z235[115]? = some (.int x115_235) ∧ z235[116]? = some (.ref qf116) ∧ z235[138]? = some (.int x138_235) ∧ z235.length = 155 ∧ (∀ j : Nat, j ≠ 113 → j ≠ 114 → j ≠ 115 → j ≠ 138 → j ≠ 99 → z235[j]? = zs[j]?) ∧ jn_vm_patch_235 nf a1 a2 a3 v98 v99 v113 v114 v115 v138 f101 f112 f103 f116 f104 f105 f106 f108 f107 f109 f110 f111 f102 f100 nS477 fS477 l4_235 l5_235 g100_235 g101_235 g102_235 g103_235 g104_235 g105_235 g106_235 g107_235 g108_235 g109_235 g110_235 g111_235 g112_235 g116_235 x113_235 x114_235 x115_235 x138_235 x99_235 = some (r0, o100, o101, o102, o103, o104, o105, o106, o107, o108, o109, o110, o111, o112, o116, w113, w114, w115, w138, w99)) ?_ ?_
  · intro x9 hJ9
    obtain ⟨H, locs, ls, z235, l4_235, l5_235, g100_235, g101_235, g102_235, g103_235, g104_235, g105_235, g106_235, g107_235, g108_235, g109_235, g110_235, g111_235, g112_235, g116_235, x113_235, x114_235, x115_235, x138_235, x99_235⟩ := x9
    obtain ⟨hl, hS, hD, hP, hfh_235_98, hfh_235_99, hfh_235_100, hfh_235_101, hfh_235_102, hfh_235_103, hfh_235_104, hfh_235_105, hfh_235_106, hfh_235_107, hfh_235_108, hfh_235_109, hfh_235_110, hfh_235_111, hfh_235_112, hfh_235_113, hfh_235_114, hfh_235_115, hfh_235_116, hfh_235_138, hlh_235, hrh_235, hsp⟩ := hJ9
    replace hl : lv_has ls 8 [(0, .ref h0), (4, .int l4_235), (5, .int l5_235)] := hl
    replace hS : va_S A s.heap H locs := hS
    replace hD : va_D A [(h0, .inr (13, z235)), (qf101, .inl (cf101, 8, .inl g101_235)), (qf112, .inl (cf112, 6000, .inl g112_235)), (qf103, .inl (cf103, 8, .inl g103_235)), (qf116, .inl (cf116, 309, .inl g116_235)), (qf104, .inl (cf104, 8, .inl g104_235)), (qf105, .inl (cf105, 8, .inl g105_235)), (qf106, .inl (cf106, 8, .inl g106_235)), (qf108, .inl (cf108, 8, .inl g108_235)), (qf107, .inl (cf107, 96, .inl g107_235)), (qf109, .inl (cf109, 96, .inl g109_235)), (qf110, .inl (cf110, 96, .inl g110_235)), (qf111, .inl (cf111, 96, .inl g111_235)), (qf102, .inl (cf102, 2048, .inl g102_235)), (qf100, .inl (cf100, 48000, .inl g100_235))] := hD
    replace hP : va_P (dC, dI) vwCl [(h0, .inr (13, z235)), (qf101, .inl (cf101, 8, .inl g101_235)), (qf112, .inl (cf112, 6000, .inl g112_235)), (qf103, .inl (cf103, 8, .inl g103_235)), (qf116, .inl (cf116, 309, .inl g116_235)), (qf104, .inl (cf104, 8, .inl g104_235)), (qf105, .inl (cf105, 8, .inl g105_235)), (qf106, .inl (cf106, 8, .inl g106_235)), (qf108, .inl (cf108, 8, .inl g108_235)), (qf107, .inl (cf107, 96, .inl g107_235)), (qf109, .inl (cf109, 96, .inl g109_235)), (qf110, .inl (cf110, 96, .inl g110_235)), (qf111, .inl (cf111, 96, .inl g111_235)), (qf102, .inl (cf102, 2048, .inl g102_235)), (qf100, .inl (cf100, 48000, .inl g100_235))] H := hP
    replace hsp : jn_vm_patch_235 nf a1 a2 a3 v98 v99 v113 v114 v115 v138 f101 f112 f103 f116 f104 f105 f106 f108 f107 f109 f110 f111 f102 f100 nS477 fS477 l4_235 l5_235 g100_235 g101_235 g102_235 g103_235 g104_235 g105_235 g106_235 g107_235 g108_235 g109_235 g110_235 g111_235 g112_235 g116_235 x113_235 x114_235 x115_235 x138_235 x99_235 = some (r0, o100, o101, o102, o103, o104, o105, o106, o107, o108, o109, o110, o111, o112, o116, w113, w114, w115, w138, w99) := hsp
    show W _ _ _ _ _ _ _ _ _ _ H locs _ _ _ (F0 m 235 ls [])
    unfold jn_vm_patch_235 at hsp
    try dsimp only at hsp
    refine lv_iload hx hb dX13_patch_235 (lv_at hl 2 rfl) ?_
    refine lv_if_ne (tgt := 248) hx hb dX13_patch_237 (by decide) (fun c_26 => ?_) (fun c_26 => ?_)
    · rw [if_neg c_26] at hsp
      refine lv_aload_n hx hb dX13_patch_248 rfl (lv_at hl 0 rfl) ?_
      refine lv_iload hx hb dX13_patch_249 (lv_at hl 1 rfl) ?_
      obtain ⟨⟨u4_0, g904_1, g904_2⟩, hu_4, hsp⟩ := ox_bind hsp
      try dsimp only at hsp
      have hPc := hP.sub (ws' := [(h0, .inr (13, z235)), (qf101, .inl (cf101, 8, .inl g101_235)), (qf112, .inl (cf112, 6000, .inl g112_235)), (qf100, .inl (cf100, 48000, .inl g100_235))]) [0, 1, 2, 14] rfl
      have hDc := hD.sub (ws' := [(h0, .inr (13, z235)), (qf101, .inl (cf101, 8, .inl g101_235)), (qf112, .inl (cf112, 6000, .inl g112_235)), (qf100, .inl (cf100, 48000, .inl g100_235))]) [0, 1, 2, 14] (by decide) rfl
      have hKc := hK.sub (tys' := [(cf101, .int), (cf112, .int), (cf100, .int)]) [0, 1, 13] rfl
      have hFc := va_free (wc := [(h0, .inr (13, z235)), (qf101, .inl (cf101, 8, .inl g101_235)), (qf112, .inl (cf112, 6000, .inl g112_235)), (qf100, .inl (cf100, 48000, .inl g100_235))]) hD hS hA [0, 1, 2, 14] rfl
      refine va_calli (va_runV (As := [.int l4_235]) (rest := []) ⟨hx, hb, hml, hown, hts⟩ (tn_install l dC dI H.size h0 z235 l4_235 qf100 qf101 qf112 x113_235 cf101 g101_235 cf112 g112_235 cf100 g100_235 nf u4_0 g904_1 g904_2 hlh_235 hfh_235_100 hfh_235_101 hfh_235_112 hfh_235_113 hu_4) (cwV 1 hts gv_h9_92 rfl rfl rfl (by decide +kernel) ⟨Nat.le_of_ble_eq_true rfl, Nat.le_of_ble_eq_true rfl⟩) ⟨fun a U g mk q => by obtain ⟨q0, q1, qP, qK, qD⟩ := q; exact ⟨q0, q1, qP, va_K.moved (u := U) (U := U.calling g mk a) (Vm.Alike.refl U.vm) qK, qD⟩, va_recv hKc hPc (ci := 13) (q0 := 0) rfl rfl, fun U hU hW => ⟨rfl, by rw [hU], by rw [hU]; exact hPc, va_K.moved hW.alike hKc, hDc.weaken (fun _ _ _ _ => trivial)⟩⟩ rfl rfl hl.1 rfl (lv_room (Nat.le_of_ble_eq_true rfl)) dX13_patch_251 ⟨Nat.le_of_ble_eq_true rfl, Nat.le_of_ble_eq_true rfl⟩) hS (fun q _ h => hFc q h) hFc ?_
      clear hS
      intro r_27 u t H1 locs ht hvm hw hB hz1 hk1 hS
      obtain ⟨z_4, rfl⟩ : ∃ z, z = u := ⟨_, rfl⟩
      obtain ⟨hP1, hK1, hD1⟩ := hB
      rw [ht] at hP1
      have hK1 := va_K.moved hvm.symm hK1
      try dsimp only at hw
      have hPD := va_join (wr := [(qf103, .inl (cf103, 8, .inl g103_235)), (qf116, .inl (cf116, 309, .inl g116_235)), (qf104, .inl (cf104, 8, .inl g104_235)), (qf105, .inl (cf105, 8, .inl g105_235)), (qf106, .inl (cf106, 8, .inl g106_235)), (qf108, .inl (cf108, 8, .inl g108_235)), (qf107, .inl (cf107, 96, .inl g107_235)), (qf109, .inl (cf109, 96, .inl g109_235)), (qf110, .inl (cf110, 96, .inl g110_235)), (qf111, .inl (cf111, 96, .inl g111_235)), (qf102, .inl (cf102, 2048, .inl g102_235))]) (w1 := [(h0, .inr (13, z_4)), (qf101, .inl (cf101, 8, .inl g904_2)), (qf112, .inl (cf112, 6000, .inl g112_235)), (qf100, .inl (cf100, 48000, .inl g904_1))]) hP hD [0, 1, 2, 14] [3, 4, 5, 6, 7, 8, 9, 10, 11, 12, 13] rfl rfl (by decide) (by decide) hk1 hFc hP1 hD1
      clear hP hD
      obtain ⟨hP, hD⟩ := hPD
      replace hK := (hK.sub (tys' := [(cf103, .int), (cf116, .int), (cf104, .int), (cf105, .int), (cf106, .int), (cf108, .int), (cf107, .int), (cf109, .int), (cf110, .int), (cf111, .int), (cf102, .int)]) [2, 3, 4, 5, 6, 7, 8, 9, 10, 11, 12] rfl).app hK1
      clear hPc hDc hKc hFc hP1 hK1 hD1 hz1 hk1 ht hvm
      generalize H1 = H at hP hS ⊢
      replace hP : va_P (dC, dI) vwCl [(qf103, .inl (cf103, 8, .inl g103_235)), (qf116, .inl (cf116, 309, .inl g116_235)), (qf104, .inl (cf104, 8, .inl g104_235)), (qf105, .inl (cf105, 8, .inl g105_235)), (qf106, .inl (cf106, 8, .inl g106_235)), (qf108, .inl (cf108, 8, .inl g108_235)), (qf107, .inl (cf107, 96, .inl g107_235)), (qf109, .inl (cf109, 96, .inl g109_235)), (qf110, .inl (cf110, 96, .inl g110_235)), (qf111, .inl (cf111, 96, .inl g111_235)), (qf102, .inl (cf102, 2048, .inl g102_235)), (h0, .inr (13, z_4)), (qf101, .inl (cf101, 8, .inl g904_2)), (qf112, .inl (cf112, 6000, .inl g112_235)), (qf100, .inl (cf100, 48000, .inl g904_1))] H := hP
      replace hD : va_D A [(qf103, .inl (cf103, 8, .inl g103_235)), (qf116, .inl (cf116, 309, .inl g116_235)), (qf104, .inl (cf104, 8, .inl g104_235)), (qf105, .inl (cf105, 8, .inl g105_235)), (qf106, .inl (cf106, 8, .inl g106_235)), (qf108, .inl (cf108, 8, .inl g108_235)), (qf107, .inl (cf107, 96, .inl g107_235)), (qf109, .inl (cf109, 96, .inl g109_235)), (qf110, .inl (cf110, 96, .inl g110_235)), (qf111, .inl (cf111, 96, .inl g111_235)), (qf102, .inl (cf102, 2048, .inl g102_235)), (h0, .inr (13, z_4)), (qf101, .inl (cf101, 8, .inl g904_2)), (qf112, .inl (cf112, 6000, .inl g112_235)), (qf100, .inl (cf100, 48000, .inl g904_1))] := hD
      replace hK : va_K (dC, dI) vwCl [(cf103, .int), (cf116, .int), (cf104, .int), (cf105, .int), (cf106, .int), (cf108, .int), (cf107, .int), (cf109, .int), (cf110, .int), (cf111, .int), (cf102, .int), (cf101, .int), (cf112, .int), (cf100, .int)] s := hK
      obtain ⟨hwa_4, hln_4, hre_4⟩ := hw
      have hfk_4_98 : z_4[98]? = some (.int v98) := (hre_4 98 ).trans (hfh_235_98)
      have hfk_4_99 : z_4[99]? = some (.int x99_235) := (hre_4 99 ).trans (hfh_235_99)
      have hfk_4_100 : z_4[100]? = some (.ref qf100) := (hre_4 100 ).trans (hfh_235_100)
      have hfk_4_101 : z_4[101]? = some (.ref qf101) := (hre_4 101 ).trans (hfh_235_101)
      have hfk_4_102 : z_4[102]? = some (.ref qf102) := (hre_4 102 ).trans (hfh_235_102)
      have hfk_4_103 : z_4[103]? = some (.ref qf103) := (hre_4 103 ).trans (hfh_235_103)
      have hfk_4_104 : z_4[104]? = some (.ref qf104) := (hre_4 104 ).trans (hfh_235_104)
      have hfk_4_105 : z_4[105]? = some (.ref qf105) := (hre_4 105 ).trans (hfh_235_105)
      have hfk_4_106 : z_4[106]? = some (.ref qf106) := (hre_4 106 ).trans (hfh_235_106)
      have hfk_4_107 : z_4[107]? = some (.ref qf107) := (hre_4 107 ).trans (hfh_235_107)
      have hfk_4_108 : z_4[108]? = some (.ref qf108) := (hre_4 108 ).trans (hfh_235_108)
      have hfk_4_109 : z_4[109]? = some (.ref qf109) := (hre_4 109 ).trans (hfh_235_109)
      have hfk_4_110 : z_4[110]? = some (.ref qf110) := (hre_4 110 ).trans (hfh_235_110)
      have hfk_4_111 : z_4[111]? = some (.ref qf111) := (hre_4 111 ).trans (hfh_235_111)
      have hfk_4_112 : z_4[112]? = some (.ref qf112) := (hre_4 112 ).trans (hfh_235_112)
      have hfk_4_113 : z_4[113]? = some (.int x113_235) := (hre_4 113 ).trans (hfh_235_113)
      have hfk_4_114 : z_4[114]? = some (.int x114_235) := (hre_4 114 ).trans (hfh_235_114)
      have hfk_4_115 : z_4[115]? = some (.int x115_235) := (hre_4 115 ).trans (hfh_235_115)
      have hfk_4_116 : z_4[116]? = some (.ref qf116) := (hre_4 116 ).trans (hfh_235_116)
      have hfk_4_138 : z_4[138]? = some (.int x138_235) := (hre_4 138 ).trans (hfh_235_138)
      have hrq_4 : ∀ j : Nat, j ≠ 113 → j ≠ 114 → j ≠ 115 → j ≠ 138 → j ≠ 99 → z_4[j]? = zs[j]? := fun j g113 g114 g115 g138 g99 => (hre_4 j ).trans (hrh_235 j g113 g114 g115 g138 g99)
      obtain rfl := hwa_4
      refine lv_pop hx hb dX13_patch_254 rfl ?_
      refine lv_aload_n hx hb dX13_patch_255 rfl (lv_at hl 0 rfl) ?_
      refine lv_iconst (v := 0) hx hb dX13_patch_256 (by decide) ?_
      refine va_put (D := (dC, dI)) (ci := 13) (v := .int 0) (ty := .boolean) (C := RX13) (T := TX13) (N := 155) hx hb hts uV_h9_X13 tyX13 tyX13_ok nmX13 hown hK hP hD hS 11 rfl rfl 99 (by decide) (hts (.fieldLink RX13 855 "ClassMillModel" "verified" "Z") mw_h9_363) (fun _ h9 => h9) rfl (by decide +kernel) rfl rfl (by rw [hln_4]; decide) dX13_patch_257 ?_
      clear hP hD hS
      intro H locs hP hD hS
      obtain ⟨fs_28, efs_28⟩ : ∃ zf : List Value, zf = z_4.set 99 (.int 0) := ⟨_, rfl⟩
      rw [← efs_28] at hP hD
      have hlfs_28 : fs_28.length = 155 := by rw [efs_28, List.length_set]; exact hln_4
      have hfs_28_98 : fs_28[98]? = some (.int v98) := by rw [efs_28, List.getElem?_set_ne (by decide)]; exact hfk_4_98
      have hfs_28_100 : fs_28[100]? = some (.ref qf100) := by rw [efs_28, List.getElem?_set_ne (by decide)]; exact hfk_4_100
      have hfs_28_101 : fs_28[101]? = some (.ref qf101) := by rw [efs_28, List.getElem?_set_ne (by decide)]; exact hfk_4_101
      have hfs_28_102 : fs_28[102]? = some (.ref qf102) := by rw [efs_28, List.getElem?_set_ne (by decide)]; exact hfk_4_102
      have hfs_28_103 : fs_28[103]? = some (.ref qf103) := by rw [efs_28, List.getElem?_set_ne (by decide)]; exact hfk_4_103
      have hfs_28_104 : fs_28[104]? = some (.ref qf104) := by rw [efs_28, List.getElem?_set_ne (by decide)]; exact hfk_4_104
      have hfs_28_105 : fs_28[105]? = some (.ref qf105) := by rw [efs_28, List.getElem?_set_ne (by decide)]; exact hfk_4_105
      have hfs_28_106 : fs_28[106]? = some (.ref qf106) := by rw [efs_28, List.getElem?_set_ne (by decide)]; exact hfk_4_106
      have hfs_28_107 : fs_28[107]? = some (.ref qf107) := by rw [efs_28, List.getElem?_set_ne (by decide)]; exact hfk_4_107
      have hfs_28_108 : fs_28[108]? = some (.ref qf108) := by rw [efs_28, List.getElem?_set_ne (by decide)]; exact hfk_4_108
      have hfs_28_109 : fs_28[109]? = some (.ref qf109) := by rw [efs_28, List.getElem?_set_ne (by decide)]; exact hfk_4_109
      have hfs_28_110 : fs_28[110]? = some (.ref qf110) := by rw [efs_28, List.getElem?_set_ne (by decide)]; exact hfk_4_110
      have hfs_28_111 : fs_28[111]? = some (.ref qf111) := by rw [efs_28, List.getElem?_set_ne (by decide)]; exact hfk_4_111
      have hfs_28_112 : fs_28[112]? = some (.ref qf112) := by rw [efs_28, List.getElem?_set_ne (by decide)]; exact hfk_4_112
      have hfs_28_113 : fs_28[113]? = some (.int x113_235) := by rw [efs_28, List.getElem?_set_ne (by decide)]; exact hfk_4_113
      have hfs_28_114 : fs_28[114]? = some (.int x114_235) := by rw [efs_28, List.getElem?_set_ne (by decide)]; exact hfk_4_114
      have hfs_28_115 : fs_28[115]? = some (.int x115_235) := by rw [efs_28, List.getElem?_set_ne (by decide)]; exact hfk_4_115
      have hfs_28_116 : fs_28[116]? = some (.ref qf116) := by rw [efs_28, List.getElem?_set_ne (by decide)]; exact hfk_4_116
      have hfs_28_138 : fs_28[138]? = some (.int x138_235) := by rw [efs_28, List.getElem?_set_ne (by decide)]; exact hfk_4_138
      have hfs_28_99 : fs_28[99]? = some (.int 0) := by rw [efs_28, List.getElem?_set_self (by rw [hln_4]; decide)]
      replace hP : va_P (dC, dI) vwCl [(qf103, .inl (cf103, 8, .inl g103_235)), (qf116, .inl (cf116, 309, .inl g116_235)), (qf104, .inl (cf104, 8, .inl g104_235)), (qf105, .inl (cf105, 8, .inl g105_235)), (qf106, .inl (cf106, 8, .inl g106_235)), (qf108, .inl (cf108, 8, .inl g108_235)), (qf107, .inl (cf107, 96, .inl g107_235)), (qf109, .inl (cf109, 96, .inl g109_235)), (qf110, .inl (cf110, 96, .inl g110_235)), (qf111, .inl (cf111, 96, .inl g111_235)), (qf102, .inl (cf102, 2048, .inl g102_235)), (h0, .inr (13, fs_28)), (qf101, .inl (cf101, 8, .inl g904_2)), (qf112, .inl (cf112, 6000, .inl g112_235)), (qf100, .inl (cf100, 48000, .inl g904_1))] H := hP
      replace hD : va_D A [(qf103, .inl (cf103, 8, .inl g103_235)), (qf116, .inl (cf116, 309, .inl g116_235)), (qf104, .inl (cf104, 8, .inl g104_235)), (qf105, .inl (cf105, 8, .inl g105_235)), (qf106, .inl (cf106, 8, .inl g106_235)), (qf108, .inl (cf108, 8, .inl g108_235)), (qf107, .inl (cf107, 96, .inl g107_235)), (qf109, .inl (cf109, 96, .inl g109_235)), (qf110, .inl (cf110, 96, .inl g110_235)), (qf111, .inl (cf111, 96, .inl g111_235)), (qf102, .inl (cf102, 2048, .inl g102_235)), (h0, .inr (13, fs_28)), (qf101, .inl (cf101, 8, .inl g904_2)), (qf112, .inl (cf112, 6000, .inl g112_235)), (qf100, .inl (cf100, 48000, .inl g904_1))] := hD
      have hrs_29 : ∀ j : Nat, j ≠ 113 → j ≠ 114 → j ≠ 115 → j ≠ 138 → j ≠ 99 → fs_28[j]? = zs[j]? := fun j g113 g114 g115 g138 g99 => ((congrArg (fun z : List Value => z[j]?) efs_28).trans (List.getElem?_set_ne (Ne.symm g99))).trans (hrq_4 j g113 g114 g115 g138 g99)
      refine lv_aload_n hx hb dX13_patch_260 rfl (lv_at hl 0 rfl) ?_
      refine lv_iconst (v := 0) hx hb dX13_patch_261 (by decide) ?_
      refine va_put (D := (dC, dI)) (ci := 13) (v := .int 0) (ty := .int) (C := RX13) (T := TX13) (N := 155) hx hb hts uV_h9_X13 tyX13 tyX13_ok nmX13 hown hK hP hD hS 11 rfl rfl 138 (by decide) (hts (.fieldLink RX13 858 "ClassMillModel" "state" "I") mw_h9_364) (fun _ h9 => h9) rfl (by decide +kernel) rfl rfl (by rw [hlfs_28]; decide) dX13_patch_262 ?_
      clear hP hD hS
      intro H locs hP hD hS
      obtain ⟨fs_30, efs_30⟩ : ∃ zf : List Value, zf = fs_28.set 138 (.int 0) := ⟨_, rfl⟩
      rw [← efs_30] at hP hD
      have hlfs_30 : fs_30.length = 155 := by rw [efs_30, List.length_set]; exact hlfs_28
      have hfs_30_98 : fs_30[98]? = some (.int v98) := by rw [efs_30, List.getElem?_set_ne (by decide)]; exact hfs_28_98
      have hfs_30_100 : fs_30[100]? = some (.ref qf100) := by rw [efs_30, List.getElem?_set_ne (by decide)]; exact hfs_28_100
      have hfs_30_101 : fs_30[101]? = some (.ref qf101) := by rw [efs_30, List.getElem?_set_ne (by decide)]; exact hfs_28_101
      have hfs_30_102 : fs_30[102]? = some (.ref qf102) := by rw [efs_30, List.getElem?_set_ne (by decide)]; exact hfs_28_102
      have hfs_30_103 : fs_30[103]? = some (.ref qf103) := by rw [efs_30, List.getElem?_set_ne (by decide)]; exact hfs_28_103
      have hfs_30_104 : fs_30[104]? = some (.ref qf104) := by rw [efs_30, List.getElem?_set_ne (by decide)]; exact hfs_28_104
      have hfs_30_105 : fs_30[105]? = some (.ref qf105) := by rw [efs_30, List.getElem?_set_ne (by decide)]; exact hfs_28_105
      have hfs_30_106 : fs_30[106]? = some (.ref qf106) := by rw [efs_30, List.getElem?_set_ne (by decide)]; exact hfs_28_106
      have hfs_30_107 : fs_30[107]? = some (.ref qf107) := by rw [efs_30, List.getElem?_set_ne (by decide)]; exact hfs_28_107
      have hfs_30_108 : fs_30[108]? = some (.ref qf108) := by rw [efs_30, List.getElem?_set_ne (by decide)]; exact hfs_28_108
      have hfs_30_109 : fs_30[109]? = some (.ref qf109) := by rw [efs_30, List.getElem?_set_ne (by decide)]; exact hfs_28_109
      have hfs_30_110 : fs_30[110]? = some (.ref qf110) := by rw [efs_30, List.getElem?_set_ne (by decide)]; exact hfs_28_110
      have hfs_30_111 : fs_30[111]? = some (.ref qf111) := by rw [efs_30, List.getElem?_set_ne (by decide)]; exact hfs_28_111
      have hfs_30_112 : fs_30[112]? = some (.ref qf112) := by rw [efs_30, List.getElem?_set_ne (by decide)]; exact hfs_28_112
      have hfs_30_113 : fs_30[113]? = some (.int x113_235) := by rw [efs_30, List.getElem?_set_ne (by decide)]; exact hfs_28_113
      have hfs_30_114 : fs_30[114]? = some (.int x114_235) := by rw [efs_30, List.getElem?_set_ne (by decide)]; exact hfs_28_114
      have hfs_30_115 : fs_30[115]? = some (.int x115_235) := by rw [efs_30, List.getElem?_set_ne (by decide)]; exact hfs_28_115
      have hfs_30_116 : fs_30[116]? = some (.ref qf116) := by rw [efs_30, List.getElem?_set_ne (by decide)]; exact hfs_28_116
      have hfs_30_99 : fs_30[99]? = some (.int 0) := by rw [efs_30, List.getElem?_set_ne (by decide)]; exact hfs_28_99
      have hfs_30_138 : fs_30[138]? = some (.int 0) := by rw [efs_30, List.getElem?_set_self (by rw [hlfs_28]; decide)]
      replace hP : va_P (dC, dI) vwCl [(qf103, .inl (cf103, 8, .inl g103_235)), (qf116, .inl (cf116, 309, .inl g116_235)), (qf104, .inl (cf104, 8, .inl g104_235)), (qf105, .inl (cf105, 8, .inl g105_235)), (qf106, .inl (cf106, 8, .inl g106_235)), (qf108, .inl (cf108, 8, .inl g108_235)), (qf107, .inl (cf107, 96, .inl g107_235)), (qf109, .inl (cf109, 96, .inl g109_235)), (qf110, .inl (cf110, 96, .inl g110_235)), (qf111, .inl (cf111, 96, .inl g111_235)), (qf102, .inl (cf102, 2048, .inl g102_235)), (h0, .inr (13, fs_30)), (qf101, .inl (cf101, 8, .inl g904_2)), (qf112, .inl (cf112, 6000, .inl g112_235)), (qf100, .inl (cf100, 48000, .inl g904_1))] H := hP
      replace hD : va_D A [(qf103, .inl (cf103, 8, .inl g103_235)), (qf116, .inl (cf116, 309, .inl g116_235)), (qf104, .inl (cf104, 8, .inl g104_235)), (qf105, .inl (cf105, 8, .inl g105_235)), (qf106, .inl (cf106, 8, .inl g106_235)), (qf108, .inl (cf108, 8, .inl g108_235)), (qf107, .inl (cf107, 96, .inl g107_235)), (qf109, .inl (cf109, 96, .inl g109_235)), (qf110, .inl (cf110, 96, .inl g110_235)), (qf111, .inl (cf111, 96, .inl g111_235)), (qf102, .inl (cf102, 2048, .inl g102_235)), (h0, .inr (13, fs_30)), (qf101, .inl (cf101, 8, .inl g904_2)), (qf112, .inl (cf112, 6000, .inl g112_235)), (qf100, .inl (cf100, 48000, .inl g904_1))] := hD
      have hrs_31 : ∀ j : Nat, j ≠ 113 → j ≠ 114 → j ≠ 115 → j ≠ 138 → j ≠ 99 → fs_30[j]? = zs[j]? := fun j g113 g114 g115 g138 g99 => ((congrArg (fun z : List Value => z[j]?) efs_30).trans (List.getElem?_set_ne (Ne.symm g138))).trans (hrs_29 j g113 g114 g115 g138 g99)
      refine lv_iconst (v := 1) hx hb dX13_patch_265 (by decide) ?_
      have hr0 := Option.some.inj hsp
      clear hsp
      obtain ⟨hq0, hr1⟩ := Prod.mk.inj hr0
      clear hr0
      obtain ⟨hq1, hr2⟩ := Prod.mk.inj hr1
      clear hr1
      obtain ⟨hq2, hr3⟩ := Prod.mk.inj hr2
      clear hr2
      obtain ⟨hq3, hr4⟩ := Prod.mk.inj hr3
      clear hr3
      obtain ⟨hq4, hr5⟩ := Prod.mk.inj hr4
      clear hr4
      obtain ⟨hq5, hr6⟩ := Prod.mk.inj hr5
      clear hr5
      obtain ⟨hq6, hr7⟩ := Prod.mk.inj hr6
      clear hr6
      obtain ⟨hq7, hr8⟩ := Prod.mk.inj hr7
      clear hr7
      obtain ⟨hq8, hr9⟩ := Prod.mk.inj hr8
      clear hr8
      obtain ⟨hq9, hr10⟩ := Prod.mk.inj hr9
      clear hr9
      obtain ⟨hq10, hr11⟩ := Prod.mk.inj hr10
      clear hr10
      obtain ⟨hq11, hr12⟩ := Prod.mk.inj hr11
      clear hr11
      obtain ⟨hq12, hr13⟩ := Prod.mk.inj hr12
      clear hr12
      obtain ⟨hq13, hr14⟩ := Prod.mk.inj hr13
      clear hr13
      obtain ⟨hq14, hr15⟩ := Prod.mk.inj hr14
      clear hr14
      obtain ⟨hq15, hr16⟩ := Prod.mk.inj hr15
      clear hr15
      obtain ⟨hq16, hr17⟩ := Prod.mk.inj hr16
      clear hr16
      obtain ⟨hq17, hr18⟩ := Prod.mk.inj hr17
      clear hr17
      obtain ⟨hq18, hr19⟩ := Prod.mk.inj hr18
      clear hr18
      subst hq0
      subst hq1
      subst hq2
      subst hq3
      subst hq4
      subst hq5
      subst hq6
      subst hq7
      subst hq8
      subst hq9
      subst hq10
      subst hq11
      subst hq12
      subst hq13
      subst hq14
      subst hq15
      subst hq16
      subst hq17
      subst hq18
      subst hr19
      have hP9 := hP.sub (ws' := [(h0, .inr (13, fs_30)), (qf101, .inl (cf101, 8, .inl g904_2)), (qf112, .inl (cf112, 6000, .inl g112_235)), (qf103, .inl (cf103, 8, .inl g103_235)), (qf116, .inl (cf116, 309, .inl g116_235)), (qf104, .inl (cf104, 8, .inl g104_235)), (qf105, .inl (cf105, 8, .inl g105_235)), (qf106, .inl (cf106, 8, .inl g106_235)), (qf108, .inl (cf108, 8, .inl g108_235)), (qf107, .inl (cf107, 96, .inl g107_235)), (qf109, .inl (cf109, 96, .inl g109_235)), (qf110, .inl (cf110, 96, .inl g110_235)), (qf111, .inl (cf111, 96, .inl g111_235)), (qf102, .inl (cf102, 2048, .inl g102_235)), (qf100, .inl (cf100, 48000, .inl g904_1))]) [11, 12, 13, 0, 1, 2, 3, 4, 5, 6, 7, 8, 9, 10, 14] rfl
      have hD9 := hD.sub (ws' := [(h0, .inr (13, fs_30)), (qf101, .inl (cf101, 8, .inl g904_2)), (qf112, .inl (cf112, 6000, .inl g112_235)), (qf103, .inl (cf103, 8, .inl g103_235)), (qf116, .inl (cf116, 309, .inl g116_235)), (qf104, .inl (cf104, 8, .inl g104_235)), (qf105, .inl (cf105, 8, .inl g105_235)), (qf106, .inl (cf106, 8, .inl g106_235)), (qf108, .inl (cf108, 8, .inl g108_235)), (qf107, .inl (cf107, 96, .inl g107_235)), (qf109, .inl (cf109, 96, .inl g109_235)), (qf110, .inl (cf110, 96, .inl g110_235)), (qf111, .inl (cf111, 96, .inl g111_235)), (qf102, .inl (cf102, 2048, .inl g102_235)), (qf100, .inl (cf100, 48000, .inl g904_1))]) [11, 12, 13, 0, 1, 2, 3, 4, 5, 6, 7, 8, 9, 10, 14] (by decide) rfl
      have hK9 := hK.sub (tys' := [(cf101, .int), (cf112, .int), (cf103, .int), (cf116, .int), (cf104, .int), (cf105, .int), (cf106, .int), (cf108, .int), (cf107, .int), (cf109, .int), (cf110, .int), (cf111, .int), (cf102, .int), (cf100, .int)]) [11, 12, 0, 1, 2, 3, 4, 5, 6, 7, 8, 9, 10, 13] rfl
      exact W.zret hx hb hr (by decide) (fun t ht hW => ⟨⟨(1), (fs_30), rfl, ⟨⟨rfl, Or.inr rfl⟩, hlfs_30, hrs_31, hfs_30_113, hfs_30_114, hfs_30_115, hfs_30_138, hfs_30_99⟩, by rw [ht]; exact hP9, va_K.moved hW.alike hK9, hD9⟩, hS.F ht⟩) hS.2.2 dX13_patch_266
    · rw [if_pos c_26] at hsp
      refine lv_aload_n hx hb dX13_patch_240 rfl (lv_at hl 0 rfl) ?_
      refine lv_iload hx hb dX13_patch_241 (lv_at hl 1 rfl) ?_
      obtain ⟨⟨g905_0, g905_1, g905_2, g905_3, g905_4, g905_5, g905_6, g905_7, g905_8, g905_9⟩, hu_5, hsp⟩ := ox_bind hsp
      try dsimp only at hsp
      have hPc := hP.sub (ws' := [(h0, .inr (13, z235)), (qf116, .inl (cf116, 309, .inl g116_235)), (qf103, .inl (cf103, 8, .inl g103_235)), (qf104, .inl (cf104, 8, .inl g104_235)), (qf105, .inl (cf105, 8, .inl g105_235)), (qf106, .inl (cf106, 8, .inl g106_235)), (qf108, .inl (cf108, 8, .inl g108_235)), (qf107, .inl (cf107, 96, .inl g107_235)), (qf109, .inl (cf109, 96, .inl g109_235)), (qf110, .inl (cf110, 96, .inl g110_235)), (qf111, .inl (cf111, 96, .inl g111_235)), (qf102, .inl (cf102, 2048, .inl g102_235))]) [0, 4, 3, 5, 6, 7, 8, 9, 10, 11, 12, 13] rfl
      have hDc := hD.sub (ws' := [(h0, .inr (13, z235)), (qf116, .inl (cf116, 309, .inl g116_235)), (qf103, .inl (cf103, 8, .inl g103_235)), (qf104, .inl (cf104, 8, .inl g104_235)), (qf105, .inl (cf105, 8, .inl g105_235)), (qf106, .inl (cf106, 8, .inl g106_235)), (qf108, .inl (cf108, 8, .inl g108_235)), (qf107, .inl (cf107, 96, .inl g107_235)), (qf109, .inl (cf109, 96, .inl g109_235)), (qf110, .inl (cf110, 96, .inl g110_235)), (qf111, .inl (cf111, 96, .inl g111_235)), (qf102, .inl (cf102, 2048, .inl g102_235))]) [0, 4, 3, 5, 6, 7, 8, 9, 10, 11, 12, 13] (by decide) rfl
      have hKc := hK.sub (tys' := [(cf116, .int), (cf103, .int), (cf104, .int), (cf105, .int), (cf106, .int), (cf108, .int), (cf107, .int), (cf109, .int), (cf110, .int), (cf111, .int), (cf102, .int)]) [3, 2, 4, 5, 6, 7, 8, 9, 10, 11, 12] rfl
      have hFc := va_free (wc := [(h0, .inr (13, z235)), (qf116, .inl (cf116, 309, .inl g116_235)), (qf103, .inl (cf103, 8, .inl g103_235)), (qf104, .inl (cf104, 8, .inl g104_235)), (qf105, .inl (cf105, 8, .inl g105_235)), (qf106, .inl (cf106, 8, .inl g106_235)), (qf108, .inl (cf108, 8, .inl g108_235)), (qf107, .inl (cf107, 96, .inl g107_235)), (qf109, .inl (cf109, 96, .inl g109_235)), (qf110, .inl (cf110, 96, .inl g110_235)), (qf111, .inl (cf111, 96, .inl g111_235)), (qf102, .inl (cf102, 2048, .inl g102_235))]) hD hS hA [0, 4, 3, 5, 6, 7, 8, 9, 10, 11, 12, 13] rfl
      refine va_callv (va_runV (As := [.int l4_235]) (rest := []) ⟨hx, hb, hml, hown, hts⟩ (vm_again l dC dI H.size h0 z235 l4_235 qf102 qf103 qf104 qf105 qf106 qf107 qf108 qf109 qf110 qf111 qf116 cf116 g116_235 cf103 g103_235 cf104 g104_235 cf105 g105_235 cf106 g106_235 cf108 g108_235 cf107 g107_235 cf109 g109_235 cf110 g110_235 cf111 g111_235 cf102 g102_235 nf g905_0 g905_1 g905_2 g905_3 g905_4 g905_5 g905_6 g905_7 g905_8 g905_9 hlh_235 hfh_235_102 hfh_235_103 hfh_235_104 hfh_235_105 hfh_235_106 hfh_235_107 hfh_235_108 hfh_235_109 hfh_235_110 hfh_235_111 hfh_235_116 hu_5) (cwV 1 hts gv_h9_93 rfl rfl rfl (by decide +kernel) ⟨Nat.le_of_ble_eq_true rfl, Nat.le_of_ble_eq_true rfl⟩) ⟨fun a U g mk q => by obtain ⟨q0, q1, qP, qK, qD⟩ := q; exact ⟨q0, q1, qP, va_K.moved (u := U) (U := U.calling g mk a) (Vm.Alike.refl U.vm) qK, qD⟩, va_recv hKc hPc (ci := 13) (q0 := 0) rfl rfl, fun U hU hW => ⟨rfl, by rw [hU], by rw [hU]; exact hPc, va_K.moved hW.alike hKc, hDc.weaken (fun _ _ _ _ => trivial)⟩⟩ rfl rfl hl.1 rfl (lv_room (Nat.le_of_ble_eq_true rfl)) dX13_patch_243 ⟨Nat.le_of_ble_eq_true rfl, Nat.le_of_ble_eq_true rfl⟩) hS (fun q _ h => hFc q h) hFc ?_
      clear hS
      intro u t H1 locs ht hvm hw hB hz1 hk1 hS
      obtain ⟨z_5, rfl⟩ : ∃ z, z = u := ⟨_, rfl⟩
      obtain ⟨hP1, hK1, hD1⟩ := hB
      rw [ht] at hP1
      have hK1 := va_K.moved hvm.symm hK1
      try dsimp only at hw
      have hPD := va_join (wr := [(qf101, .inl (cf101, 8, .inl g101_235)), (qf112, .inl (cf112, 6000, .inl g112_235)), (qf100, .inl (cf100, 48000, .inl g100_235))]) (w1 := [(h0, .inr (13, z_5)), (qf116, .inl (cf116, 309, .inl g116_235)), (qf103, .inl (cf103, 8, .inl g905_1)), (qf104, .inl (cf104, 8, .inl g905_2)), (qf105, .inl (cf105, 8, .inl g905_3)), (qf106, .inl (cf106, 8, .inl g905_4)), (qf108, .inl (cf108, 8, .inl g905_6)), (qf107, .inl (cf107, 96, .inl g905_5)), (qf109, .inl (cf109, 96, .inl g905_7)), (qf110, .inl (cf110, 96, .inl g905_8)), (qf111, .inl (cf111, 96, .inl g905_9)), (qf102, .inl (cf102, 2048, .inl g905_0))]) hP hD [0, 4, 3, 5, 6, 7, 8, 9, 10, 11, 12, 13] [1, 2, 14] rfl rfl (by decide) (by decide) hk1 hFc hP1 hD1
      clear hP hD
      obtain ⟨hP, hD⟩ := hPD
      replace hK := (hK.sub (tys' := [(cf101, .int), (cf112, .int), (cf100, .int)]) [0, 1, 13] rfl).app hK1
      clear hPc hDc hKc hFc hP1 hK1 hD1 hz1 hk1 ht hvm
      generalize H1 = H at hP hS ⊢
      replace hP : va_P (dC, dI) vwCl [(qf101, .inl (cf101, 8, .inl g101_235)), (qf112, .inl (cf112, 6000, .inl g112_235)), (qf100, .inl (cf100, 48000, .inl g100_235)), (h0, .inr (13, z_5)), (qf116, .inl (cf116, 309, .inl g116_235)), (qf103, .inl (cf103, 8, .inl g905_1)), (qf104, .inl (cf104, 8, .inl g905_2)), (qf105, .inl (cf105, 8, .inl g905_3)), (qf106, .inl (cf106, 8, .inl g905_4)), (qf108, .inl (cf108, 8, .inl g905_6)), (qf107, .inl (cf107, 96, .inl g905_5)), (qf109, .inl (cf109, 96, .inl g905_7)), (qf110, .inl (cf110, 96, .inl g905_8)), (qf111, .inl (cf111, 96, .inl g905_9)), (qf102, .inl (cf102, 2048, .inl g905_0))] H := hP
      replace hD : va_D A [(qf101, .inl (cf101, 8, .inl g101_235)), (qf112, .inl (cf112, 6000, .inl g112_235)), (qf100, .inl (cf100, 48000, .inl g100_235)), (h0, .inr (13, z_5)), (qf116, .inl (cf116, 309, .inl g116_235)), (qf103, .inl (cf103, 8, .inl g905_1)), (qf104, .inl (cf104, 8, .inl g905_2)), (qf105, .inl (cf105, 8, .inl g905_3)), (qf106, .inl (cf106, 8, .inl g905_4)), (qf108, .inl (cf108, 8, .inl g905_6)), (qf107, .inl (cf107, 96, .inl g905_5)), (qf109, .inl (cf109, 96, .inl g905_7)), (qf110, .inl (cf110, 96, .inl g905_8)), (qf111, .inl (cf111, 96, .inl g905_9)), (qf102, .inl (cf102, 2048, .inl g905_0))] := hD
      replace hK : va_K (dC, dI) vwCl [(cf101, .int), (cf112, .int), (cf100, .int), (cf116, .int), (cf103, .int), (cf104, .int), (cf105, .int), (cf106, .int), (cf108, .int), (cf107, .int), (cf109, .int), (cf110, .int), (cf111, .int), (cf102, .int)] s := hK
      obtain ⟨hwa_5, hln_5, hre_5⟩ := hw
      have hfk_5_98 : z_5[98]? = some (.int v98) := (hre_5 98 ).trans (hfh_235_98)
      have hfk_5_99 : z_5[99]? = some (.int x99_235) := (hre_5 99 ).trans (hfh_235_99)
      have hfk_5_100 : z_5[100]? = some (.ref qf100) := (hre_5 100 ).trans (hfh_235_100)
      have hfk_5_101 : z_5[101]? = some (.ref qf101) := (hre_5 101 ).trans (hfh_235_101)
      have hfk_5_102 : z_5[102]? = some (.ref qf102) := (hre_5 102 ).trans (hfh_235_102)
      have hfk_5_103 : z_5[103]? = some (.ref qf103) := (hre_5 103 ).trans (hfh_235_103)
      have hfk_5_104 : z_5[104]? = some (.ref qf104) := (hre_5 104 ).trans (hfh_235_104)
      have hfk_5_105 : z_5[105]? = some (.ref qf105) := (hre_5 105 ).trans (hfh_235_105)
      have hfk_5_106 : z_5[106]? = some (.ref qf106) := (hre_5 106 ).trans (hfh_235_106)
      have hfk_5_107 : z_5[107]? = some (.ref qf107) := (hre_5 107 ).trans (hfh_235_107)
      have hfk_5_108 : z_5[108]? = some (.ref qf108) := (hre_5 108 ).trans (hfh_235_108)
      have hfk_5_109 : z_5[109]? = some (.ref qf109) := (hre_5 109 ).trans (hfh_235_109)
      have hfk_5_110 : z_5[110]? = some (.ref qf110) := (hre_5 110 ).trans (hfh_235_110)
      have hfk_5_111 : z_5[111]? = some (.ref qf111) := (hre_5 111 ).trans (hfh_235_111)
      have hfk_5_112 : z_5[112]? = some (.ref qf112) := (hre_5 112 ).trans (hfh_235_112)
      have hfk_5_113 : z_5[113]? = some (.int x113_235) := (hre_5 113 ).trans (hfh_235_113)
      have hfk_5_114 : z_5[114]? = some (.int x114_235) := (hre_5 114 ).trans (hfh_235_114)
      have hfk_5_115 : z_5[115]? = some (.int x115_235) := (hre_5 115 ).trans (hfh_235_115)
      have hfk_5_116 : z_5[116]? = some (.ref qf116) := (hre_5 116 ).trans (hfh_235_116)
      have hfk_5_138 : z_5[138]? = some (.int x138_235) := (hre_5 138 ).trans (hfh_235_138)
      have hrq_5 : ∀ j : Nat, j ≠ 113 → j ≠ 114 → j ≠ 115 → j ≠ 138 → j ≠ 99 → z_5[j]? = zs[j]? := fun j g113 g114 g115 g138 g99 => (hre_5 j ).trans (hrh_235 j g113 g114 g115 g138 g99)
      refine lv_iconst (v := 0) hx hb dX13_patch_246 (by decide) ?_
      have hr0 := Option.some.inj hsp
      clear hsp
      obtain ⟨hq0, hr1⟩ := Prod.mk.inj hr0
      clear hr0
      obtain ⟨hq1, hr2⟩ := Prod.mk.inj hr1
      clear hr1
      obtain ⟨hq2, hr3⟩ := Prod.mk.inj hr2
      clear hr2
      obtain ⟨hq3, hr4⟩ := Prod.mk.inj hr3
      clear hr3
      obtain ⟨hq4, hr5⟩ := Prod.mk.inj hr4
      clear hr4
      obtain ⟨hq5, hr6⟩ := Prod.mk.inj hr5
      clear hr5
      obtain ⟨hq6, hr7⟩ := Prod.mk.inj hr6
      clear hr6
      obtain ⟨hq7, hr8⟩ := Prod.mk.inj hr7
      clear hr7
      obtain ⟨hq8, hr9⟩ := Prod.mk.inj hr8
      clear hr8
      obtain ⟨hq9, hr10⟩ := Prod.mk.inj hr9
      clear hr9
      obtain ⟨hq10, hr11⟩ := Prod.mk.inj hr10
      clear hr10
      obtain ⟨hq11, hr12⟩ := Prod.mk.inj hr11
      clear hr11
      obtain ⟨hq12, hr13⟩ := Prod.mk.inj hr12
      clear hr12
      obtain ⟨hq13, hr14⟩ := Prod.mk.inj hr13
      clear hr13
      obtain ⟨hq14, hr15⟩ := Prod.mk.inj hr14
      clear hr14
      obtain ⟨hq15, hr16⟩ := Prod.mk.inj hr15
      clear hr15
      obtain ⟨hq16, hr17⟩ := Prod.mk.inj hr16
      clear hr16
      obtain ⟨hq17, hr18⟩ := Prod.mk.inj hr17
      clear hr17
      obtain ⟨hq18, hr19⟩ := Prod.mk.inj hr18
      clear hr18
      subst hq0
      subst hq1
      subst hq2
      subst hq3
      subst hq4
      subst hq5
      subst hq6
      subst hq7
      subst hq8
      subst hq9
      subst hq10
      subst hq11
      subst hq12
      subst hq13
      subst hq14
      subst hq15
      subst hq16
      subst hq17
      subst hq18
      subst hr19
      have hP9 := hP.sub (ws' := [(h0, .inr (13, z_5)), (qf101, .inl (cf101, 8, .inl g101_235)), (qf112, .inl (cf112, 6000, .inl g112_235)), (qf103, .inl (cf103, 8, .inl g905_1)), (qf116, .inl (cf116, 309, .inl g116_235)), (qf104, .inl (cf104, 8, .inl g905_2)), (qf105, .inl (cf105, 8, .inl g905_3)), (qf106, .inl (cf106, 8, .inl g905_4)), (qf108, .inl (cf108, 8, .inl g905_6)), (qf107, .inl (cf107, 96, .inl g905_5)), (qf109, .inl (cf109, 96, .inl g905_7)), (qf110, .inl (cf110, 96, .inl g905_8)), (qf111, .inl (cf111, 96, .inl g905_9)), (qf102, .inl (cf102, 2048, .inl g905_0)), (qf100, .inl (cf100, 48000, .inl g100_235))]) [3, 0, 1, 5, 4, 6, 7, 8, 9, 10, 11, 12, 13, 14, 2] rfl
      have hD9 := hD.sub (ws' := [(h0, .inr (13, z_5)), (qf101, .inl (cf101, 8, .inl g101_235)), (qf112, .inl (cf112, 6000, .inl g112_235)), (qf103, .inl (cf103, 8, .inl g905_1)), (qf116, .inl (cf116, 309, .inl g116_235)), (qf104, .inl (cf104, 8, .inl g905_2)), (qf105, .inl (cf105, 8, .inl g905_3)), (qf106, .inl (cf106, 8, .inl g905_4)), (qf108, .inl (cf108, 8, .inl g905_6)), (qf107, .inl (cf107, 96, .inl g905_5)), (qf109, .inl (cf109, 96, .inl g905_7)), (qf110, .inl (cf110, 96, .inl g905_8)), (qf111, .inl (cf111, 96, .inl g905_9)), (qf102, .inl (cf102, 2048, .inl g905_0)), (qf100, .inl (cf100, 48000, .inl g100_235))]) [3, 0, 1, 5, 4, 6, 7, 8, 9, 10, 11, 12, 13, 14, 2] (by decide) rfl
      have hK9 := hK.sub (tys' := [(cf101, .int), (cf112, .int), (cf103, .int), (cf116, .int), (cf104, .int), (cf105, .int), (cf106, .int), (cf108, .int), (cf107, .int), (cf109, .int), (cf110, .int), (cf111, .int), (cf102, .int), (cf100, .int)]) [0, 1, 4, 3, 5, 6, 7, 8, 9, 10, 11, 12, 13, 2] rfl
      exact W.zret hx hb hr (by decide) (fun t ht hW => ⟨⟨(0), (z_5), rfl, ⟨⟨rfl, Or.inl rfl⟩, hln_5, hrq_5, hfk_5_113, hfk_5_114, hfk_5_115, hfk_5_138, hfk_5_99⟩, by rw [ht]; exact hP9, va_K.moved hW.alike hK9, hD9⟩, hS.F ht⟩) hS.2.2 dX13_patch_247
  intro hj_235
  refine jn_use (α := Heap × List Loc × Array Slot × List Value × Int32 × Int32 × Int32 × (Nat → Int32) × (Nat → Int32) × (Nat → Int32) × (Nat → Int32) × (Nat → Int32) × (Nat → Int32) × (Nat → Int32) × (Nat → Int32) × (Nat → Int32) × (Nat → Int32) × (Nat → Int32) × (Nat → Int32) × (Nat → Int32) × (Nat → Int32) × Int32 × Int32 × Int32 × Int32 × Int32) (fun x9 => x9.1) (fun x9 => x9.2.1) (fun x9 => F0 m 123 x9.2.2.1 [.int (x9.2.2.2.2.2.2.1)]) (fun x9 => match x9 with | (H, locs, ls, z123, l1_123, l4_123, s0_123, g100_123, g101_123, g102_123, g103_123, g104_123, g105_123, g106_123, g107_123, g108_123, g109_123, g110_123, g111_123, g112_123, g116_123, x113_123, x114_123, x115_123, x138_123, x99_123) => lv_has ls 8 [(0, .ref h0), (1, .int l1_123), (4, .int l4_123)] ∧ va_S A s.heap H locs ∧ va_D A [(h0, .inr (13, z123)), (qf101, .inl (cf101, 8, .inl g101_123)), (qf112, .inl (cf112, 6000, .inl g112_123)), (qf103, .inl (cf103, 8, .inl g103_123)), (qf116, .inl (cf116, 309, .inl g116_123)), (qf104, .inl (cf104, 8, .inl g104_123)), (qf105, .inl (cf105, 8, .inl g105_123)), (qf106, .inl (cf106, 8, .inl g106_123)), (qf108, .inl (cf108, 8, .inl g108_123)), (qf107, .inl (cf107, 96, .inl g107_123)), (qf109, .inl (cf109, 96, .inl g109_123)), (qf110, .inl (cf110, 96, .inl g110_123)), (qf111, .inl (cf111, 96, .inl g111_123)), (qf102, .inl (cf102, 2048, .inl g102_123)), (qf100, .inl (cf100, 48000, .inl g100_123))] ∧ va_P (dC, dI) vwCl [(h0, .inr (13, z123)), (qf101, .inl (cf101, 8, .inl g101_123)), (qf112, .inl (cf112, 6000, .inl g112_123)), (qf103, .inl (cf103, 8, .inl g103_123)), (qf116, .inl (cf116, 309, .inl g116_123)), (qf104, .inl (cf104, 8, .inl g104_123)), (qf105, .inl (cf105, 8, .inl g105_123)), (qf106, .inl (cf106, 8, .inl g106_123)), (qf108, .inl (cf108, 8, .inl g108_123)), (qf107, .inl (cf107, 96, .inl g107_123)), (qf109, .inl (cf109, 96, .inl g109_123)), (qf110, .inl (cf110, 96, .inl g110_123)), (qf111, .inl (cf111, 96, .inl g111_123)), (qf102, .inl (cf102, 2048, .inl g102_123)), (qf100, .inl (cf100, 48000, .inl g100_123))] H ∧ z123[98]? = some (.int v98) ∧ z123[99]? = some (.int x99_123) ∧ z123[100]? = some (.ref qf100) ∧ z123[101]? = some (.ref qf101) ∧ z123[102]? = some (.ref qf102) ∧ z123[103]? = some (.ref qf103) ∧ z123[104]? = some (.ref qf104) ∧ z123[105]? = some (.ref qf105) ∧ z123[106]? = some (.ref qf106) ∧ z123[107]? = some (.ref qf107) ∧ z123[108]? = some (.ref qf108) ∧ z123[109]? = some (.ref qf109) ∧ z123[110]? = some (.ref qf110) ∧ z123[111]? = some (.ref qf111) ∧ z123[112]? = some (.ref qf112) ∧ z123[113]? = some (.int x113_123) ∧ z123[114]? = some (.int x114_123) ∧ z123[115]? = some (.int x115_123) ∧ z123[116]? = some (.ref qf116) ∧ z123[138]? = some (.int x138_123) ∧ z123.length = 155 ∧ (∀ j : Nat, j ≠ 113 → j ≠ 114 → j ≠ 115 → j ≠ 138 → j ≠ 99 → z123[j]? = zs[j]?) ∧ jn_vm_patch_123 nf a1 a2 a3 v98 v99 v113 v114 v115 v138 f101 f112 f103 f116 f104 f105 f106 f108 f107 f109 f110 f111 f102 f100 nS477 fS477 l1_123 l4_123 s0_123 g100_123 g101_123 g102_123 g103_123 g104_123 g105_123 g106_123 g107_123 g108_123 g109_123 g110_123 g111_123 g112_123 g116_123 x113_123 x114_123 x115_123 x138_123 x99_123 = some (r0, o100, o101, o102, o103, o104, o105, o106, o107, o108, o109, o110, o111, o112, o116, w113, w114, w115, w138, w99)) ?_ ?_
  · intro x9 hJ9
    obtain ⟨H, locs, ls, z123, l1_123, l4_123, s0_123, g100_123, g101_123, g102_123, g103_123, g104_123, g105_123, g106_123, g107_123, g108_123, g109_123, g110_123, g111_123, g112_123, g116_123, x113_123, x114_123, x115_123, x138_123, x99_123⟩ := x9
    obtain ⟨hl, hS, hD, hP, hfh_123_98, hfh_123_99, hfh_123_100, hfh_123_101, hfh_123_102, hfh_123_103, hfh_123_104, hfh_123_105, hfh_123_106, hfh_123_107, hfh_123_108, hfh_123_109, hfh_123_110, hfh_123_111, hfh_123_112, hfh_123_113, hfh_123_114, hfh_123_115, hfh_123_116, hfh_123_138, hlh_123, hrh_123, hsp⟩ := hJ9
    replace hl : lv_has ls 8 [(0, .ref h0), (1, .int l1_123), (4, .int l4_123)] := hl
    replace hS : va_S A s.heap H locs := hS
    replace hD : va_D A [(h0, .inr (13, z123)), (qf101, .inl (cf101, 8, .inl g101_123)), (qf112, .inl (cf112, 6000, .inl g112_123)), (qf103, .inl (cf103, 8, .inl g103_123)), (qf116, .inl (cf116, 309, .inl g116_123)), (qf104, .inl (cf104, 8, .inl g104_123)), (qf105, .inl (cf105, 8, .inl g105_123)), (qf106, .inl (cf106, 8, .inl g106_123)), (qf108, .inl (cf108, 8, .inl g108_123)), (qf107, .inl (cf107, 96, .inl g107_123)), (qf109, .inl (cf109, 96, .inl g109_123)), (qf110, .inl (cf110, 96, .inl g110_123)), (qf111, .inl (cf111, 96, .inl g111_123)), (qf102, .inl (cf102, 2048, .inl g102_123)), (qf100, .inl (cf100, 48000, .inl g100_123))] := hD
    replace hP : va_P (dC, dI) vwCl [(h0, .inr (13, z123)), (qf101, .inl (cf101, 8, .inl g101_123)), (qf112, .inl (cf112, 6000, .inl g112_123)), (qf103, .inl (cf103, 8, .inl g103_123)), (qf116, .inl (cf116, 309, .inl g116_123)), (qf104, .inl (cf104, 8, .inl g104_123)), (qf105, .inl (cf105, 8, .inl g105_123)), (qf106, .inl (cf106, 8, .inl g106_123)), (qf108, .inl (cf108, 8, .inl g108_123)), (qf107, .inl (cf107, 96, .inl g107_123)), (qf109, .inl (cf109, 96, .inl g109_123)), (qf110, .inl (cf110, 96, .inl g110_123)), (qf111, .inl (cf111, 96, .inl g111_123)), (qf102, .inl (cf102, 2048, .inl g102_123)), (qf100, .inl (cf100, 48000, .inl g100_123))] H := hP
    replace hsp : jn_vm_patch_123 nf a1 a2 a3 v98 v99 v113 v114 v115 v138 f101 f112 f103 f116 f104 f105 f106 f108 f107 f109 f110 f111 f102 f100 nS477 fS477 l1_123 l4_123 s0_123 g100_123 g101_123 g102_123 g103_123 g104_123 g105_123 g106_123 g107_123 g108_123 g109_123 g110_123 g111_123 g112_123 g116_123 x113_123 x114_123 x115_123 x138_123 x99_123 = some (r0, o100, o101, o102, o103, o104, o105, o106, o107, o108, o109, o110, o111, o112, o116, w113, w114, w115, w138, w99) := hsp
    show W _ _ _ _ _ _ _ _ _ _ H locs _ _ _ (F0 m 123 ls [.int s0_123])
    unfold jn_vm_patch_123 at hsp
    try dsimp only at hsp
    refine lv_istore (lv' := [(5, .int s0_123), (0, .ref h0), (1, .int l1_123), (4, .int l4_123)]) hx hb dX13_patch_123 hl (by decide) rfl (fun ls hl => ?_)
    refine lv_iload hx hb dX13_patch_125 (lv_at hl 0 rfl) ?_
    refine lv_if_eq (tgt := 235) hx hb dX13_patch_127 (by decide) (fun c_14 => ?_) (fun c_14 => ?_)
    · rw [if_pos c_14] at hsp
      exact hj_235 (H, locs, ls, z123, l4_123, s0_123, g100_123, g101_123, g102_123, g103_123, g104_123, g105_123, g106_123, g107_123, g108_123, g109_123, g110_123, g111_123, g112_123, g116_123, x113_123, x114_123, x115_123, x138_123, x99_123) ⟨lv_sub hl [1, 3, 0] rfl, hS, hD.sub (ws' := [(h0, .inr (13, z123)), (qf101, .inl (cf101, 8, .inl g101_123)), (qf112, .inl (cf112, 6000, .inl g112_123)), (qf103, .inl (cf103, 8, .inl g103_123)), (qf116, .inl (cf116, 309, .inl g116_123)), (qf104, .inl (cf104, 8, .inl g104_123)), (qf105, .inl (cf105, 8, .inl g105_123)), (qf106, .inl (cf106, 8, .inl g106_123)), (qf108, .inl (cf108, 8, .inl g108_123)), (qf107, .inl (cf107, 96, .inl g107_123)), (qf109, .inl (cf109, 96, .inl g109_123)), (qf110, .inl (cf110, 96, .inl g110_123)), (qf111, .inl (cf111, 96, .inl g111_123)), (qf102, .inl (cf102, 2048, .inl g102_123)), (qf100, .inl (cf100, 48000, .inl g100_123))]) [0, 1, 2, 3, 4, 5, 6, 7, 8, 9, 10, 11, 12, 13, 14] (by decide) rfl, hP.sub (ws' := [(h0, .inr (13, z123)), (qf101, .inl (cf101, 8, .inl g101_123)), (qf112, .inl (cf112, 6000, .inl g112_123)), (qf103, .inl (cf103, 8, .inl g103_123)), (qf116, .inl (cf116, 309, .inl g116_123)), (qf104, .inl (cf104, 8, .inl g104_123)), (qf105, .inl (cf105, 8, .inl g105_123)), (qf106, .inl (cf106, 8, .inl g106_123)), (qf108, .inl (cf108, 8, .inl g108_123)), (qf107, .inl (cf107, 96, .inl g107_123)), (qf109, .inl (cf109, 96, .inl g109_123)), (qf110, .inl (cf110, 96, .inl g110_123)), (qf111, .inl (cf111, 96, .inl g111_123)), (qf102, .inl (cf102, 2048, .inl g102_123)), (qf100, .inl (cf100, 48000, .inl g100_123))]) [0, 1, 2, 3, 4, 5, 6, 7, 8, 9, 10, 11, 12, 13, 14] rfl, hfh_123_98, hfh_123_99, hfh_123_100, hfh_123_101, hfh_123_102, hfh_123_103, hfh_123_104, hfh_123_105, hfh_123_106, hfh_123_107, hfh_123_108, hfh_123_109, hfh_123_110, hfh_123_111, hfh_123_112, hfh_123_113, hfh_123_114, hfh_123_115, hfh_123_116, hfh_123_138, hlh_123, hrh_123, hsp⟩
    · rw [if_neg c_14] at hsp
      refine lv_aload_n hx hb dX13_patch_130 rfl (lv_at hl 1 rfl) ?_
      refine va_get (D := (dC, dI)) (ci := 13) (v := .ref qf102) (C := RX13) (T := TX13) (N := 155) hx hb hts uV_h9_X13 hown hK hP 0 rfl rfl 102 (by decide) (hts (.fieldLink RX13 215 "ClassMillModel" "constantAt" "[I") mw_h9_267) (fun _ h9 => h9) hfh_123_102 dX13_patch_131 ?_
      refine lv_sipush (v := 256) hx hb dX13_patch_134 (by decide) ?_
      refine lv_iload hx hb dX13_patch_137 (lv_at hl 3 rfl) ?_
      refine lv_imul hx hb dX13_patch_139 ?_
      refine lv_aload_n hx hb dX13_patch_140 rfl (lv_at hl 1 rfl) ?_
      refine va_get (D := (dC, dI)) (ci := 13) (v := .ref qf112) (C := RX13) (T := TX13) (N := 155) hx hb hts uV_h9_X13 hown hK hP 0 rfl rfl 112 (by decide) (hts (.fieldLink RX13 245 "ClassMillModel" "look" "[I") mw_h9_242) (fun _ h9 => h9) hfh_123_112 dX13_patch_141 ?_
      refine lv_aload_n hx hb dX13_patch_144 rfl (lv_at hl 1 rfl) ?_
      refine va_get (D := (dC, dI)) (ci := 13) (v := .ref qf102) (C := RX13) (T := TX13) (N := 155) hx hb hts uV_h9_X13 hown hK hP 0 rfl rfl 102 (by decide) (hts (.fieldLink RX13 215 "ClassMillModel" "constantAt" "[I") mw_h9_267) (fun _ h9 => h9) hfh_123_102 dX13_patch_145 ?_
      refine lv_sipush (v := 256) hx hb dX13_patch_148 (by decide) ?_
      refine lv_iload hx hb dX13_patch_151 (lv_at hl 3 rfl) ?_
      refine lv_imul hx hb dX13_patch_153 ?_
      refine lv_aload_n hx hb dX13_patch_154 rfl (lv_at hl 1 rfl) ?_
      refine va_get (D := (dC, dI)) (ci := 13) (v := .ref qf104) (C := RX13) (T := TX13) (N := 155) hx hb hts uV_h9_X13 hown hK hP 0 rfl rfl 104 (by decide) (hts (.fieldLink RX13 221 "ClassMillModel" "ownClass" "[I") mw_h9_279) (fun _ h9 => h9) hfh_123_104 dX13_patch_155 ?_
      refine lv_iload hx hb dX13_patch_158 (lv_at hl 3 rfl) ?_
      obtain ⟨hi_15, hsp⟩ := ox_in hsp
      refine va_iald hx hb hK hP 5 4 rfl rfl (i := l4_123) hi_15 dX13_patch_160 ?_
      refine lv_iadd hx hb dX13_patch_161 ?_
      obtain ⟨hi_16, hsp⟩ := ox_in hsp
      refine va_iald hx hb hK hP 13 12 rfl rfl (i := ((256 * l4_123) + (g104_123 (l4_123 : Int32).toNatClampNeg))) hi_16 dX13_patch_162 ?_
      refine lv_iconst (v := 1) hx hb dX13_patch_163 (by decide) ?_
      refine lv_iadd hx hb dX13_patch_164 ?_
      obtain ⟨hi_17, hsp⟩ := ox_in hsp
      refine va_iald hx hb hK hP 2 1 rfl rfl (i := ((g102_123 (((256 * l4_123) + (g104_123 (l4_123 : Int32).toNatClampNeg)) : Int32).toNatClampNeg) + 1)) hi_17 dX13_patch_165 ?_
      refine lv_iadd hx hb dX13_patch_166 ?_
      obtain ⟨hi_18, hsp⟩ := ox_in hsp
      refine va_iald hx hb hK hP 13 12 rfl rfl (i := ((256 * l4_123) + (g112_123 (((g102_123 (((256 * l4_123) + (g104_123 (l4_123 : Int32).toNatClampNeg)) : Int32).toNatClampNeg) + 1) : Int32).toNatClampNeg))) hi_18 dX13_patch_167 ?_
      refine lv_istore (lv' := [(6, .int (g102_123 (((256 * l4_123) + (g112_123 (((g102_123 (((256 * l4_123) + (g104_123 (l4_123 : Int32).toNatClampNeg)) : Int32).toNatClampNeg) + 1) : Int32).toNatClampNeg)) : Int32).toNatClampNeg)), (5, .int s0_123), (0, .ref h0), (1, .int l1_123), (4, .int l4_123)]) hx hb dX13_patch_168 hl (by decide) rfl (fun ls hl => ?_)
      refine lv_iconst (v := 0) hx hb dX13_patch_170 (by decide) ?_
      refine lv_istore (lv' := [(7, .int 0), (6, .int (g102_123 (((256 * l4_123) + (g112_123 (((g102_123 (((256 * l4_123) + (g104_123 (l4_123 : Int32).toNatClampNeg)) : Int32).toNatClampNeg) + 1) : Int32).toNatClampNeg)) : Int32).toNatClampNeg)), (5, .int s0_123), (0, .ref h0), (1, .int l1_123), (4, .int l4_123)]) hx hb dX13_patch_171 hl (by decide) rfl (fun ls hl => ?_)
      replace hl : lv_has ls 8 [(7, .int 0), (6, .int (g102_123 (((256 * l4_123) + (g112_123 (((g102_123 (((256 * l4_123) + (g104_123 (l4_123 : Int32).toNatClampNeg)) : Int32).toNatClampNeg) + 1) : Int32).toNatClampNeg)) : Int32).toNatClampNeg)), (5, .int s0_123), (0, .ref h0), (1, .int l1_123), (4, .int l4_123)] := lv_sub hl [0, 1, 2, 3, 4, 5] rfl
      replace hP := hP.sub (ws' := [(h0, .inr (13, z123)), (qf101, .inl (cf101, 8, .inl g101_123)), (qf112, .inl (cf112, 6000, .inl g112_123)), (qf103, .inl (cf103, 8, .inl g103_123)), (qf116, .inl (cf116, 309, .inl g116_123)), (qf104, .inl (cf104, 8, .inl g104_123)), (qf105, .inl (cf105, 8, .inl g105_123)), (qf106, .inl (cf106, 8, .inl g106_123)), (qf108, .inl (cf108, 8, .inl g108_123)), (qf107, .inl (cf107, 96, .inl g107_123)), (qf109, .inl (cf109, 96, .inl g109_123)), (qf110, .inl (cf110, 96, .inl g110_123)), (qf111, .inl (cf111, 96, .inl g111_123)), (qf102, .inl (cf102, 2048, .inl g102_123)), (qf100, .inl (cf100, 48000, .inl g100_123))]) [0, 1, 2, 3, 4, 5, 6, 7, 8, 9, 10, 11, 12, 13, 14] rfl
      replace hD := hD.sub (ws' := [(h0, .inr (13, z123)), (qf101, .inl (cf101, 8, .inl g101_123)), (qf112, .inl (cf112, 6000, .inl g112_123)), (qf103, .inl (cf103, 8, .inl g103_123)), (qf116, .inl (cf116, 309, .inl g116_123)), (qf104, .inl (cf104, 8, .inl g104_123)), (qf105, .inl (cf105, 8, .inl g105_123)), (qf106, .inl (cf106, 8, .inl g106_123)), (qf108, .inl (cf108, 8, .inl g108_123)), (qf107, .inl (cf107, 96, .inl g107_123)), (qf109, .inl (cf109, 96, .inl g109_123)), (qf110, .inl (cf110, 96, .inl g110_123)), (qf111, .inl (cf111, 96, .inl g111_123)), (qf102, .inl (cf102, 2048, .inl g102_123)), (qf100, .inl (cf100, 48000, .inl g100_123))]) [0, 1, 2, 3, 4, 5, 6, 7, 8, 9, 10, 11, 12, 13, 14] (by decide) rfl
      replace hK := hK.sub (tys' := [(cf101, .int), (cf112, .int), (cf103, .int), (cf116, .int), (cf104, .int), (cf105, .int), (cf106, .int), (cf108, .int), (cf107, .int), (cf109, .int), (cf110, .int), (cf111, .int), (cf102, .int), (cf100, .int)]) [0, 1, 2, 3, 4, 5, 6, 7, 8, 9, 10, 11, 12, 13] rfl
      obtain ⟨n_173, hn_173⟩ : ∃ z : Nat, z = nf := ⟨_, rfl⟩
      obtain ⟨l1_173, el1_173⟩ : ∃ z : Int32, z = l1_123 := ⟨_, rfl⟩
      obtain ⟨l4_173, el4_173⟩ : ∃ z : Int32, z = l4_123 := ⟨_, rfl⟩
      obtain ⟨l5_173, el5_173⟩ : ∃ z : Int32, z = s0_123 := ⟨_, rfl⟩
      obtain ⟨l6_173, el6_173⟩ : ∃ z : Int32, z = (g102_123 (((256 * l4_123) + (g112_123 (((g102_123 (((256 * l4_123) + (g104_123 (l4_123 : Int32).toNatClampNeg)) : Int32).toNatClampNeg) + 1) : Int32).toNatClampNeg)) : Int32).toNatClampNeg) := ⟨_, rfl⟩
      obtain ⟨l7_173, el7_173⟩ : ∃ z : Int32, z = 0 := ⟨_, rfl⟩
      obtain ⟨g100_173, eg100_173⟩ : ∃ z : Nat → Int32, z = g100_123 := ⟨_, rfl⟩
      obtain ⟨g101_173, eg101_173⟩ : ∃ z : Nat → Int32, z = g101_123 := ⟨_, rfl⟩
      obtain ⟨g102_173, eg102_173⟩ : ∃ z : Nat → Int32, z = g102_123 := ⟨_, rfl⟩
      obtain ⟨g103_173, eg103_173⟩ : ∃ z : Nat → Int32, z = g103_123 := ⟨_, rfl⟩
      obtain ⟨g104_173, eg104_173⟩ : ∃ z : Nat → Int32, z = g104_123 := ⟨_, rfl⟩
      obtain ⟨g105_173, eg105_173⟩ : ∃ z : Nat → Int32, z = g105_123 := ⟨_, rfl⟩
      obtain ⟨g106_173, eg106_173⟩ : ∃ z : Nat → Int32, z = g106_123 := ⟨_, rfl⟩
      obtain ⟨g107_173, eg107_173⟩ : ∃ z : Nat → Int32, z = g107_123 := ⟨_, rfl⟩
      obtain ⟨g108_173, eg108_173⟩ : ∃ z : Nat → Int32, z = g108_123 := ⟨_, rfl⟩
      obtain ⟨g109_173, eg109_173⟩ : ∃ z : Nat → Int32, z = g109_123 := ⟨_, rfl⟩
      obtain ⟨g110_173, eg110_173⟩ : ∃ z : Nat → Int32, z = g110_123 := ⟨_, rfl⟩
      obtain ⟨g111_173, eg111_173⟩ : ∃ z : Nat → Int32, z = g111_123 := ⟨_, rfl⟩
      obtain ⟨g112_173, eg112_173⟩ : ∃ z : Nat → Int32, z = g112_123 := ⟨_, rfl⟩
      obtain ⟨g116_173, eg116_173⟩ : ∃ z : Nat → Int32, z = g116_123 := ⟨_, rfl⟩
      obtain ⟨x113_173, ex113_173⟩ : ∃ z : Int32, z = x113_123 := ⟨_, rfl⟩
      obtain ⟨x114_173, ex114_173⟩ : ∃ z : Int32, z = x114_123 := ⟨_, rfl⟩
      obtain ⟨x115_173, ex115_173⟩ : ∃ z : Int32, z = x115_123 := ⟨_, rfl⟩
      obtain ⟨x138_173, ex138_173⟩ : ∃ z : Int32, z = x138_123 := ⟨_, rfl⟩
      obtain ⟨x99_173, ex99_173⟩ : ∃ z : Int32, z = x99_123 := ⟨_, rfl⟩
      replace hsp : lp_vm_patch_173 nf n_173 a1 a2 a3 v98 v99 v113 v114 v115 v138 f101 f112 f103 f116 f104 f105 f106 f108 f107 f109 f110 f111 f102 f100 nS477 fS477 l1_173 l4_173 l5_173 l6_173 l7_173 g100_173 g101_173 g102_173 g103_173 g104_173 g105_173 g106_173 g107_173 g108_173 g109_173 g110_173 g111_173 g112_173 g116_173 x113_173 x114_173 x115_173 x138_173 x99_173 = some (r0, o100, o101, o102, o103, o104, o105, o106, o107, o108, o109, o110, o111, o112, o116, w113, w114, w115, w138, w99) := by rw [hn_173, el1_173, el4_173, el5_173, el6_173, el7_173, eg100_173, eg101_173, eg102_173, eg103_173, eg104_173, eg105_173, eg106_173, eg107_173, eg108_173, eg109_173, eg110_173, eg111_173, eg112_173, eg116_173, ex113_173, ex114_173, ex115_173, ex138_173, ex99_173]; exact hsp
      replace hl : lv_has ls 8 [(7, .int l7_173), (6, .int l6_173), (5, .int l5_173), (0, .ref h0), (1, .int l1_173), (4, .int l4_173)] := by rw [el1_173, el4_173, el5_173, el6_173, el7_173]; exact hl
      obtain ⟨z173, ez173⟩ : ∃ z : List Value, z = z123 := ⟨_, rfl⟩
      have hfh_173_98 : z173[98]? = some (.int v98) := by rw [ez173]; exact hfh_123_98
      have hfh_173_99 : z173[99]? = some (.int x99_173) := by rw [ez173, ex99_173]; exact hfh_123_99
      have hfh_173_100 : z173[100]? = some (.ref qf100) := by rw [ez173]; exact hfh_123_100
      have hfh_173_101 : z173[101]? = some (.ref qf101) := by rw [ez173]; exact hfh_123_101
      have hfh_173_102 : z173[102]? = some (.ref qf102) := by rw [ez173]; exact hfh_123_102
      have hfh_173_103 : z173[103]? = some (.ref qf103) := by rw [ez173]; exact hfh_123_103
      have hfh_173_104 : z173[104]? = some (.ref qf104) := by rw [ez173]; exact hfh_123_104
      have hfh_173_105 : z173[105]? = some (.ref qf105) := by rw [ez173]; exact hfh_123_105
      have hfh_173_106 : z173[106]? = some (.ref qf106) := by rw [ez173]; exact hfh_123_106
      have hfh_173_107 : z173[107]? = some (.ref qf107) := by rw [ez173]; exact hfh_123_107
      have hfh_173_108 : z173[108]? = some (.ref qf108) := by rw [ez173]; exact hfh_123_108
      have hfh_173_109 : z173[109]? = some (.ref qf109) := by rw [ez173]; exact hfh_123_109
      have hfh_173_110 : z173[110]? = some (.ref qf110) := by rw [ez173]; exact hfh_123_110
      have hfh_173_111 : z173[111]? = some (.ref qf111) := by rw [ez173]; exact hfh_123_111
      have hfh_173_112 : z173[112]? = some (.ref qf112) := by rw [ez173]; exact hfh_123_112
      have hfh_173_113 : z173[113]? = some (.int x113_173) := by rw [ez173, ex113_173]; exact hfh_123_113
      have hfh_173_114 : z173[114]? = some (.int x114_173) := by rw [ez173, ex114_173]; exact hfh_123_114
      have hfh_173_115 : z173[115]? = some (.int x115_173) := by rw [ez173, ex115_173]; exact hfh_123_115
      have hfh_173_116 : z173[116]? = some (.ref qf116) := by rw [ez173]; exact hfh_123_116
      have hfh_173_138 : z173[138]? = some (.int x138_173) := by rw [ez173, ex138_173]; exact hfh_123_138
      have hlh_173 : z173.length = 155 := by rw [ez173]; exact hlh_123
      have hrh_173 : ∀ j : Nat, j ≠ 113 → j ≠ 114 → j ≠ 115 → j ≠ 138 → j ≠ 99 → z173[j]? = zs[j]? := by rw [ez173]; exact hrh_123
      replace hP : va_P (dC, dI) vwCl [(h0, .inr (13, z173)), (qf101, .inl (cf101, 8, .inl g101_173)), (qf112, .inl (cf112, 6000, .inl g112_173)), (qf103, .inl (cf103, 8, .inl g103_173)), (qf116, .inl (cf116, 309, .inl g116_173)), (qf104, .inl (cf104, 8, .inl g104_173)), (qf105, .inl (cf105, 8, .inl g105_173)), (qf106, .inl (cf106, 8, .inl g106_173)), (qf108, .inl (cf108, 8, .inl g108_173)), (qf107, .inl (cf107, 96, .inl g107_173)), (qf109, .inl (cf109, 96, .inl g109_173)), (qf110, .inl (cf110, 96, .inl g110_173)), (qf111, .inl (cf111, 96, .inl g111_173)), (qf102, .inl (cf102, 2048, .inl g102_173)), (qf100, .inl (cf100, 48000, .inl g100_173))] H := by rw [ez173, eg100_173, eg101_173, eg102_173, eg103_173, eg104_173, eg105_173, eg106_173, eg107_173, eg108_173, eg109_173, eg110_173, eg111_173, eg112_173, eg116_173]; exact hP
      replace hD : va_D A [(h0, .inr (13, z173)), (qf101, .inl (cf101, 8, .inl g101_173)), (qf112, .inl (cf112, 6000, .inl g112_173)), (qf103, .inl (cf103, 8, .inl g103_173)), (qf116, .inl (cf116, 309, .inl g116_173)), (qf104, .inl (cf104, 8, .inl g104_173)), (qf105, .inl (cf105, 8, .inl g105_173)), (qf106, .inl (cf106, 8, .inl g106_173)), (qf108, .inl (cf108, 8, .inl g108_173)), (qf107, .inl (cf107, 96, .inl g107_173)), (qf109, .inl (cf109, 96, .inl g109_173)), (qf110, .inl (cf110, 96, .inl g110_173)), (qf111, .inl (cf111, 96, .inl g111_173)), (qf102, .inl (cf102, 2048, .inl g102_173)), (qf100, .inl (cf100, 48000, .inl g100_173))] := by rw [ez173, eg100_173, eg101_173, eg102_173, eg103_173, eg104_173, eg105_173, eg106_173, eg107_173, eg108_173, eg109_173, eg110_173, eg111_173, eg112_173, eg116_173]; exact hD
      clear hn_173 ez173 el1_173 el4_173 el5_173 el6_173 el7_173 eg100_173 eg101_173 eg102_173 eg103_173 eg104_173 eg105_173 eg106_173 eg107_173 eg108_173 eg109_173 eg110_173 eg111_173 eg112_173 eg116_173 ex113_173 ex114_173 ex115_173 ex138_173 ex99_173
      try clear hlo
      try clear hH
      revert hsp
      revert hP
      revert hD
      revert hS
      revert hl
      revert hrh_173
      revert hlh_173
      revert hfh_173_138
      revert hfh_173_116
      revert hfh_173_115
      revert hfh_173_114
      revert hfh_173_113
      revert hfh_173_112
      revert hfh_173_111
      revert hfh_173_110
      revert hfh_173_109
      revert hfh_173_108
      revert hfh_173_107
      revert hfh_173_106
      revert hfh_173_105
      revert hfh_173_104
      revert hfh_173_103
      revert hfh_173_102
      revert hfh_173_101
      revert hfh_173_100
      revert hfh_173_99
      revert hfh_173_98
      revert x99_173
      revert x138_173
      revert x115_173
      revert x114_173
      revert x113_173
      revert g116_173
      revert g112_173
      revert g111_173
      revert g110_173
      revert g109_173
      revert g108_173
      revert g107_173
      revert g106_173
      revert g105_173
      revert g104_173
      revert g103_173
      revert g102_173
      revert g101_173
      revert g100_173
      revert l7_173
      revert l6_173
      revert l5_173
      revert l4_173
      revert l1_173
      revert z173
      revert ls
      revert locs
      revert H
      induction n_173 with
      | zero => intro H locs ls z173 l1_173 l4_173 l5_173 l6_173 l7_173 g100_173 g101_173 g102_173 g103_173 g104_173 g105_173 g106_173 g107_173 g108_173 g109_173 g110_173 g111_173 g112_173 g116_173 x113_173 x114_173 x115_173 x138_173 x99_173 hfh_173_98 hfh_173_99 hfh_173_100 hfh_173_101 hfh_173_102 hfh_173_103 hfh_173_104 hfh_173_105 hfh_173_106 hfh_173_107 hfh_173_108 hfh_173_109 hfh_173_110 hfh_173_111 hfh_173_112 hfh_173_113 hfh_173_114 hfh_173_115 hfh_173_116 hfh_173_138 hlh_173 hrh_173 hl hS hD hP hsp; unfold lp_vm_patch_173 at hsp; cases hsp
      | succ n_173 ih_173 =>
        intro H locs ls z173 l1_173 l4_173 l5_173 l6_173 l7_173 g100_173 g101_173 g102_173 g103_173 g104_173 g105_173 g106_173 g107_173 g108_173 g109_173 g110_173 g111_173 g112_173 g116_173 x113_173 x114_173 x115_173 x138_173 x99_173 hfh_173_98 hfh_173_99 hfh_173_100 hfh_173_101 hfh_173_102 hfh_173_103 hfh_173_104 hfh_173_105 hfh_173_106 hfh_173_107 hfh_173_108 hfh_173_109 hfh_173_110 hfh_173_111 hfh_173_112 hfh_173_113 hfh_173_114 hfh_173_115 hfh_173_116 hfh_173_138 hlh_173 hrh_173 hl hS hD hP hsp
        unfold lp_vm_patch_173 at hsp
        try dsimp only at hsp
        refine lv_iload hx hb dX13_patch_173 (lv_at hl 0 rfl) ?_
        refine lv_bipush (v := 8) hx hb dX13_patch_175 (by decide) ?_
        refine lv_aload_n hx hb dX13_patch_177 rfl (lv_at hl 3 rfl) ?_
        refine va_get (D := (dC, dI)) (ci := 13) (v := .int v98) (C := RX13) (T := TX13) (N := 155) hx hb hts uV_h9_X13 hown hK hP 0 rfl rfl 98 (by decide) (hts (.fieldLink RX13 833 "ClassMillModel" "there" "I") mw_h9_276) (fun _ h9 => h9) hfh_173_98 dX13_patch_178 ?_
        refine lv_iadd hx hb dX13_patch_181 ?_
        refine lv_icmp_ge (tgt := 235) hx hb dX13_patch_182 (by decide) (fun c_19 => ?_) (fun c_19 => ?_)
        · rw [if_pos c_19] at hsp
          exact hj_235 (H, locs, ls, z173, l4_173, l5_173, g100_173, g101_173, g102_173, g103_173, g104_173, g105_173, g106_173, g107_173, g108_173, g109_173, g110_173, g111_173, g112_173, g116_173, x113_173, x114_173, x115_173, x138_173, x99_173) ⟨lv_sub hl [3, 5, 2] rfl, hS, hD.sub (ws' := [(h0, .inr (13, z173)), (qf101, .inl (cf101, 8, .inl g101_173)), (qf112, .inl (cf112, 6000, .inl g112_173)), (qf103, .inl (cf103, 8, .inl g103_173)), (qf116, .inl (cf116, 309, .inl g116_173)), (qf104, .inl (cf104, 8, .inl g104_173)), (qf105, .inl (cf105, 8, .inl g105_173)), (qf106, .inl (cf106, 8, .inl g106_173)), (qf108, .inl (cf108, 8, .inl g108_173)), (qf107, .inl (cf107, 96, .inl g107_173)), (qf109, .inl (cf109, 96, .inl g109_173)), (qf110, .inl (cf110, 96, .inl g110_173)), (qf111, .inl (cf111, 96, .inl g111_173)), (qf102, .inl (cf102, 2048, .inl g102_173)), (qf100, .inl (cf100, 48000, .inl g100_173))]) [0, 1, 2, 3, 4, 5, 6, 7, 8, 9, 10, 11, 12, 13, 14] (by decide) rfl, hP.sub (ws' := [(h0, .inr (13, z173)), (qf101, .inl (cf101, 8, .inl g101_173)), (qf112, .inl (cf112, 6000, .inl g112_173)), (qf103, .inl (cf103, 8, .inl g103_173)), (qf116, .inl (cf116, 309, .inl g116_173)), (qf104, .inl (cf104, 8, .inl g104_173)), (qf105, .inl (cf105, 8, .inl g105_173)), (qf106, .inl (cf106, 8, .inl g106_173)), (qf108, .inl (cf108, 8, .inl g108_173)), (qf107, .inl (cf107, 96, .inl g107_173)), (qf109, .inl (cf109, 96, .inl g109_173)), (qf110, .inl (cf110, 96, .inl g110_173)), (qf111, .inl (cf111, 96, .inl g111_173)), (qf102, .inl (cf102, 2048, .inl g102_173)), (qf100, .inl (cf100, 48000, .inl g100_173))]) [0, 1, 2, 3, 4, 5, 6, 7, 8, 9, 10, 11, 12, 13, 14] rfl, hfh_173_98, hfh_173_99, hfh_173_100, hfh_173_101, hfh_173_102, hfh_173_103, hfh_173_104, hfh_173_105, hfh_173_106, hfh_173_107, hfh_173_108, hfh_173_109, hfh_173_110, hfh_173_111, hfh_173_112, hfh_173_113, hfh_173_114, hfh_173_115, hfh_173_116, hfh_173_138, hlh_173, hrh_173, hsp⟩
        · rw [if_neg c_19] at hsp
          refine lv_iload hx hb dX13_patch_185 (lv_at hl 2 rfl) ?_
          refine lv_if_eq (tgt := 235) hx hb dX13_patch_187 (by decide) (fun c_20 => ?_) (fun c_20 => ?_)
          · rw [if_pos c_20] at hsp
            exact hj_235 (H, locs, ls, z173, l4_173, l5_173, g100_173, g101_173, g102_173, g103_173, g104_173, g105_173, g106_173, g107_173, g108_173, g109_173, g110_173, g111_173, g112_173, g116_173, x113_173, x114_173, x115_173, x138_173, x99_173) ⟨lv_sub hl [3, 5, 2] rfl, hS, hD.sub (ws' := [(h0, .inr (13, z173)), (qf101, .inl (cf101, 8, .inl g101_173)), (qf112, .inl (cf112, 6000, .inl g112_173)), (qf103, .inl (cf103, 8, .inl g103_173)), (qf116, .inl (cf116, 309, .inl g116_173)), (qf104, .inl (cf104, 8, .inl g104_173)), (qf105, .inl (cf105, 8, .inl g105_173)), (qf106, .inl (cf106, 8, .inl g106_173)), (qf108, .inl (cf108, 8, .inl g108_173)), (qf107, .inl (cf107, 96, .inl g107_173)), (qf109, .inl (cf109, 96, .inl g109_173)), (qf110, .inl (cf110, 96, .inl g110_173)), (qf111, .inl (cf111, 96, .inl g111_173)), (qf102, .inl (cf102, 2048, .inl g102_173)), (qf100, .inl (cf100, 48000, .inl g100_173))]) [0, 1, 2, 3, 4, 5, 6, 7, 8, 9, 10, 11, 12, 13, 14] (by decide) rfl, hP.sub (ws' := [(h0, .inr (13, z173)), (qf101, .inl (cf101, 8, .inl g101_173)), (qf112, .inl (cf112, 6000, .inl g112_173)), (qf103, .inl (cf103, 8, .inl g103_173)), (qf116, .inl (cf116, 309, .inl g116_173)), (qf104, .inl (cf104, 8, .inl g104_173)), (qf105, .inl (cf105, 8, .inl g105_173)), (qf106, .inl (cf106, 8, .inl g106_173)), (qf108, .inl (cf108, 8, .inl g108_173)), (qf107, .inl (cf107, 96, .inl g107_173)), (qf109, .inl (cf109, 96, .inl g109_173)), (qf110, .inl (cf110, 96, .inl g110_173)), (qf111, .inl (cf111, 96, .inl g111_173)), (qf102, .inl (cf102, 2048, .inl g102_173)), (qf100, .inl (cf100, 48000, .inl g100_173))]) [0, 1, 2, 3, 4, 5, 6, 7, 8, 9, 10, 11, 12, 13, 14] rfl, hfh_173_98, hfh_173_99, hfh_173_100, hfh_173_101, hfh_173_102, hfh_173_103, hfh_173_104, hfh_173_105, hfh_173_106, hfh_173_107, hfh_173_108, hfh_173_109, hfh_173_110, hfh_173_111, hfh_173_112, hfh_173_113, hfh_173_114, hfh_173_115, hfh_173_116, hfh_173_138, hlh_173, hrh_173, hsp⟩
          · rw [if_neg c_20] at hsp
            refine lv_iload hx hb dX13_patch_190 (lv_at hl 0 rfl) ?_
            refine lv_iload_n hx hb dX13_patch_192 rfl (lv_at hl 4 rfl) ?_
            refine lv_icmp_eq (tgt := 222) hx hb dX13_patch_193 (by decide) (fun c_21 => ?_) (fun c_21 => ?_)
            · rw [if_pos c_21] at hsp
              refine lv_iconst (v := 1) hx hb dX13_patch_222 (by decide) ?_
              refine lv_goto (tgt := 227) hx hb dX13_patch_223 (by decide) ?_
              refine lv_istore (lv' := [(5, .int 1), (7, .int l7_173), (6, .int l6_173), (0, .ref h0), (1, .int l1_173), (4, .int l4_173)]) hx hb dX13_patch_227 hl (by decide) rfl (fun ls hl => ?_)
              refine lv_iinc (v := (l7_173 + 1)) (lv' := [(7, .int (l7_173 + 1)), (5, .int 1), (6, .int l6_173), (0, .ref h0), (1, .int l1_173), (4, .int l4_173)]) hx hb dX13_patch_229 hl (k := 1) rfl rfl (by decide) rfl (fun ls hl => ?_)
              refine lv_goto (tgt := 173) hx hb dX13_patch_232 (by decide) ?_
              exact ih_173 H locs ls z173 l1_173 l4_173 1 l6_173 (l7_173 + 1) g100_173 g101_173 g102_173 g103_173 g104_173 g105_173 g106_173 g107_173 g108_173 g109_173 g110_173 g111_173 g112_173 g116_173 x113_173 x114_173 x115_173 x138_173 x99_173 (hfh_173_98) (hfh_173_99) (hfh_173_100) (hfh_173_101) (hfh_173_102) (hfh_173_103) (hfh_173_104) (hfh_173_105) (hfh_173_106) (hfh_173_107) (hfh_173_108) (hfh_173_109) (hfh_173_110) (hfh_173_111) (hfh_173_112) (hfh_173_113) (hfh_173_114) (hfh_173_115) (hfh_173_116) (hfh_173_138) hlh_173 hrh_173 (lv_sub hl [0, 2, 1, 3, 4, 5] rfl) hS (hD.sub (ws' := [(h0, .inr (13, z173)), (qf101, .inl (cf101, 8, .inl g101_173)), (qf112, .inl (cf112, 6000, .inl g112_173)), (qf103, .inl (cf103, 8, .inl g103_173)), (qf116, .inl (cf116, 309, .inl g116_173)), (qf104, .inl (cf104, 8, .inl g104_173)), (qf105, .inl (cf105, 8, .inl g105_173)), (qf106, .inl (cf106, 8, .inl g106_173)), (qf108, .inl (cf108, 8, .inl g108_173)), (qf107, .inl (cf107, 96, .inl g107_173)), (qf109, .inl (cf109, 96, .inl g109_173)), (qf110, .inl (cf110, 96, .inl g110_173)), (qf111, .inl (cf111, 96, .inl g111_173)), (qf102, .inl (cf102, 2048, .inl g102_173)), (qf100, .inl (cf100, 48000, .inl g100_173))]) [0, 1, 2, 3, 4, 5, 6, 7, 8, 9, 10, 11, 12, 13, 14] (by decide) rfl) (hP.sub (ws' := [(h0, .inr (13, z173)), (qf101, .inl (cf101, 8, .inl g101_173)), (qf112, .inl (cf112, 6000, .inl g112_173)), (qf103, .inl (cf103, 8, .inl g103_173)), (qf116, .inl (cf116, 309, .inl g116_173)), (qf104, .inl (cf104, 8, .inl g104_173)), (qf105, .inl (cf105, 8, .inl g105_173)), (qf106, .inl (cf106, 8, .inl g106_173)), (qf108, .inl (cf108, 8, .inl g108_173)), (qf107, .inl (cf107, 96, .inl g107_173)), (qf109, .inl (cf109, 96, .inl g109_173)), (qf110, .inl (cf110, 96, .inl g110_173)), (qf111, .inl (cf111, 96, .inl g111_173)), (qf102, .inl (cf102, 2048, .inl g102_173)), (qf100, .inl (cf100, 48000, .inl g100_173))]) [0, 1, 2, 3, 4, 5, 6, 7, 8, 9, 10, 11, 12, 13, 14] rfl) hsp
            · rw [if_neg c_21] at hsp
              refine lv_aload_n hx hb dX13_patch_196 rfl (lv_at hl 3 rfl) ?_
              refine lv_iload hx hb dX13_patch_197 (lv_at hl 0 rfl) ?_
              refine lv_aload_n hx hb dX13_patch_199 rfl (lv_at hl 3 rfl) ?_
              refine va_get (D := (dC, dI)) (ci := 13) (v := .ref qf112) (C := RX13) (T := TX13) (N := 155) hx hb hts uV_h9_X13 hown hK hP 0 rfl rfl 112 (by decide) (hts (.fieldLink RX13 245 "ClassMillModel" "look" "[I") mw_h9_242) (fun _ h9 => h9) hfh_173_112 dX13_patch_200 ?_
              refine lv_iload hx hb dX13_patch_203 (lv_at hl 1 rfl) ?_
              refine lv_iconst (v := 2) hx hb dX13_patch_205 (by decide) ?_
              refine lv_iadd hx hb dX13_patch_206 ?_
              refine lv_aload_n hx hb dX13_patch_207 rfl (lv_at hl 3 rfl) ?_
              refine va_get (D := (dC, dI)) (ci := 13) (v := .ref qf112) (C := RX13) (T := TX13) (N := 155) hx hb hts uV_h9_X13 hown hK hP 0 rfl rfl 112 (by decide) (hts (.fieldLink RX13 245 "ClassMillModel" "look" "[I") mw_h9_242) (fun _ h9 => h9) hfh_173_112 dX13_patch_208 ?_
              refine lv_iload hx hb dX13_patch_211 (lv_at hl 1 rfl) ?_
              refine lv_iconst (v := 1) hx hb dX13_patch_213 (by decide) ?_
              refine lv_iadd hx hb dX13_patch_214 ?_
              obtain ⟨hi_22, hsp⟩ := ox_in hsp
              refine va_iald hx hb hK hP 2 1 rfl rfl (i := (l6_173 + 1)) hi_22 dX13_patch_215 ?_
              obtain ⟨u3_0, hu_3, hsp⟩ := ox_bind hsp
              try dsimp only at hsp
              have hPc := hP.sub (ws' := [(h0, .inr (13, z173)), (qf104, .inl (cf104, 8, .inl g104_173)), (qf102, .inl (cf102, 2048, .inl g102_173)), (qf100, .inl (cf100, 48000, .inl g100_173)), (qf112, .inl (cf112, 6000, .inl g112_173))]) [0, 5, 13, 14, 2] rfl
              have hDc := hD.sub (ws' := [(h0, .inr (13, z173)), (qf104, .inl (cf104, 8, .inl g104_173)), (qf102, .inl (cf102, 2048, .inl g102_173)), (qf100, .inl (cf100, 48000, .inl g100_173)), (qf112, .inl (cf112, 6000, .inl g112_173))]) [0, 5, 13, 14, 2] (by decide) rfl
              have hKc := hK.sub (tys' := [(cf104, .int), (cf102, .int), (cf100, .int), (cf112, .int)]) [4, 12, 13, 1] rfl
              have hFc := va_free (wc := [(h0, .inr (13, z173)), (qf104, .inl (cf104, 8, .inl g104_173)), (qf102, .inl (cf102, 2048, .inl g102_173)), (qf100, .inl (cf100, 48000, .inl g100_173)), (qf112, .inl (cf112, 6000, .inl g112_173))]) hD hS hA [0, 5, 13, 14, 2] rfl
              refine va_calli (va_runV (As := [.int l7_173, .ref qf112, .int (l6_173 + 2), .int (g112_173 ((l6_173 + 1) : Int32).toNatClampNeg)]) (rest := []) ⟨hx, hb, hml, hown, hts⟩ (vm_isNamed l dC dI H.size h0 z173 l7_173 qf112 ((l6_173 + 2)) ((g112_173 ((l6_173 + 1) : Int32).toNatClampNeg)) qf100 qf102 qf104 cf104 g104_173 cf102 g102_173 cf100 g100_173 cf112 6000 g112_173 nS477 fS477 hS477 qS477 tS477 nf u3_0 hlh_173 hfh_173_100 hfh_173_102 hfh_173_104 hu_3) (cwV 4 hts gv_h9_53 rfl rfl rfl (by decide +kernel) ⟨Nat.le_of_ble_eq_true rfl, Nat.le_of_ble_eq_true rfl⟩) ⟨fun a U g mk q => by obtain ⟨q0, q1, qP, qK, qD, qhZWS477, qhZRS477⟩ := q; exact ⟨q0, q1, qP, va_K.moved (u := U) (U := U.calling g mk a) (Vm.Alike.refl U.vm) qK, qD, pz_W.moved (u := U) (U := U.calling g mk a) (Vm.Alike.refl U.vm) qhZWS477, vk_R.same rfl qhZRS477⟩, va_recv hKc hPc (ci := 13) (q0 := 0) rfl rfl, fun U hU hW => ⟨rfl, by rw [hU], by rw [hU]; exact hPc, va_K.moved hW.alike hKc, hDc.weaken (fun _ _ _ _ => trivial), by rw [hU]; exact ((pz_W.moved hW.alike hZWS477).kept hS.2.1).narrow hFc, vk_R.warm hW hZRS477⟩⟩ rfl rfl hl.1 rfl (lv_room (Nat.le_of_ble_eq_true rfl)) dX13_patch_216 ⟨Nat.le_of_ble_eq_true rfl, Nat.le_of_ble_eq_true rfl⟩) hS (fun q _ h => hFc q h) hFc ?_
              clear hS
              intro r_23 u t H1 locs ht hvm hw hB hz1 hk1 hS
              obtain ⟨z_3, rfl⟩ : ∃ z, z = u := ⟨_, rfl⟩
              obtain ⟨hP1, hK1, hD1⟩ := hB
              rw [ht] at hP1
              have hK1 := va_K.moved hvm.symm hK1
              try dsimp only at hw
              have hPD := va_join (wr := [(qf101, .inl (cf101, 8, .inl g101_173)), (qf103, .inl (cf103, 8, .inl g103_173)), (qf116, .inl (cf116, 309, .inl g116_173)), (qf105, .inl (cf105, 8, .inl g105_173)), (qf106, .inl (cf106, 8, .inl g106_173)), (qf108, .inl (cf108, 8, .inl g108_173)), (qf107, .inl (cf107, 96, .inl g107_173)), (qf109, .inl (cf109, 96, .inl g109_173)), (qf110, .inl (cf110, 96, .inl g110_173)), (qf111, .inl (cf111, 96, .inl g111_173))]) (w1 := [(h0, .inr (13, z_3)), (qf104, .inl (cf104, 8, .inl g104_173)), (qf102, .inl (cf102, 2048, .inl g102_173)), (qf100, .inl (cf100, 48000, .inl g100_173)), (qf112, .inl (cf112, 6000, .inl g112_173))]) hP hD [0, 5, 13, 14, 2] [1, 3, 4, 6, 7, 8, 9, 10, 11, 12] rfl rfl (by decide) (by decide) hk1 hFc hP1 hD1
              clear hP hD
              obtain ⟨hP, hD⟩ := hPD
              replace hK := (hK.sub (tys' := [(cf101, .int), (cf103, .int), (cf116, .int), (cf105, .int), (cf106, .int), (cf108, .int), (cf107, .int), (cf109, .int), (cf110, .int), (cf111, .int)]) [0, 2, 3, 5, 6, 7, 8, 9, 10, 11] rfl).app hK1
              clear hPc hDc hKc hFc hP1 hK1 hD1 hz1 hk1 ht hvm
              generalize H1 = H at hP hS ⊢
              replace hP : va_P (dC, dI) vwCl [(qf101, .inl (cf101, 8, .inl g101_173)), (qf103, .inl (cf103, 8, .inl g103_173)), (qf116, .inl (cf116, 309, .inl g116_173)), (qf105, .inl (cf105, 8, .inl g105_173)), (qf106, .inl (cf106, 8, .inl g106_173)), (qf108, .inl (cf108, 8, .inl g108_173)), (qf107, .inl (cf107, 96, .inl g107_173)), (qf109, .inl (cf109, 96, .inl g109_173)), (qf110, .inl (cf110, 96, .inl g110_173)), (qf111, .inl (cf111, 96, .inl g111_173)), (h0, .inr (13, z_3)), (qf104, .inl (cf104, 8, .inl g104_173)), (qf102, .inl (cf102, 2048, .inl g102_173)), (qf100, .inl (cf100, 48000, .inl g100_173)), (qf112, .inl (cf112, 6000, .inl g112_173))] H := hP
              replace hD : va_D A [(qf101, .inl (cf101, 8, .inl g101_173)), (qf103, .inl (cf103, 8, .inl g103_173)), (qf116, .inl (cf116, 309, .inl g116_173)), (qf105, .inl (cf105, 8, .inl g105_173)), (qf106, .inl (cf106, 8, .inl g106_173)), (qf108, .inl (cf108, 8, .inl g108_173)), (qf107, .inl (cf107, 96, .inl g107_173)), (qf109, .inl (cf109, 96, .inl g109_173)), (qf110, .inl (cf110, 96, .inl g110_173)), (qf111, .inl (cf111, 96, .inl g111_173)), (h0, .inr (13, z_3)), (qf104, .inl (cf104, 8, .inl g104_173)), (qf102, .inl (cf102, 2048, .inl g102_173)), (qf100, .inl (cf100, 48000, .inl g100_173)), (qf112, .inl (cf112, 6000, .inl g112_173))] := hD
              replace hK : va_K (dC, dI) vwCl [(cf101, .int), (cf103, .int), (cf116, .int), (cf105, .int), (cf106, .int), (cf108, .int), (cf107, .int), (cf109, .int), (cf110, .int), (cf111, .int), (cf104, .int), (cf102, .int), (cf100, .int), (cf112, .int)] s := hK
              obtain ⟨hwa_3, hln_3, hre_3⟩ := hw
              have hfk_3_98 : z_3[98]? = some (.int v98) := (hre_3 98 ).trans (hfh_173_98)
              have hfk_3_99 : z_3[99]? = some (.int x99_173) := (hre_3 99 ).trans (hfh_173_99)
              have hfk_3_100 : z_3[100]? = some (.ref qf100) := (hre_3 100 ).trans (hfh_173_100)
              have hfk_3_101 : z_3[101]? = some (.ref qf101) := (hre_3 101 ).trans (hfh_173_101)
              have hfk_3_102 : z_3[102]? = some (.ref qf102) := (hre_3 102 ).trans (hfh_173_102)
              have hfk_3_103 : z_3[103]? = some (.ref qf103) := (hre_3 103 ).trans (hfh_173_103)
              have hfk_3_104 : z_3[104]? = some (.ref qf104) := (hre_3 104 ).trans (hfh_173_104)
              have hfk_3_105 : z_3[105]? = some (.ref qf105) := (hre_3 105 ).trans (hfh_173_105)
              have hfk_3_106 : z_3[106]? = some (.ref qf106) := (hre_3 106 ).trans (hfh_173_106)
              have hfk_3_107 : z_3[107]? = some (.ref qf107) := (hre_3 107 ).trans (hfh_173_107)
              have hfk_3_108 : z_3[108]? = some (.ref qf108) := (hre_3 108 ).trans (hfh_173_108)
              have hfk_3_109 : z_3[109]? = some (.ref qf109) := (hre_3 109 ).trans (hfh_173_109)
              have hfk_3_110 : z_3[110]? = some (.ref qf110) := (hre_3 110 ).trans (hfh_173_110)
              have hfk_3_111 : z_3[111]? = some (.ref qf111) := (hre_3 111 ).trans (hfh_173_111)
              have hfk_3_112 : z_3[112]? = some (.ref qf112) := (hre_3 112 ).trans (hfh_173_112)
              have hfk_3_113 : z_3[113]? = some (.int x113_173) := (hre_3 113 ).trans (hfh_173_113)
              have hfk_3_114 : z_3[114]? = some (.int x114_173) := (hre_3 114 ).trans (hfh_173_114)
              have hfk_3_115 : z_3[115]? = some (.int x115_173) := (hre_3 115 ).trans (hfh_173_115)
              have hfk_3_116 : z_3[116]? = some (.ref qf116) := (hre_3 116 ).trans (hfh_173_116)
              have hfk_3_138 : z_3[138]? = some (.int x138_173) := (hre_3 138 ).trans (hfh_173_138)
              have hrq_3 : ∀ j : Nat, j ≠ 113 → j ≠ 114 → j ≠ 115 → j ≠ 138 → j ≠ 99 → z_3[j]? = zs[j]? := fun j g113 g114 g115 g138 g99 => (hre_3 j ).trans (hrh_173 j g113 g114 g115 g138 g99)
              obtain ⟨rfl, hz_3⟩ := hwa_3
              rcases hz_3 with rfl | rfl
              · rw [if_pos rfl] at hsp
                refine lv_if_ne (tgt := 226) hx hb dX13_patch_219 (by decide) (fun c_24 => (show False by revert c_24; decide).elim) (fun c_24 => ?_)
                refine lv_iconst (v := 1) hx hb dX13_patch_222 (by decide) ?_
                refine lv_goto (tgt := 227) hx hb dX13_patch_223 (by decide) ?_
                refine lv_istore (lv' := [(5, .int 1), (7, .int l7_173), (6, .int l6_173), (0, .ref h0), (1, .int l1_173), (4, .int l4_173)]) hx hb dX13_patch_227 hl (by decide) rfl (fun ls hl => ?_)
                refine lv_iinc (v := (l7_173 + 1)) (lv' := [(7, .int (l7_173 + 1)), (5, .int 1), (6, .int l6_173), (0, .ref h0), (1, .int l1_173), (4, .int l4_173)]) hx hb dX13_patch_229 hl (k := 1) rfl rfl (by decide) rfl (fun ls hl => ?_)
                refine lv_goto (tgt := 173) hx hb dX13_patch_232 (by decide) ?_
                exact ih_173 H locs ls z_3 l1_173 l4_173 1 l6_173 (l7_173 + 1) g100_173 g101_173 g102_173 g103_173 g104_173 g105_173 g106_173 g107_173 g108_173 g109_173 g110_173 g111_173 g112_173 g116_173 x113_173 x114_173 x115_173 x138_173 x99_173 (hfk_3_98) (hfk_3_99) (hfk_3_100) (hfk_3_101) (hfk_3_102) (hfk_3_103) (hfk_3_104) (hfk_3_105) (hfk_3_106) (hfk_3_107) (hfk_3_108) (hfk_3_109) (hfk_3_110) (hfk_3_111) (hfk_3_112) (hfk_3_113) (hfk_3_114) (hfk_3_115) (hfk_3_116) (hfk_3_138) hln_3 hrq_3 (lv_sub hl [0, 2, 1, 3, 4, 5] rfl) hS (hD.sub (ws' := [(h0, .inr (13, z_3)), (qf101, .inl (cf101, 8, .inl g101_173)), (qf112, .inl (cf112, 6000, .inl g112_173)), (qf103, .inl (cf103, 8, .inl g103_173)), (qf116, .inl (cf116, 309, .inl g116_173)), (qf104, .inl (cf104, 8, .inl g104_173)), (qf105, .inl (cf105, 8, .inl g105_173)), (qf106, .inl (cf106, 8, .inl g106_173)), (qf108, .inl (cf108, 8, .inl g108_173)), (qf107, .inl (cf107, 96, .inl g107_173)), (qf109, .inl (cf109, 96, .inl g109_173)), (qf110, .inl (cf110, 96, .inl g110_173)), (qf111, .inl (cf111, 96, .inl g111_173)), (qf102, .inl (cf102, 2048, .inl g102_173)), (qf100, .inl (cf100, 48000, .inl g100_173))]) [10, 0, 14, 1, 2, 11, 3, 4, 5, 6, 7, 8, 9, 12, 13] (by decide) rfl) (hP.sub (ws' := [(h0, .inr (13, z_3)), (qf101, .inl (cf101, 8, .inl g101_173)), (qf112, .inl (cf112, 6000, .inl g112_173)), (qf103, .inl (cf103, 8, .inl g103_173)), (qf116, .inl (cf116, 309, .inl g116_173)), (qf104, .inl (cf104, 8, .inl g104_173)), (qf105, .inl (cf105, 8, .inl g105_173)), (qf106, .inl (cf106, 8, .inl g106_173)), (qf108, .inl (cf108, 8, .inl g108_173)), (qf107, .inl (cf107, 96, .inl g107_173)), (qf109, .inl (cf109, 96, .inl g109_173)), (qf110, .inl (cf110, 96, .inl g110_173)), (qf111, .inl (cf111, 96, .inl g111_173)), (qf102, .inl (cf102, 2048, .inl g102_173)), (qf100, .inl (cf100, 48000, .inl g100_173))]) [10, 0, 14, 1, 2, 11, 3, 4, 5, 6, 7, 8, 9, 12, 13] rfl) hsp
              · rw [if_neg (by decide)] at hsp
                refine lv_if_ne (tgt := 226) hx hb dX13_patch_219 (by decide) (fun c_25 => ?_) (fun c_25 => (show False by revert c_25; decide).elim)
                refine lv_iconst (v := 0) hx hb dX13_patch_226 (by decide) ?_
                refine lv_istore (lv' := [(5, .int 0), (7, .int l7_173), (6, .int l6_173), (0, .ref h0), (1, .int l1_173), (4, .int l4_173)]) hx hb dX13_patch_227 hl (by decide) rfl (fun ls hl => ?_)
                refine lv_iinc (v := (l7_173 + 1)) (lv' := [(7, .int (l7_173 + 1)), (5, .int 0), (6, .int l6_173), (0, .ref h0), (1, .int l1_173), (4, .int l4_173)]) hx hb dX13_patch_229 hl (k := 1) rfl rfl (by decide) rfl (fun ls hl => ?_)
                refine lv_goto (tgt := 173) hx hb dX13_patch_232 (by decide) ?_
                exact ih_173 H locs ls z_3 l1_173 l4_173 0 l6_173 (l7_173 + 1) g100_173 g101_173 g102_173 g103_173 g104_173 g105_173 g106_173 g107_173 g108_173 g109_173 g110_173 g111_173 g112_173 g116_173 x113_173 x114_173 x115_173 x138_173 x99_173 (hfk_3_98) (hfk_3_99) (hfk_3_100) (hfk_3_101) (hfk_3_102) (hfk_3_103) (hfk_3_104) (hfk_3_105) (hfk_3_106) (hfk_3_107) (hfk_3_108) (hfk_3_109) (hfk_3_110) (hfk_3_111) (hfk_3_112) (hfk_3_113) (hfk_3_114) (hfk_3_115) (hfk_3_116) (hfk_3_138) hln_3 hrq_3 (lv_sub hl [0, 2, 1, 3, 4, 5] rfl) hS (hD.sub (ws' := [(h0, .inr (13, z_3)), (qf101, .inl (cf101, 8, .inl g101_173)), (qf112, .inl (cf112, 6000, .inl g112_173)), (qf103, .inl (cf103, 8, .inl g103_173)), (qf116, .inl (cf116, 309, .inl g116_173)), (qf104, .inl (cf104, 8, .inl g104_173)), (qf105, .inl (cf105, 8, .inl g105_173)), (qf106, .inl (cf106, 8, .inl g106_173)), (qf108, .inl (cf108, 8, .inl g108_173)), (qf107, .inl (cf107, 96, .inl g107_173)), (qf109, .inl (cf109, 96, .inl g109_173)), (qf110, .inl (cf110, 96, .inl g110_173)), (qf111, .inl (cf111, 96, .inl g111_173)), (qf102, .inl (cf102, 2048, .inl g102_173)), (qf100, .inl (cf100, 48000, .inl g100_173))]) [10, 0, 14, 1, 2, 11, 3, 4, 5, 6, 7, 8, 9, 12, 13] (by decide) rfl) (hP.sub (ws' := [(h0, .inr (13, z_3)), (qf101, .inl (cf101, 8, .inl g101_173)), (qf112, .inl (cf112, 6000, .inl g112_173)), (qf103, .inl (cf103, 8, .inl g103_173)), (qf116, .inl (cf116, 309, .inl g116_173)), (qf104, .inl (cf104, 8, .inl g104_173)), (qf105, .inl (cf105, 8, .inl g105_173)), (qf106, .inl (cf106, 8, .inl g106_173)), (qf108, .inl (cf108, 8, .inl g108_173)), (qf107, .inl (cf107, 96, .inl g107_173)), (qf109, .inl (cf109, 96, .inl g109_173)), (qf110, .inl (cf110, 96, .inl g110_173)), (qf111, .inl (cf111, 96, .inl g111_173)), (qf102, .inl (cf102, 2048, .inl g102_173)), (qf100, .inl (cf100, 48000, .inl g100_173))]) [10, 0, 14, 1, 2, 11, 3, 4, 5, 6, 7, 8, 9, 12, 13] rfl) hsp
  intro hj_123
  refine lv_iload_n hx hb dX13_patch_0 rfl (lv_at hl 1 rfl) ?_
  refine lv_bipush (v := 8) hx hb dX13_patch_1 (by decide) ?_
  refine lv_isub hx hb dX13_patch_3 ?_
  refine lv_istore (lv' := [(4, .int (a1 - 8)), (0, .ref h0), (1, .int a1), (2, .int a2), (3, .int a3)]) hx hb dX13_patch_4 hl (by decide) rfl (fun ls hl => ?_)
  refine lv_iload hx hb dX13_patch_6 (lv_at hl 0 rfl) ?_
  refine lv_if_lt (tgt := 35) hx hb dX13_patch_8 (by decide) (fun c_1 => ?_) (fun c_1 => ?_)
  · rw [if_pos c_1] at hsp
    refine lv_iconst (v := 0) hx hb dX13_patch_35 (by decide) ?_
    have hr0 := Option.some.inj hsp
    clear hsp
    obtain ⟨hq0, hr1⟩ := Prod.mk.inj hr0
    clear hr0
    obtain ⟨hq1, hr2⟩ := Prod.mk.inj hr1
    clear hr1
    obtain ⟨hq2, hr3⟩ := Prod.mk.inj hr2
    clear hr2
    obtain ⟨hq3, hr4⟩ := Prod.mk.inj hr3
    clear hr3
    obtain ⟨hq4, hr5⟩ := Prod.mk.inj hr4
    clear hr4
    obtain ⟨hq5, hr6⟩ := Prod.mk.inj hr5
    clear hr5
    obtain ⟨hq6, hr7⟩ := Prod.mk.inj hr6
    clear hr6
    obtain ⟨hq7, hr8⟩ := Prod.mk.inj hr7
    clear hr7
    obtain ⟨hq8, hr9⟩ := Prod.mk.inj hr8
    clear hr8
    obtain ⟨hq9, hr10⟩ := Prod.mk.inj hr9
    clear hr9
    obtain ⟨hq10, hr11⟩ := Prod.mk.inj hr10
    clear hr10
    obtain ⟨hq11, hr12⟩ := Prod.mk.inj hr11
    clear hr11
    obtain ⟨hq12, hr13⟩ := Prod.mk.inj hr12
    clear hr12
    obtain ⟨hq13, hr14⟩ := Prod.mk.inj hr13
    clear hr13
    obtain ⟨hq14, hr15⟩ := Prod.mk.inj hr14
    clear hr14
    obtain ⟨hq15, hr16⟩ := Prod.mk.inj hr15
    clear hr15
    obtain ⟨hq16, hr17⟩ := Prod.mk.inj hr16
    clear hr16
    obtain ⟨hq17, hr18⟩ := Prod.mk.inj hr17
    clear hr17
    obtain ⟨hq18, hr19⟩ := Prod.mk.inj hr18
    clear hr18
    subst hq0
    subst hq1
    subst hq2
    subst hq3
    subst hq4
    subst hq5
    subst hq6
    subst hq7
    subst hq8
    subst hq9
    subst hq10
    subst hq11
    subst hq12
    subst hq13
    subst hq14
    subst hq15
    subst hq16
    subst hq17
    subst hq18
    subst hr19
    have hP9 := hP.sub (ws' := [(h0, .inr (13, zs)), (qf101, .inl (cf101, 8, .inl f101)), (qf112, .inl (cf112, 6000, .inl f112)), (qf103, .inl (cf103, 8, .inl f103)), (qf116, .inl (cf116, 309, .inl f116)), (qf104, .inl (cf104, 8, .inl f104)), (qf105, .inl (cf105, 8, .inl f105)), (qf106, .inl (cf106, 8, .inl f106)), (qf108, .inl (cf108, 8, .inl f108)), (qf107, .inl (cf107, 96, .inl f107)), (qf109, .inl (cf109, 96, .inl f109)), (qf110, .inl (cf110, 96, .inl f110)), (qf111, .inl (cf111, 96, .inl f111)), (qf102, .inl (cf102, 2048, .inl f102)), (qf100, .inl (cf100, 48000, .inl f100))]) [0, 1, 2, 3, 4, 5, 6, 7, 8, 9, 10, 11, 12, 13, 14] rfl
    have hD9 := hD.sub (ws' := [(h0, .inr (13, zs)), (qf101, .inl (cf101, 8, .inl f101)), (qf112, .inl (cf112, 6000, .inl f112)), (qf103, .inl (cf103, 8, .inl f103)), (qf116, .inl (cf116, 309, .inl f116)), (qf104, .inl (cf104, 8, .inl f104)), (qf105, .inl (cf105, 8, .inl f105)), (qf106, .inl (cf106, 8, .inl f106)), (qf108, .inl (cf108, 8, .inl f108)), (qf107, .inl (cf107, 96, .inl f107)), (qf109, .inl (cf109, 96, .inl f109)), (qf110, .inl (cf110, 96, .inl f110)), (qf111, .inl (cf111, 96, .inl f111)), (qf102, .inl (cf102, 2048, .inl f102)), (qf100, .inl (cf100, 48000, .inl f100))]) [0, 1, 2, 3, 4, 5, 6, 7, 8, 9, 10, 11, 12, 13, 14] (by decide) rfl
    have hK9 := hK.sub (tys' := [(cf101, .int), (cf112, .int), (cf103, .int), (cf116, .int), (cf104, .int), (cf105, .int), (cf106, .int), (cf108, .int), (cf107, .int), (cf109, .int), (cf110, .int), (cf111, .int), (cf102, .int), (cf100, .int)]) [0, 1, 2, 3, 4, 5, 6, 7, 8, 9, 10, 11, 12, 13] rfl
    exact W.zret hx hb hr (by decide) (fun t ht hW => ⟨⟨(0), (zs), rfl, ⟨⟨rfl, Or.inl rfl⟩, hlen, hrs0, hf113, hf114, hf115, hf138, hf99⟩, by rw [ht]; exact hP9, va_K.moved hW.alike hK9, hD9⟩, hS.F ht⟩) hS.2.2 dX13_patch_36
  · rw [if_neg c_1] at hsp
    refine lv_iload hx hb dX13_patch_11 (lv_at hl 0 rfl) ?_
    refine lv_aload_n hx hb dX13_patch_13 rfl (lv_at hl 1 rfl) ?_
    refine va_get (D := (dC, dI)) (ci := 13) (v := .int v98) (C := RX13) (T := TX13) (N := 155) hx hb hts uV_h9_X13 hown hK hP 0 rfl rfl 98 (by decide) (hts (.fieldLink RX13 833 "ClassMillModel" "there" "I") mw_h9_276) (fun _ h9 => h9) hf98 dX13_patch_14 ?_
    refine lv_icmp_ge (tgt := 35) hx hb dX13_patch_17 (by decide) (fun c_2 => ?_) (fun c_2 => ?_)
    · rw [if_pos c_2] at hsp
      refine lv_iconst (v := 0) hx hb dX13_patch_35 (by decide) ?_
      have hr0 := Option.some.inj hsp
      clear hsp
      obtain ⟨hq0, hr1⟩ := Prod.mk.inj hr0
      clear hr0
      obtain ⟨hq1, hr2⟩ := Prod.mk.inj hr1
      clear hr1
      obtain ⟨hq2, hr3⟩ := Prod.mk.inj hr2
      clear hr2
      obtain ⟨hq3, hr4⟩ := Prod.mk.inj hr3
      clear hr3
      obtain ⟨hq4, hr5⟩ := Prod.mk.inj hr4
      clear hr4
      obtain ⟨hq5, hr6⟩ := Prod.mk.inj hr5
      clear hr5
      obtain ⟨hq6, hr7⟩ := Prod.mk.inj hr6
      clear hr6
      obtain ⟨hq7, hr8⟩ := Prod.mk.inj hr7
      clear hr7
      obtain ⟨hq8, hr9⟩ := Prod.mk.inj hr8
      clear hr8
      obtain ⟨hq9, hr10⟩ := Prod.mk.inj hr9
      clear hr9
      obtain ⟨hq10, hr11⟩ := Prod.mk.inj hr10
      clear hr10
      obtain ⟨hq11, hr12⟩ := Prod.mk.inj hr11
      clear hr11
      obtain ⟨hq12, hr13⟩ := Prod.mk.inj hr12
      clear hr12
      obtain ⟨hq13, hr14⟩ := Prod.mk.inj hr13
      clear hr13
      obtain ⟨hq14, hr15⟩ := Prod.mk.inj hr14
      clear hr14
      obtain ⟨hq15, hr16⟩ := Prod.mk.inj hr15
      clear hr15
      obtain ⟨hq16, hr17⟩ := Prod.mk.inj hr16
      clear hr16
      obtain ⟨hq17, hr18⟩ := Prod.mk.inj hr17
      clear hr17
      obtain ⟨hq18, hr19⟩ := Prod.mk.inj hr18
      clear hr18
      subst hq0
      subst hq1
      subst hq2
      subst hq3
      subst hq4
      subst hq5
      subst hq6
      subst hq7
      subst hq8
      subst hq9
      subst hq10
      subst hq11
      subst hq12
      subst hq13
      subst hq14
      subst hq15
      subst hq16
      subst hq17
      subst hq18
      subst hr19
      have hP9 := hP.sub (ws' := [(h0, .inr (13, zs)), (qf101, .inl (cf101, 8, .inl f101)), (qf112, .inl (cf112, 6000, .inl f112)), (qf103, .inl (cf103, 8, .inl f103)), (qf116, .inl (cf116, 309, .inl f116)), (qf104, .inl (cf104, 8, .inl f104)), (qf105, .inl (cf105, 8, .inl f105)), (qf106, .inl (cf106, 8, .inl f106)), (qf108, .inl (cf108, 8, .inl f108)), (qf107, .inl (cf107, 96, .inl f107)), (qf109, .inl (cf109, 96, .inl f109)), (qf110, .inl (cf110, 96, .inl f110)), (qf111, .inl (cf111, 96, .inl f111)), (qf102, .inl (cf102, 2048, .inl f102)), (qf100, .inl (cf100, 48000, .inl f100))]) [0, 1, 2, 3, 4, 5, 6, 7, 8, 9, 10, 11, 12, 13, 14] rfl
      have hD9 := hD.sub (ws' := [(h0, .inr (13, zs)), (qf101, .inl (cf101, 8, .inl f101)), (qf112, .inl (cf112, 6000, .inl f112)), (qf103, .inl (cf103, 8, .inl f103)), (qf116, .inl (cf116, 309, .inl f116)), (qf104, .inl (cf104, 8, .inl f104)), (qf105, .inl (cf105, 8, .inl f105)), (qf106, .inl (cf106, 8, .inl f106)), (qf108, .inl (cf108, 8, .inl f108)), (qf107, .inl (cf107, 96, .inl f107)), (qf109, .inl (cf109, 96, .inl f109)), (qf110, .inl (cf110, 96, .inl f110)), (qf111, .inl (cf111, 96, .inl f111)), (qf102, .inl (cf102, 2048, .inl f102)), (qf100, .inl (cf100, 48000, .inl f100))]) [0, 1, 2, 3, 4, 5, 6, 7, 8, 9, 10, 11, 12, 13, 14] (by decide) rfl
      have hK9 := hK.sub (tys' := [(cf101, .int), (cf112, .int), (cf103, .int), (cf116, .int), (cf104, .int), (cf105, .int), (cf106, .int), (cf108, .int), (cf107, .int), (cf109, .int), (cf110, .int), (cf111, .int), (cf102, .int), (cf100, .int)]) [0, 1, 2, 3, 4, 5, 6, 7, 8, 9, 10, 11, 12, 13] rfl
      exact W.zret hx hb hr (by decide) (fun t ht hW => ⟨⟨(0), (zs), rfl, ⟨⟨rfl, Or.inl rfl⟩, hlen, hrs0, hf113, hf114, hf115, hf138, hf99⟩, by rw [ht]; exact hP9, va_K.moved hW.alike hK9, hD9⟩, hS.F ht⟩) hS.2.2 dX13_patch_36
    · rw [if_neg c_2] at hsp
      refine lv_iload_n hx hb dX13_patch_20 rfl (lv_at hl 3 rfl) ?_
      refine lv_if_lt (tgt := 35) hx hb dX13_patch_21 (by decide) (fun c_3 => ?_) (fun c_3 => ?_)
      · rw [if_pos c_3] at hsp
        refine lv_iconst (v := 0) hx hb dX13_patch_35 (by decide) ?_
        have hr0 := Option.some.inj hsp
        clear hsp
        obtain ⟨hq0, hr1⟩ := Prod.mk.inj hr0
        clear hr0
        obtain ⟨hq1, hr2⟩ := Prod.mk.inj hr1
        clear hr1
        obtain ⟨hq2, hr3⟩ := Prod.mk.inj hr2
        clear hr2
        obtain ⟨hq3, hr4⟩ := Prod.mk.inj hr3
        clear hr3
        obtain ⟨hq4, hr5⟩ := Prod.mk.inj hr4
        clear hr4
        obtain ⟨hq5, hr6⟩ := Prod.mk.inj hr5
        clear hr5
        obtain ⟨hq6, hr7⟩ := Prod.mk.inj hr6
        clear hr6
        obtain ⟨hq7, hr8⟩ := Prod.mk.inj hr7
        clear hr7
        obtain ⟨hq8, hr9⟩ := Prod.mk.inj hr8
        clear hr8
        obtain ⟨hq9, hr10⟩ := Prod.mk.inj hr9
        clear hr9
        obtain ⟨hq10, hr11⟩ := Prod.mk.inj hr10
        clear hr10
        obtain ⟨hq11, hr12⟩ := Prod.mk.inj hr11
        clear hr11
        obtain ⟨hq12, hr13⟩ := Prod.mk.inj hr12
        clear hr12
        obtain ⟨hq13, hr14⟩ := Prod.mk.inj hr13
        clear hr13
        obtain ⟨hq14, hr15⟩ := Prod.mk.inj hr14
        clear hr14
        obtain ⟨hq15, hr16⟩ := Prod.mk.inj hr15
        clear hr15
        obtain ⟨hq16, hr17⟩ := Prod.mk.inj hr16
        clear hr16
        obtain ⟨hq17, hr18⟩ := Prod.mk.inj hr17
        clear hr17
        obtain ⟨hq18, hr19⟩ := Prod.mk.inj hr18
        clear hr18
        subst hq0
        subst hq1
        subst hq2
        subst hq3
        subst hq4
        subst hq5
        subst hq6
        subst hq7
        subst hq8
        subst hq9
        subst hq10
        subst hq11
        subst hq12
        subst hq13
        subst hq14
        subst hq15
        subst hq16
        subst hq17
        subst hq18
        subst hr19
        have hP9 := hP.sub (ws' := [(h0, .inr (13, zs)), (qf101, .inl (cf101, 8, .inl f101)), (qf112, .inl (cf112, 6000, .inl f112)), (qf103, .inl (cf103, 8, .inl f103)), (qf116, .inl (cf116, 309, .inl f116)), (qf104, .inl (cf104, 8, .inl f104)), (qf105, .inl (cf105, 8, .inl f105)), (qf106, .inl (cf106, 8, .inl f106)), (qf108, .inl (cf108, 8, .inl f108)), (qf107, .inl (cf107, 96, .inl f107)), (qf109, .inl (cf109, 96, .inl f109)), (qf110, .inl (cf110, 96, .inl f110)), (qf111, .inl (cf111, 96, .inl f111)), (qf102, .inl (cf102, 2048, .inl f102)), (qf100, .inl (cf100, 48000, .inl f100))]) [0, 1, 2, 3, 4, 5, 6, 7, 8, 9, 10, 11, 12, 13, 14] rfl
        have hD9 := hD.sub (ws' := [(h0, .inr (13, zs)), (qf101, .inl (cf101, 8, .inl f101)), (qf112, .inl (cf112, 6000, .inl f112)), (qf103, .inl (cf103, 8, .inl f103)), (qf116, .inl (cf116, 309, .inl f116)), (qf104, .inl (cf104, 8, .inl f104)), (qf105, .inl (cf105, 8, .inl f105)), (qf106, .inl (cf106, 8, .inl f106)), (qf108, .inl (cf108, 8, .inl f108)), (qf107, .inl (cf107, 96, .inl f107)), (qf109, .inl (cf109, 96, .inl f109)), (qf110, .inl (cf110, 96, .inl f110)), (qf111, .inl (cf111, 96, .inl f111)), (qf102, .inl (cf102, 2048, .inl f102)), (qf100, .inl (cf100, 48000, .inl f100))]) [0, 1, 2, 3, 4, 5, 6, 7, 8, 9, 10, 11, 12, 13, 14] (by decide) rfl
        have hK9 := hK.sub (tys' := [(cf101, .int), (cf112, .int), (cf103, .int), (cf116, .int), (cf104, .int), (cf105, .int), (cf106, .int), (cf108, .int), (cf107, .int), (cf109, .int), (cf110, .int), (cf111, .int), (cf102, .int), (cf100, .int)]) [0, 1, 2, 3, 4, 5, 6, 7, 8, 9, 10, 11, 12, 13] rfl
        exact W.zret hx hb hr (by decide) (fun t ht hW => ⟨⟨(0), (zs), rfl, ⟨⟨rfl, Or.inl rfl⟩, hlen, hrs0, hf113, hf114, hf115, hf138, hf99⟩, by rw [ht]; exact hP9, va_K.moved hW.alike hK9, hD9⟩, hS.F ht⟩) hS.2.2 dX13_patch_36
      · rw [if_neg c_3] at hsp
        refine lv_iload_n hx hb dX13_patch_24 rfl (lv_at hl 3 rfl) ?_
        refine lv_aload_n hx hb dX13_patch_25 rfl (lv_at hl 1 rfl) ?_
        refine va_get (D := (dC, dI)) (ci := 13) (v := .ref qf101) (C := RX13) (T := TX13) (N := 155) hx hb hts uV_h9_X13 hown hK hP 0 rfl rfl 101 (by decide) (hts (.fieldLink RX13 212 "ClassMillModel" "byteMany" "[I") mw_h9_480) (fun _ h9 => h9) hf101 dX13_patch_26 ?_
        refine lv_iload hx hb dX13_patch_29 (lv_at hl 0 rfl) ?_
        obtain ⟨hi_4, hsp⟩ := ox_in hsp
        refine va_iald hx hb hK hP 1 0 rfl rfl (i := (a1 - 8)) hi_4 dX13_patch_31 ?_
        refine lv_icmp_lt (tgt := 37) hx hb dX13_patch_32 (by decide) (fun c_5 => ?_) (fun c_5 => ?_)
        · rw [if_pos c_5] at hsp
          refine lv_aload_n hx hb dX13_patch_37 rfl (lv_at hl 1 rfl) ?_
          refine lv_aload_n hx hb dX13_patch_38 rfl (lv_at hl 1 rfl) ?_
          refine va_get (D := (dC, dI)) (ci := 13) (v := .ref qf101) (C := RX13) (T := TX13) (N := 155) hx hb hts uV_h9_X13 hown hK hP 0 rfl rfl 101 (by decide) (hts (.fieldLink RX13 212 "ClassMillModel" "byteMany" "[I") mw_h9_480) (fun _ h9 => h9) hf101 dX13_patch_39 ?_
          refine lv_iload hx hb dX13_patch_42 (lv_at hl 0 rfl) ?_
          obtain ⟨hi_6, hsp⟩ := ox_in hsp
          refine va_iald hx hb hK hP 1 0 rfl rfl (i := (a1 - 8)) hi_6 dX13_patch_44 ?_
          refine va_put (D := (dC, dI)) (ci := 13) (v := .int (f101 ((a1 - 8) : Int32).toNatClampNeg)) (ty := .int) (C := RX13) (T := TX13) (N := 155) hx hb hts uV_h9_X13 tyX13 tyX13_ok nmX13 hown hK hP hD hS 0 rfl rfl 113 (by decide) (hts (.fieldLink RX13 767 "ClassMillModel" "lookSize" "I") mw_h9_451) (fun _ h9 => h9) rfl (by decide +kernel) rfl rfl (by rw [hlen]; decide) dX13_patch_45 ?_
          clear hP hD hS
          intro H locs hP hD hS
          obtain ⟨fs_7, efs_7⟩ : ∃ zf : List Value, zf = zs.set 113 (.int (f101 ((a1 - 8) : Int32).toNatClampNeg)) := ⟨_, rfl⟩
          rw [← efs_7] at hP hD
          have hlfs_7 : fs_7.length = 155 := by rw [efs_7, List.length_set]; exact hlen
          have hfs_7_98 : fs_7[98]? = some (.int v98) := by rw [efs_7, List.getElem?_set_ne (by decide)]; exact hf98
          have hfs_7_99 : fs_7[99]? = some (.int v99) := by rw [efs_7, List.getElem?_set_ne (by decide)]; exact hf99
          have hfs_7_100 : fs_7[100]? = some (.ref qf100) := by rw [efs_7, List.getElem?_set_ne (by decide)]; exact hf100
          have hfs_7_101 : fs_7[101]? = some (.ref qf101) := by rw [efs_7, List.getElem?_set_ne (by decide)]; exact hf101
          have hfs_7_102 : fs_7[102]? = some (.ref qf102) := by rw [efs_7, List.getElem?_set_ne (by decide)]; exact hf102
          have hfs_7_103 : fs_7[103]? = some (.ref qf103) := by rw [efs_7, List.getElem?_set_ne (by decide)]; exact hf103
          have hfs_7_104 : fs_7[104]? = some (.ref qf104) := by rw [efs_7, List.getElem?_set_ne (by decide)]; exact hf104
          have hfs_7_105 : fs_7[105]? = some (.ref qf105) := by rw [efs_7, List.getElem?_set_ne (by decide)]; exact hf105
          have hfs_7_106 : fs_7[106]? = some (.ref qf106) := by rw [efs_7, List.getElem?_set_ne (by decide)]; exact hf106
          have hfs_7_107 : fs_7[107]? = some (.ref qf107) := by rw [efs_7, List.getElem?_set_ne (by decide)]; exact hf107
          have hfs_7_108 : fs_7[108]? = some (.ref qf108) := by rw [efs_7, List.getElem?_set_ne (by decide)]; exact hf108
          have hfs_7_109 : fs_7[109]? = some (.ref qf109) := by rw [efs_7, List.getElem?_set_ne (by decide)]; exact hf109
          have hfs_7_110 : fs_7[110]? = some (.ref qf110) := by rw [efs_7, List.getElem?_set_ne (by decide)]; exact hf110
          have hfs_7_111 : fs_7[111]? = some (.ref qf111) := by rw [efs_7, List.getElem?_set_ne (by decide)]; exact hf111
          have hfs_7_112 : fs_7[112]? = some (.ref qf112) := by rw [efs_7, List.getElem?_set_ne (by decide)]; exact hf112
          have hfs_7_114 : fs_7[114]? = some (.int v114) := by rw [efs_7, List.getElem?_set_ne (by decide)]; exact hf114
          have hfs_7_115 : fs_7[115]? = some (.int v115) := by rw [efs_7, List.getElem?_set_ne (by decide)]; exact hf115
          have hfs_7_116 : fs_7[116]? = some (.ref qf116) := by rw [efs_7, List.getElem?_set_ne (by decide)]; exact hf116
          have hfs_7_138 : fs_7[138]? = some (.int v138) := by rw [efs_7, List.getElem?_set_ne (by decide)]; exact hf138
          have hfs_7_113 : fs_7[113]? = some (.int (f101 ((a1 - 8) : Int32).toNatClampNeg)) := by rw [efs_7, List.getElem?_set_self (by rw [hlen]; decide)]
          replace hP : va_P (dC, dI) vwCl [(h0, .inr (13, fs_7)), (qf101, .inl (cf101, 8, .inl f101)), (qf112, .inl (cf112, 6000, .inl f112)), (qf103, .inl (cf103, 8, .inl f103)), (qf116, .inl (cf116, 309, .inl f116)), (qf104, .inl (cf104, 8, .inl f104)), (qf105, .inl (cf105, 8, .inl f105)), (qf106, .inl (cf106, 8, .inl f106)), (qf108, .inl (cf108, 8, .inl f108)), (qf107, .inl (cf107, 96, .inl f107)), (qf109, .inl (cf109, 96, .inl f109)), (qf110, .inl (cf110, 96, .inl f110)), (qf111, .inl (cf111, 96, .inl f111)), (qf102, .inl (cf102, 2048, .inl f102)), (qf100, .inl (cf100, 48000, .inl f100))] H := hP
          replace hD : va_D A [(h0, .inr (13, fs_7)), (qf101, .inl (cf101, 8, .inl f101)), (qf112, .inl (cf112, 6000, .inl f112)), (qf103, .inl (cf103, 8, .inl f103)), (qf116, .inl (cf116, 309, .inl f116)), (qf104, .inl (cf104, 8, .inl f104)), (qf105, .inl (cf105, 8, .inl f105)), (qf106, .inl (cf106, 8, .inl f106)), (qf108, .inl (cf108, 8, .inl f108)), (qf107, .inl (cf107, 96, .inl f107)), (qf109, .inl (cf109, 96, .inl f109)), (qf110, .inl (cf110, 96, .inl f110)), (qf111, .inl (cf111, 96, .inl f111)), (qf102, .inl (cf102, 2048, .inl f102)), (qf100, .inl (cf100, 48000, .inl f100))] := hD
          have hrs_8 : ∀ j : Nat, j ≠ 113 → j ≠ 114 → j ≠ 115 → j ≠ 138 → j ≠ 99 → fs_7[j]? = zs[j]? := fun j g113 g114 g115 g138 g99 => ((congrArg (fun z : List Value => z[j]?) efs_7).trans (List.getElem?_set_ne (Ne.symm g113))).trans (hrs0 j g113 g114 g115 g138 g99)
          refine lv_iconst (v := 0) hx hb dX13_patch_48 (by decide) ?_
          refine lv_istore (lv' := [(5, .int 0), (4, .int (a1 - 8)), (0, .ref h0), (1, .int a1), (2, .int a2), (3, .int a3)]) hx hb dX13_patch_49 hl (by decide) rfl (fun ls hl => ?_)
          replace hl : lv_has ls 8 [(5, .int 0), (4, .int (a1 - 8)), (0, .ref h0), (1, .int a1), (2, .int a2), (3, .int a3)] := lv_sub hl [0, 1, 2, 3, 4, 5] rfl
          replace hP := hP.sub (ws' := [(h0, .inr (13, fs_7)), (qf101, .inl (cf101, 8, .inl f101)), (qf112, .inl (cf112, 6000, .inl f112)), (qf103, .inl (cf103, 8, .inl f103)), (qf116, .inl (cf116, 309, .inl f116)), (qf104, .inl (cf104, 8, .inl f104)), (qf105, .inl (cf105, 8, .inl f105)), (qf106, .inl (cf106, 8, .inl f106)), (qf108, .inl (cf108, 8, .inl f108)), (qf107, .inl (cf107, 96, .inl f107)), (qf109, .inl (cf109, 96, .inl f109)), (qf110, .inl (cf110, 96, .inl f110)), (qf111, .inl (cf111, 96, .inl f111)), (qf102, .inl (cf102, 2048, .inl f102)), (qf100, .inl (cf100, 48000, .inl f100))]) [0, 1, 2, 3, 4, 5, 6, 7, 8, 9, 10, 11, 12, 13, 14] rfl
          replace hD := hD.sub (ws' := [(h0, .inr (13, fs_7)), (qf101, .inl (cf101, 8, .inl f101)), (qf112, .inl (cf112, 6000, .inl f112)), (qf103, .inl (cf103, 8, .inl f103)), (qf116, .inl (cf116, 309, .inl f116)), (qf104, .inl (cf104, 8, .inl f104)), (qf105, .inl (cf105, 8, .inl f105)), (qf106, .inl (cf106, 8, .inl f106)), (qf108, .inl (cf108, 8, .inl f108)), (qf107, .inl (cf107, 96, .inl f107)), (qf109, .inl (cf109, 96, .inl f109)), (qf110, .inl (cf110, 96, .inl f110)), (qf111, .inl (cf111, 96, .inl f111)), (qf102, .inl (cf102, 2048, .inl f102)), (qf100, .inl (cf100, 48000, .inl f100))]) [0, 1, 2, 3, 4, 5, 6, 7, 8, 9, 10, 11, 12, 13, 14] (by decide) rfl
          replace hK := hK.sub (tys' := [(cf101, .int), (cf112, .int), (cf103, .int), (cf116, .int), (cf104, .int), (cf105, .int), (cf106, .int), (cf108, .int), (cf107, .int), (cf109, .int), (cf110, .int), (cf111, .int), (cf102, .int), (cf100, .int)]) [0, 1, 2, 3, 4, 5, 6, 7, 8, 9, 10, 11, 12, 13] rfl
          obtain ⟨n_51, hn_51⟩ : ∃ z : Nat, z = nf := ⟨_, rfl⟩
          obtain ⟨l1_51, el1_51⟩ : ∃ z : Int32, z = a1 := ⟨_, rfl⟩
          obtain ⟨l2_51, el2_51⟩ : ∃ z : Int32, z = a2 := ⟨_, rfl⟩
          obtain ⟨l3_51, el3_51⟩ : ∃ z : Int32, z = a3 := ⟨_, rfl⟩
          obtain ⟨l4_51, el4_51⟩ : ∃ z : Int32, z = (a1 - 8) := ⟨_, rfl⟩
          obtain ⟨l5_51, el5_51⟩ : ∃ z : Int32, z = 0 := ⟨_, rfl⟩
          obtain ⟨g100_51, eg100_51⟩ : ∃ z : Nat → Int32, z = f100 := ⟨_, rfl⟩
          obtain ⟨g101_51, eg101_51⟩ : ∃ z : Nat → Int32, z = f101 := ⟨_, rfl⟩
          obtain ⟨g102_51, eg102_51⟩ : ∃ z : Nat → Int32, z = f102 := ⟨_, rfl⟩
          obtain ⟨g103_51, eg103_51⟩ : ∃ z : Nat → Int32, z = f103 := ⟨_, rfl⟩
          obtain ⟨g104_51, eg104_51⟩ : ∃ z : Nat → Int32, z = f104 := ⟨_, rfl⟩
          obtain ⟨g105_51, eg105_51⟩ : ∃ z : Nat → Int32, z = f105 := ⟨_, rfl⟩
          obtain ⟨g106_51, eg106_51⟩ : ∃ z : Nat → Int32, z = f106 := ⟨_, rfl⟩
          obtain ⟨g107_51, eg107_51⟩ : ∃ z : Nat → Int32, z = f107 := ⟨_, rfl⟩
          obtain ⟨g108_51, eg108_51⟩ : ∃ z : Nat → Int32, z = f108 := ⟨_, rfl⟩
          obtain ⟨g109_51, eg109_51⟩ : ∃ z : Nat → Int32, z = f109 := ⟨_, rfl⟩
          obtain ⟨g110_51, eg110_51⟩ : ∃ z : Nat → Int32, z = f110 := ⟨_, rfl⟩
          obtain ⟨g111_51, eg111_51⟩ : ∃ z : Nat → Int32, z = f111 := ⟨_, rfl⟩
          obtain ⟨g112_51, eg112_51⟩ : ∃ z : Nat → Int32, z = f112 := ⟨_, rfl⟩
          obtain ⟨g116_51, eg116_51⟩ : ∃ z : Nat → Int32, z = f116 := ⟨_, rfl⟩
          obtain ⟨x113_51, ex113_51⟩ : ∃ z : Int32, z = (f101 ((a1 - 8) : Int32).toNatClampNeg) := ⟨_, rfl⟩
          obtain ⟨x114_51, ex114_51⟩ : ∃ z : Int32, z = v114 := ⟨_, rfl⟩
          obtain ⟨x115_51, ex115_51⟩ : ∃ z : Int32, z = v115 := ⟨_, rfl⟩
          obtain ⟨x138_51, ex138_51⟩ : ∃ z : Int32, z = v138 := ⟨_, rfl⟩
          obtain ⟨x99_51, ex99_51⟩ : ∃ z : Int32, z = v99 := ⟨_, rfl⟩
          replace hsp : lp_vm_patch_51 nf n_51 a1 a2 a3 v98 v99 v113 v114 v115 v138 f101 f112 f103 f116 f104 f105 f106 f108 f107 f109 f110 f111 f102 f100 nS477 fS477 l1_51 l2_51 l3_51 l4_51 l5_51 g100_51 g101_51 g102_51 g103_51 g104_51 g105_51 g106_51 g107_51 g108_51 g109_51 g110_51 g111_51 g112_51 g116_51 x113_51 x114_51 x115_51 x138_51 x99_51 = some (r0, o100, o101, o102, o103, o104, o105, o106, o107, o108, o109, o110, o111, o112, o116, w113, w114, w115, w138, w99) := by rw [hn_51, el1_51, el2_51, el3_51, el4_51, el5_51, eg100_51, eg101_51, eg102_51, eg103_51, eg104_51, eg105_51, eg106_51, eg107_51, eg108_51, eg109_51, eg110_51, eg111_51, eg112_51, eg116_51, ex113_51, ex114_51, ex115_51, ex138_51, ex99_51]; exact hsp
          replace hl : lv_has ls 8 [(5, .int l5_51), (4, .int l4_51), (0, .ref h0), (1, .int l1_51), (2, .int l2_51), (3, .int l3_51)] := by rw [el1_51, el2_51, el3_51, el4_51, el5_51]; exact hl
          obtain ⟨z51, ez51⟩ : ∃ z : List Value, z = fs_7 := ⟨_, rfl⟩
          have hfh_51_98 : z51[98]? = some (.int v98) := by rw [ez51]; exact hfs_7_98
          have hfh_51_99 : z51[99]? = some (.int x99_51) := by rw [ez51, ex99_51]; exact hfs_7_99
          have hfh_51_100 : z51[100]? = some (.ref qf100) := by rw [ez51]; exact hfs_7_100
          have hfh_51_101 : z51[101]? = some (.ref qf101) := by rw [ez51]; exact hfs_7_101
          have hfh_51_102 : z51[102]? = some (.ref qf102) := by rw [ez51]; exact hfs_7_102
          have hfh_51_103 : z51[103]? = some (.ref qf103) := by rw [ez51]; exact hfs_7_103
          have hfh_51_104 : z51[104]? = some (.ref qf104) := by rw [ez51]; exact hfs_7_104
          have hfh_51_105 : z51[105]? = some (.ref qf105) := by rw [ez51]; exact hfs_7_105
          have hfh_51_106 : z51[106]? = some (.ref qf106) := by rw [ez51]; exact hfs_7_106
          have hfh_51_107 : z51[107]? = some (.ref qf107) := by rw [ez51]; exact hfs_7_107
          have hfh_51_108 : z51[108]? = some (.ref qf108) := by rw [ez51]; exact hfs_7_108
          have hfh_51_109 : z51[109]? = some (.ref qf109) := by rw [ez51]; exact hfs_7_109
          have hfh_51_110 : z51[110]? = some (.ref qf110) := by rw [ez51]; exact hfs_7_110
          have hfh_51_111 : z51[111]? = some (.ref qf111) := by rw [ez51]; exact hfs_7_111
          have hfh_51_112 : z51[112]? = some (.ref qf112) := by rw [ez51]; exact hfs_7_112
          have hfh_51_113 : z51[113]? = some (.int x113_51) := by rw [ez51, ex113_51]; exact hfs_7_113
          have hfh_51_114 : z51[114]? = some (.int x114_51) := by rw [ez51, ex114_51]; exact hfs_7_114
          have hfh_51_115 : z51[115]? = some (.int x115_51) := by rw [ez51, ex115_51]; exact hfs_7_115
          have hfh_51_116 : z51[116]? = some (.ref qf116) := by rw [ez51]; exact hfs_7_116
          have hfh_51_138 : z51[138]? = some (.int x138_51) := by rw [ez51, ex138_51]; exact hfs_7_138
          have hlh_51 : z51.length = 155 := by rw [ez51]; exact hlfs_7
          have hrh_51 : ∀ j : Nat, j ≠ 113 → j ≠ 114 → j ≠ 115 → j ≠ 138 → j ≠ 99 → z51[j]? = zs[j]? := by rw [ez51]; exact hrs_8
          replace hP : va_P (dC, dI) vwCl [(h0, .inr (13, z51)), (qf101, .inl (cf101, 8, .inl g101_51)), (qf112, .inl (cf112, 6000, .inl g112_51)), (qf103, .inl (cf103, 8, .inl g103_51)), (qf116, .inl (cf116, 309, .inl g116_51)), (qf104, .inl (cf104, 8, .inl g104_51)), (qf105, .inl (cf105, 8, .inl g105_51)), (qf106, .inl (cf106, 8, .inl g106_51)), (qf108, .inl (cf108, 8, .inl g108_51)), (qf107, .inl (cf107, 96, .inl g107_51)), (qf109, .inl (cf109, 96, .inl g109_51)), (qf110, .inl (cf110, 96, .inl g110_51)), (qf111, .inl (cf111, 96, .inl g111_51)), (qf102, .inl (cf102, 2048, .inl g102_51)), (qf100, .inl (cf100, 48000, .inl g100_51))] H := by rw [ez51, eg100_51, eg101_51, eg102_51, eg103_51, eg104_51, eg105_51, eg106_51, eg107_51, eg108_51, eg109_51, eg110_51, eg111_51, eg112_51, eg116_51]; exact hP
          replace hD : va_D A [(h0, .inr (13, z51)), (qf101, .inl (cf101, 8, .inl g101_51)), (qf112, .inl (cf112, 6000, .inl g112_51)), (qf103, .inl (cf103, 8, .inl g103_51)), (qf116, .inl (cf116, 309, .inl g116_51)), (qf104, .inl (cf104, 8, .inl g104_51)), (qf105, .inl (cf105, 8, .inl g105_51)), (qf106, .inl (cf106, 8, .inl g106_51)), (qf108, .inl (cf108, 8, .inl g108_51)), (qf107, .inl (cf107, 96, .inl g107_51)), (qf109, .inl (cf109, 96, .inl g109_51)), (qf110, .inl (cf110, 96, .inl g110_51)), (qf111, .inl (cf111, 96, .inl g111_51)), (qf102, .inl (cf102, 2048, .inl g102_51)), (qf100, .inl (cf100, 48000, .inl g100_51))] := by rw [ez51, eg100_51, eg101_51, eg102_51, eg103_51, eg104_51, eg105_51, eg106_51, eg107_51, eg108_51, eg109_51, eg110_51, eg111_51, eg112_51, eg116_51]; exact hD
          clear hn_51 ez51 el1_51 el2_51 el3_51 el4_51 el5_51 eg100_51 eg101_51 eg102_51 eg103_51 eg104_51 eg105_51 eg106_51 eg107_51 eg108_51 eg109_51 eg110_51 eg111_51 eg112_51 eg116_51 ex113_51 ex114_51 ex115_51 ex138_51 ex99_51
          try clear hlo
          try clear hH
          revert hsp
          revert hP
          revert hD
          revert hS
          revert hl
          revert hrh_51
          revert hlh_51
          revert hfh_51_138
          revert hfh_51_116
          revert hfh_51_115
          revert hfh_51_114
          revert hfh_51_113
          revert hfh_51_112
          revert hfh_51_111
          revert hfh_51_110
          revert hfh_51_109
          revert hfh_51_108
          revert hfh_51_107
          revert hfh_51_106
          revert hfh_51_105
          revert hfh_51_104
          revert hfh_51_103
          revert hfh_51_102
          revert hfh_51_101
          revert hfh_51_100
          revert hfh_51_99
          revert hfh_51_98
          revert x99_51
          revert x138_51
          revert x115_51
          revert x114_51
          revert x113_51
          revert g116_51
          revert g112_51
          revert g111_51
          revert g110_51
          revert g109_51
          revert g108_51
          revert g107_51
          revert g106_51
          revert g105_51
          revert g104_51
          revert g103_51
          revert g102_51
          revert g101_51
          revert g100_51
          revert l5_51
          revert l4_51
          revert l3_51
          revert l2_51
          revert l1_51
          revert z51
          revert ls
          revert locs
          revert H
          induction n_51 with
          | zero => intro H locs ls z51 l1_51 l2_51 l3_51 l4_51 l5_51 g100_51 g101_51 g102_51 g103_51 g104_51 g105_51 g106_51 g107_51 g108_51 g109_51 g110_51 g111_51 g112_51 g116_51 x113_51 x114_51 x115_51 x138_51 x99_51 hfh_51_98 hfh_51_99 hfh_51_100 hfh_51_101 hfh_51_102 hfh_51_103 hfh_51_104 hfh_51_105 hfh_51_106 hfh_51_107 hfh_51_108 hfh_51_109 hfh_51_110 hfh_51_111 hfh_51_112 hfh_51_113 hfh_51_114 hfh_51_115 hfh_51_116 hfh_51_138 hlh_51 hrh_51 hl hS hD hP hsp; unfold lp_vm_patch_51 at hsp; cases hsp
          | succ n_51 ih_51 =>
            intro H locs ls z51 l1_51 l2_51 l3_51 l4_51 l5_51 g100_51 g101_51 g102_51 g103_51 g104_51 g105_51 g106_51 g107_51 g108_51 g109_51 g110_51 g111_51 g112_51 g116_51 x113_51 x114_51 x115_51 x138_51 x99_51 hfh_51_98 hfh_51_99 hfh_51_100 hfh_51_101 hfh_51_102 hfh_51_103 hfh_51_104 hfh_51_105 hfh_51_106 hfh_51_107 hfh_51_108 hfh_51_109 hfh_51_110 hfh_51_111 hfh_51_112 hfh_51_113 hfh_51_114 hfh_51_115 hfh_51_116 hfh_51_138 hlh_51 hrh_51 hl hS hD hP hsp
            unfold lp_vm_patch_51 at hsp
            try dsimp only at hsp
            refine lv_iload hx hb dX13_patch_51 (lv_at hl 0 rfl) ?_
            refine lv_aload_n hx hb dX13_patch_53 rfl (lv_at hl 2 rfl) ?_
            refine va_get (D := (dC, dI)) (ci := 13) (v := .int x113_51) (C := RX13) (T := TX13) (N := 155) hx hb hts uV_h9_X13 hown hK hP 0 rfl rfl 113 (by decide) (hts (.fieldLink RX13 767 "ClassMillModel" "lookSize" "I") mw_h9_451) (fun _ h9 => h9) hfh_51_113 dX13_patch_54 ?_
            refine lv_icmp_ge (tgt := 87) hx hb dX13_patch_57 (by decide) (fun c_9 => ?_) (fun c_9 => ?_)
            · rw [if_pos c_9] at hsp
              refine lv_aload_n hx hb dX13_patch_87 rfl (lv_at hl 2 rfl) ?_
              refine va_get (D := (dC, dI)) (ci := 13) (v := .ref qf112) (C := RX13) (T := TX13) (N := 155) hx hb hts uV_h9_X13 hown hK hP 0 rfl rfl 112 (by decide) (hts (.fieldLink RX13 245 "ClassMillModel" "look" "[I") mw_h9_242) (fun _ h9 => h9) hfh_51_112 dX13_patch_88 ?_
              refine lv_iload_n hx hb dX13_patch_91 rfl (lv_at hl 4 rfl) ?_
              refine lv_iload_n hx hb dX13_patch_92 rfl (lv_at hl 5 rfl) ?_
              refine lv_sipush (v := 255) hx hb dX13_patch_93 (by decide) ?_
              refine lv_iand hx hb dX13_patch_96 ?_
              obtain ⟨hi_10, hsp⟩ := ox_in hsp
              refine va_iast hx hb hK hP hD hS 2 1 rfl rfl (i := l2_51) (x := (l3_51 &&& 255)) hi_10 dX13_patch_97 ?_
              clear hP hD hS
              intro H locs hP hD hS
              replace hP : va_P (dC, dI) vwCl [(h0, .inr (13, z51)), (qf101, .inl (cf101, 8, .inl g101_51)), (qf112, .inl (cf112, 6000, .inl (upd g112_51 (l2_51 : Int32).toNatClampNeg (l3_51 &&& 255)))), (qf103, .inl (cf103, 8, .inl g103_51)), (qf116, .inl (cf116, 309, .inl g116_51)), (qf104, .inl (cf104, 8, .inl g104_51)), (qf105, .inl (cf105, 8, .inl g105_51)), (qf106, .inl (cf106, 8, .inl g106_51)), (qf108, .inl (cf108, 8, .inl g108_51)), (qf107, .inl (cf107, 96, .inl g107_51)), (qf109, .inl (cf109, 96, .inl g109_51)), (qf110, .inl (cf110, 96, .inl g110_51)), (qf111, .inl (cf111, 96, .inl g111_51)), (qf102, .inl (cf102, 2048, .inl g102_51)), (qf100, .inl (cf100, 48000, .inl g100_51))] H := hP
              replace hD : va_D A [(h0, .inr (13, z51)), (qf101, .inl (cf101, 8, .inl g101_51)), (qf112, .inl (cf112, 6000, .inl (upd g112_51 (l2_51 : Int32).toNatClampNeg (l3_51 &&& 255)))), (qf103, .inl (cf103, 8, .inl g103_51)), (qf116, .inl (cf116, 309, .inl g116_51)), (qf104, .inl (cf104, 8, .inl g104_51)), (qf105, .inl (cf105, 8, .inl g105_51)), (qf106, .inl (cf106, 8, .inl g106_51)), (qf108, .inl (cf108, 8, .inl g108_51)), (qf107, .inl (cf107, 96, .inl g107_51)), (qf109, .inl (cf109, 96, .inl g109_51)), (qf110, .inl (cf110, 96, .inl g110_51)), (qf111, .inl (cf111, 96, .inl g111_51)), (qf102, .inl (cf102, 2048, .inl g102_51)), (qf100, .inl (cf100, 48000, .inl g100_51))] := hD
              refine lv_aload_n hx hb dX13_patch_98 rfl (lv_at hl 2 rfl) ?_
              refine lv_iload hx hb dX13_patch_99 (lv_at hl 1 rfl) ?_
              obtain ⟨g901_0, hu_1, hsp⟩ := ox_bind hsp
              try dsimp only at hsp
              have hPc := hP.sub (ws' := [(h0, .inr (13, z51)), (qf103, .inl (cf103, 8, .inl g103_51)), (qf116, .inl (cf116, 309, .inl g116_51)), (qf104, .inl (cf104, 8, .inl g104_51)), (qf105, .inl (cf105, 8, .inl g105_51)), (qf106, .inl (cf106, 8, .inl g106_51)), (qf108, .inl (cf108, 8, .inl g108_51)), (qf107, .inl (cf107, 96, .inl g107_51)), (qf109, .inl (cf109, 96, .inl g109_51)), (qf110, .inl (cf110, 96, .inl g110_51)), (qf111, .inl (cf111, 96, .inl g111_51)), (qf102, .inl (cf102, 2048, .inl g102_51))]) [0, 3, 4, 5, 6, 7, 8, 9, 10, 11, 12, 13] rfl
              have hDc := hD.sub (ws' := [(h0, .inr (13, z51)), (qf103, .inl (cf103, 8, .inl g103_51)), (qf116, .inl (cf116, 309, .inl g116_51)), (qf104, .inl (cf104, 8, .inl g104_51)), (qf105, .inl (cf105, 8, .inl g105_51)), (qf106, .inl (cf106, 8, .inl g106_51)), (qf108, .inl (cf108, 8, .inl g108_51)), (qf107, .inl (cf107, 96, .inl g107_51)), (qf109, .inl (cf109, 96, .inl g109_51)), (qf110, .inl (cf110, 96, .inl g110_51)), (qf111, .inl (cf111, 96, .inl g111_51)), (qf102, .inl (cf102, 2048, .inl g102_51))]) [0, 3, 4, 5, 6, 7, 8, 9, 10, 11, 12, 13] (by decide) rfl
              have hKc := hK.sub (tys' := [(cf103, .int), (cf116, .int), (cf104, .int), (cf105, .int), (cf106, .int), (cf108, .int), (cf107, .int), (cf109, .int), (cf110, .int), (cf111, .int), (cf102, .int)]) [2, 3, 4, 5, 6, 7, 8, 9, 10, 11, 12] rfl
              have hFc := va_free (wc := [(h0, .inr (13, z51)), (qf103, .inl (cf103, 8, .inl g103_51)), (qf116, .inl (cf116, 309, .inl g116_51)), (qf104, .inl (cf104, 8, .inl g104_51)), (qf105, .inl (cf105, 8, .inl g105_51)), (qf106, .inl (cf106, 8, .inl g106_51)), (qf108, .inl (cf108, 8, .inl g108_51)), (qf107, .inl (cf107, 96, .inl g107_51)), (qf109, .inl (cf109, 96, .inl g109_51)), (qf110, .inl (cf110, 96, .inl g110_51)), (qf111, .inl (cf111, 96, .inl g111_51)), (qf102, .inl (cf102, 2048, .inl g102_51))]) hD hS hA [0, 3, 4, 5, 6, 7, 8, 9, 10, 11, 12, 13] rfl
              refine va_callv (va_runV (As := [.int l4_51]) (rest := []) ⟨hx, hb, hml, hown, hts⟩ (vm_aside l dC dI H.size h0 z51 l4_51 qf102 qf103 qf104 qf105 qf106 qf107 qf108 qf109 qf110 qf111 qf116 cf103 g103_51 cf116 g116_51 cf104 g104_51 cf105 g105_51 cf106 g106_51 cf108 g108_51 cf107 g107_51 cf109 g109_51 cf110 g110_51 cf111 g111_51 cf102 g102_51 nf g901_0 hlh_51 hfh_51_102 hfh_51_103 hfh_51_104 hfh_51_105 hfh_51_106 hfh_51_107 hfh_51_108 hfh_51_109 hfh_51_110 hfh_51_111 hfh_51_116 hu_1) (cwV 1 hts gv_h9_54 rfl rfl rfl (by decide +kernel) ⟨Nat.le_of_ble_eq_true rfl, Nat.le_of_ble_eq_true rfl⟩) ⟨fun a U g mk q => by obtain ⟨q0, q1, qP, qK, qD⟩ := q; exact ⟨q0, q1, qP, va_K.moved (u := U) (U := U.calling g mk a) (Vm.Alike.refl U.vm) qK, qD⟩, va_recv hKc hPc (ci := 13) (q0 := 0) rfl rfl, fun U hU hW => ⟨rfl, by rw [hU], by rw [hU]; exact hPc, va_K.moved hW.alike hKc, hDc.weaken (fun _ _ _ _ => trivial)⟩⟩ rfl rfl hl.1 rfl (lv_room (Nat.le_of_ble_eq_true rfl)) dX13_patch_101 ⟨Nat.le_of_ble_eq_true rfl, Nat.le_of_ble_eq_true rfl⟩) hS (fun q _ h => hFc q h) hFc ?_
              clear hS
              intro u t H1 locs ht hvm hw hB hz1 hk1 hS
              obtain ⟨z_1, rfl⟩ : ∃ z, z = u := ⟨_, rfl⟩
              obtain ⟨hP1, hK1, hD1⟩ := hB
              rw [ht] at hP1
              have hK1 := va_K.moved hvm.symm hK1
              try dsimp only at hw
              have hPD := va_join (wr := [(qf101, .inl (cf101, 8, .inl g101_51)), (qf112, .inl (cf112, 6000, .inl (upd g112_51 (l2_51 : Int32).toNatClampNeg (l3_51 &&& 255)))), (qf100, .inl (cf100, 48000, .inl g100_51))]) (w1 := [(h0, .inr (13, z_1)), (qf103, .inl (cf103, 8, .inl g103_51)), (qf116, .inl (cf116, 309, .inl g901_0)), (qf104, .inl (cf104, 8, .inl g104_51)), (qf105, .inl (cf105, 8, .inl g105_51)), (qf106, .inl (cf106, 8, .inl g106_51)), (qf108, .inl (cf108, 8, .inl g108_51)), (qf107, .inl (cf107, 96, .inl g107_51)), (qf109, .inl (cf109, 96, .inl g109_51)), (qf110, .inl (cf110, 96, .inl g110_51)), (qf111, .inl (cf111, 96, .inl g111_51)), (qf102, .inl (cf102, 2048, .inl g102_51))]) hP hD [0, 3, 4, 5, 6, 7, 8, 9, 10, 11, 12, 13] [1, 2, 14] rfl rfl (by decide) (by decide) hk1 hFc hP1 hD1
              clear hP hD
              obtain ⟨hP, hD⟩ := hPD
              replace hK := (hK.sub (tys' := [(cf101, .int), (cf112, .int), (cf100, .int)]) [0, 1, 13] rfl).app hK1
              clear hPc hDc hKc hFc hP1 hK1 hD1 hz1 hk1 ht hvm
              generalize H1 = H at hP hS ⊢
              replace hP : va_P (dC, dI) vwCl [(qf101, .inl (cf101, 8, .inl g101_51)), (qf112, .inl (cf112, 6000, .inl (upd g112_51 (l2_51 : Int32).toNatClampNeg (l3_51 &&& 255)))), (qf100, .inl (cf100, 48000, .inl g100_51)), (h0, .inr (13, z_1)), (qf103, .inl (cf103, 8, .inl g103_51)), (qf116, .inl (cf116, 309, .inl g901_0)), (qf104, .inl (cf104, 8, .inl g104_51)), (qf105, .inl (cf105, 8, .inl g105_51)), (qf106, .inl (cf106, 8, .inl g106_51)), (qf108, .inl (cf108, 8, .inl g108_51)), (qf107, .inl (cf107, 96, .inl g107_51)), (qf109, .inl (cf109, 96, .inl g109_51)), (qf110, .inl (cf110, 96, .inl g110_51)), (qf111, .inl (cf111, 96, .inl g111_51)), (qf102, .inl (cf102, 2048, .inl g102_51))] H := hP
              replace hD : va_D A [(qf101, .inl (cf101, 8, .inl g101_51)), (qf112, .inl (cf112, 6000, .inl (upd g112_51 (l2_51 : Int32).toNatClampNeg (l3_51 &&& 255)))), (qf100, .inl (cf100, 48000, .inl g100_51)), (h0, .inr (13, z_1)), (qf103, .inl (cf103, 8, .inl g103_51)), (qf116, .inl (cf116, 309, .inl g901_0)), (qf104, .inl (cf104, 8, .inl g104_51)), (qf105, .inl (cf105, 8, .inl g105_51)), (qf106, .inl (cf106, 8, .inl g106_51)), (qf108, .inl (cf108, 8, .inl g108_51)), (qf107, .inl (cf107, 96, .inl g107_51)), (qf109, .inl (cf109, 96, .inl g109_51)), (qf110, .inl (cf110, 96, .inl g110_51)), (qf111, .inl (cf111, 96, .inl g111_51)), (qf102, .inl (cf102, 2048, .inl g102_51))] := hD
              replace hK : va_K (dC, dI) vwCl [(cf101, .int), (cf112, .int), (cf100, .int), (cf103, .int), (cf116, .int), (cf104, .int), (cf105, .int), (cf106, .int), (cf108, .int), (cf107, .int), (cf109, .int), (cf110, .int), (cf111, .int), (cf102, .int)] s := hK
              obtain ⟨hwa_1, hln_1, hre_1⟩ := hw
              have hfk_1_98 : z_1[98]? = some (.int v98) := (hre_1 98 ).trans (hfh_51_98)
              have hfk_1_99 : z_1[99]? = some (.int x99_51) := (hre_1 99 ).trans (hfh_51_99)
              have hfk_1_100 : z_1[100]? = some (.ref qf100) := (hre_1 100 ).trans (hfh_51_100)
              have hfk_1_101 : z_1[101]? = some (.ref qf101) := (hre_1 101 ).trans (hfh_51_101)
              have hfk_1_102 : z_1[102]? = some (.ref qf102) := (hre_1 102 ).trans (hfh_51_102)
              have hfk_1_103 : z_1[103]? = some (.ref qf103) := (hre_1 103 ).trans (hfh_51_103)
              have hfk_1_104 : z_1[104]? = some (.ref qf104) := (hre_1 104 ).trans (hfh_51_104)
              have hfk_1_105 : z_1[105]? = some (.ref qf105) := (hre_1 105 ).trans (hfh_51_105)
              have hfk_1_106 : z_1[106]? = some (.ref qf106) := (hre_1 106 ).trans (hfh_51_106)
              have hfk_1_107 : z_1[107]? = some (.ref qf107) := (hre_1 107 ).trans (hfh_51_107)
              have hfk_1_108 : z_1[108]? = some (.ref qf108) := (hre_1 108 ).trans (hfh_51_108)
              have hfk_1_109 : z_1[109]? = some (.ref qf109) := (hre_1 109 ).trans (hfh_51_109)
              have hfk_1_110 : z_1[110]? = some (.ref qf110) := (hre_1 110 ).trans (hfh_51_110)
              have hfk_1_111 : z_1[111]? = some (.ref qf111) := (hre_1 111 ).trans (hfh_51_111)
              have hfk_1_112 : z_1[112]? = some (.ref qf112) := (hre_1 112 ).trans (hfh_51_112)
              have hfk_1_113 : z_1[113]? = some (.int x113_51) := (hre_1 113 ).trans (hfh_51_113)
              have hfk_1_114 : z_1[114]? = some (.int x114_51) := (hre_1 114 ).trans (hfh_51_114)
              have hfk_1_115 : z_1[115]? = some (.int x115_51) := (hre_1 115 ).trans (hfh_51_115)
              have hfk_1_116 : z_1[116]? = some (.ref qf116) := (hre_1 116 ).trans (hfh_51_116)
              have hfk_1_138 : z_1[138]? = some (.int x138_51) := (hre_1 138 ).trans (hfh_51_138)
              have hrq_1 : ∀ j : Nat, j ≠ 113 → j ≠ 114 → j ≠ 115 → j ≠ 138 → j ≠ 99 → z_1[j]? = zs[j]? := fun j g113 g114 g115 g138 g99 => (hre_1 j ).trans (hrh_51 j g113 g114 g115 g138 g99)
              refine lv_aload_n hx hb dX13_patch_104 rfl (lv_at hl 2 rfl) ?_
              refine lv_iload hx hb dX13_patch_105 (lv_at hl 1 rfl) ?_
              obtain ⟨⟨g902_0, g902_1, g902_2, g902_3, g902_4, g902_5, g902_6, g902_7, g902_8, g902_9, u2_10, u2_11⟩, hu_2, hsp⟩ := ox_bind hsp
              try dsimp only at hsp
              have hPc := hP.sub (ws' := [(h0, .inr (13, z_1)), (qf103, .inl (cf103, 8, .inl g103_51)), (qf112, .inl (cf112, 6000, .inl (upd g112_51 (l2_51 : Int32).toNatClampNeg (l3_51 &&& 255)))), (qf102, .inl (cf102, 2048, .inl g102_51)), (qf104, .inl (cf104, 8, .inl g104_51)), (qf105, .inl (cf105, 8, .inl g105_51)), (qf106, .inl (cf106, 8, .inl g106_51)), (qf107, .inl (cf107, 96, .inl g107_51)), (qf108, .inl (cf108, 8, .inl g108_51)), (qf109, .inl (cf109, 96, .inl g109_51)), (qf110, .inl (cf110, 96, .inl g110_51)), (qf111, .inl (cf111, 96, .inl g111_51))]) [3, 4, 1, 14, 6, 7, 8, 10, 9, 11, 12, 13] rfl
              have hDc := hD.sub (ws' := [(h0, .inr (13, z_1)), (qf103, .inl (cf103, 8, .inl g103_51)), (qf112, .inl (cf112, 6000, .inl (upd g112_51 (l2_51 : Int32).toNatClampNeg (l3_51 &&& 255)))), (qf102, .inl (cf102, 2048, .inl g102_51)), (qf104, .inl (cf104, 8, .inl g104_51)), (qf105, .inl (cf105, 8, .inl g105_51)), (qf106, .inl (cf106, 8, .inl g106_51)), (qf107, .inl (cf107, 96, .inl g107_51)), (qf108, .inl (cf108, 8, .inl g108_51)), (qf109, .inl (cf109, 96, .inl g109_51)), (qf110, .inl (cf110, 96, .inl g110_51)), (qf111, .inl (cf111, 96, .inl g111_51))]) [3, 4, 1, 14, 6, 7, 8, 10, 9, 11, 12, 13] (by decide) rfl
              have hKc := hK.sub (tys' := [(cf103, .int), (cf112, .int), (cf102, .int), (cf104, .int), (cf105, .int), (cf106, .int), (cf107, .int), (cf108, .int), (cf109, .int), (cf110, .int), (cf111, .int)]) [3, 1, 13, 5, 6, 7, 9, 8, 10, 11, 12] rfl
              have hFc := va_free (wc := [(h0, .inr (13, z_1)), (qf103, .inl (cf103, 8, .inl g103_51)), (qf112, .inl (cf112, 6000, .inl (upd g112_51 (l2_51 : Int32).toNatClampNeg (l3_51 &&& 255)))), (qf102, .inl (cf102, 2048, .inl g102_51)), (qf104, .inl (cf104, 8, .inl g104_51)), (qf105, .inl (cf105, 8, .inl g105_51)), (qf106, .inl (cf106, 8, .inl g106_51)), (qf107, .inl (cf107, 96, .inl g107_51)), (qf108, .inl (cf108, 8, .inl g108_51)), (qf109, .inl (cf109, 96, .inl g109_51)), (qf110, .inl (cf110, 96, .inl g110_51)), (qf111, .inl (cf111, 96, .inl g111_51))]) hD hS hA [3, 4, 1, 14, 6, 7, 8, 10, 9, 11, 12, 13] rfl
              refine va_callv (va_runV (As := [.int l4_51]) (rest := []) ⟨hx, hb, hml, hown, hts⟩ (vm_scan l dC dI H.size h0 z_1 l4_51 qf102 qf103 qf104 qf105 qf106 qf107 qf108 qf109 qf110 qf111 qf112 x113_51 x114_51 x115_51 cf103 g103_51 cf112 ((upd g112_51 (l2_51 : Int32).toNatClampNeg (l3_51 &&& 255))) cf102 g102_51 cf104 g104_51 cf105 g105_51 cf106 g106_51 cf107 g107_51 cf108 g108_51 cf109 g109_51 cf110 g110_51 cf111 g111_51 nf g902_0 g902_1 g902_2 g902_3 g902_4 g902_5 g902_6 g902_7 g902_8 g902_9 u2_10 u2_11 hln_1 hfk_1_102 hfk_1_103 hfk_1_104 hfk_1_105 hfk_1_106 hfk_1_107 hfk_1_108 hfk_1_109 hfk_1_110 hfk_1_111 hfk_1_112 hfk_1_113 hfk_1_114 hfk_1_115 hu_2) (cwV 1 hts gv_h9_90 rfl rfl rfl (by decide +kernel) ⟨Nat.le_of_ble_eq_true rfl, Nat.le_of_ble_eq_true rfl⟩) ⟨fun a U g mk q => by obtain ⟨q0, q1, qP, qK, qD⟩ := q; exact ⟨q0, q1, qP, va_K.moved (u := U) (U := U.calling g mk a) (Vm.Alike.refl U.vm) qK, qD⟩, va_recv hKc hPc (ci := 13) (q0 := 0) rfl rfl, fun U hU hW => ⟨rfl, by rw [hU], by rw [hU]; exact hPc, va_K.moved hW.alike hKc, hDc.weaken (fun _ _ _ _ => trivial)⟩⟩ rfl rfl hl.1 rfl (lv_room (Nat.le_of_ble_eq_true rfl)) dX13_patch_107 ⟨Nat.le_of_ble_eq_true rfl, Nat.le_of_ble_eq_true rfl⟩) hS (fun q _ h => hFc q h) hFc ?_
              clear hS
              intro u t H1 locs ht hvm hw hB hz1 hk1 hS
              obtain ⟨z_2, rfl⟩ : ∃ z, z = u := ⟨_, rfl⟩
              obtain ⟨hP1, hK1, hD1⟩ := hB
              rw [ht] at hP1
              have hK1 := va_K.moved hvm.symm hK1
              try dsimp only at hw
              have hPD := va_join (wr := [(qf101, .inl (cf101, 8, .inl g101_51)), (qf100, .inl (cf100, 48000, .inl g100_51)), (qf116, .inl (cf116, 309, .inl g901_0))]) (w1 := [(h0, .inr (13, z_2)), (qf103, .inl (cf103, 8, .inl g902_1)), (qf112, .inl (cf112, 6000, .inl (upd g112_51 (l2_51 : Int32).toNatClampNeg (l3_51 &&& 255)))), (qf102, .inl (cf102, 2048, .inl g902_0)), (qf104, .inl (cf104, 8, .inl g902_2)), (qf105, .inl (cf105, 8, .inl g902_3)), (qf106, .inl (cf106, 8, .inl g902_4)), (qf107, .inl (cf107, 96, .inl g902_5)), (qf108, .inl (cf108, 8, .inl g902_6)), (qf109, .inl (cf109, 96, .inl g902_7)), (qf110, .inl (cf110, 96, .inl g902_8)), (qf111, .inl (cf111, 96, .inl g902_9))]) hP hD [3, 4, 1, 14, 6, 7, 8, 10, 9, 11, 12, 13] [0, 2, 5] rfl rfl (by decide) (by decide) hk1 hFc hP1 hD1
              clear hP hD
              obtain ⟨hP, hD⟩ := hPD
              replace hK := (hK.sub (tys' := [(cf101, .int), (cf100, .int), (cf116, .int)]) [0, 2, 4] rfl).app hK1
              clear hPc hDc hKc hFc hP1 hK1 hD1 hz1 hk1 ht hvm
              generalize H1 = H at hP hS ⊢
              replace hP : va_P (dC, dI) vwCl [(qf101, .inl (cf101, 8, .inl g101_51)), (qf100, .inl (cf100, 48000, .inl g100_51)), (qf116, .inl (cf116, 309, .inl g901_0)), (h0, .inr (13, z_2)), (qf103, .inl (cf103, 8, .inl g902_1)), (qf112, .inl (cf112, 6000, .inl (upd g112_51 (l2_51 : Int32).toNatClampNeg (l3_51 &&& 255)))), (qf102, .inl (cf102, 2048, .inl g902_0)), (qf104, .inl (cf104, 8, .inl g902_2)), (qf105, .inl (cf105, 8, .inl g902_3)), (qf106, .inl (cf106, 8, .inl g902_4)), (qf107, .inl (cf107, 96, .inl g902_5)), (qf108, .inl (cf108, 8, .inl g902_6)), (qf109, .inl (cf109, 96, .inl g902_7)), (qf110, .inl (cf110, 96, .inl g902_8)), (qf111, .inl (cf111, 96, .inl g902_9))] H := hP
              replace hD : va_D A [(qf101, .inl (cf101, 8, .inl g101_51)), (qf100, .inl (cf100, 48000, .inl g100_51)), (qf116, .inl (cf116, 309, .inl g901_0)), (h0, .inr (13, z_2)), (qf103, .inl (cf103, 8, .inl g902_1)), (qf112, .inl (cf112, 6000, .inl (upd g112_51 (l2_51 : Int32).toNatClampNeg (l3_51 &&& 255)))), (qf102, .inl (cf102, 2048, .inl g902_0)), (qf104, .inl (cf104, 8, .inl g902_2)), (qf105, .inl (cf105, 8, .inl g902_3)), (qf106, .inl (cf106, 8, .inl g902_4)), (qf107, .inl (cf107, 96, .inl g902_5)), (qf108, .inl (cf108, 8, .inl g902_6)), (qf109, .inl (cf109, 96, .inl g902_7)), (qf110, .inl (cf110, 96, .inl g902_8)), (qf111, .inl (cf111, 96, .inl g902_9))] := hD
              replace hK : va_K (dC, dI) vwCl [(cf101, .int), (cf100, .int), (cf116, .int), (cf103, .int), (cf112, .int), (cf102, .int), (cf104, .int), (cf105, .int), (cf106, .int), (cf107, .int), (cf108, .int), (cf109, .int), (cf110, .int), (cf111, .int)] s := hK
              obtain ⟨hwa_2, hln_2, hre_2, hch_2_114, hch_2_115⟩ := hw
              have hfk_2_98 : z_2[98]? = some (.int v98) := (hre_2 98 (by decide) (by decide)).trans (hfk_1_98)
              have hfk_2_99 : z_2[99]? = some (.int x99_51) := (hre_2 99 (by decide) (by decide)).trans (hfk_1_99)
              have hfk_2_100 : z_2[100]? = some (.ref qf100) := (hre_2 100 (by decide) (by decide)).trans (hfk_1_100)
              have hfk_2_101 : z_2[101]? = some (.ref qf101) := (hre_2 101 (by decide) (by decide)).trans (hfk_1_101)
              have hfk_2_102 : z_2[102]? = some (.ref qf102) := (hre_2 102 (by decide) (by decide)).trans (hfk_1_102)
              have hfk_2_103 : z_2[103]? = some (.ref qf103) := (hre_2 103 (by decide) (by decide)).trans (hfk_1_103)
              have hfk_2_104 : z_2[104]? = some (.ref qf104) := (hre_2 104 (by decide) (by decide)).trans (hfk_1_104)
              have hfk_2_105 : z_2[105]? = some (.ref qf105) := (hre_2 105 (by decide) (by decide)).trans (hfk_1_105)
              have hfk_2_106 : z_2[106]? = some (.ref qf106) := (hre_2 106 (by decide) (by decide)).trans (hfk_1_106)
              have hfk_2_107 : z_2[107]? = some (.ref qf107) := (hre_2 107 (by decide) (by decide)).trans (hfk_1_107)
              have hfk_2_108 : z_2[108]? = some (.ref qf108) := (hre_2 108 (by decide) (by decide)).trans (hfk_1_108)
              have hfk_2_109 : z_2[109]? = some (.ref qf109) := (hre_2 109 (by decide) (by decide)).trans (hfk_1_109)
              have hfk_2_110 : z_2[110]? = some (.ref qf110) := (hre_2 110 (by decide) (by decide)).trans (hfk_1_110)
              have hfk_2_111 : z_2[111]? = some (.ref qf111) := (hre_2 111 (by decide) (by decide)).trans (hfk_1_111)
              have hfk_2_112 : z_2[112]? = some (.ref qf112) := (hre_2 112 (by decide) (by decide)).trans (hfk_1_112)
              have hfk_2_113 : z_2[113]? = some (.int x113_51) := (hre_2 113 (by decide) (by decide)).trans (hfk_1_113)
              have hfk_2_116 : z_2[116]? = some (.ref qf116) := (hre_2 116 (by decide) (by decide)).trans (hfk_1_116)
              have hfk_2_138 : z_2[138]? = some (.int x138_51) := (hre_2 138 (by decide) (by decide)).trans (hfk_1_138)
              have hrq_2 : ∀ j : Nat, j ≠ 113 → j ≠ 114 → j ≠ 115 → j ≠ 138 → j ≠ 99 → z_2[j]? = zs[j]? := fun j g113 g114 g115 g138 g99 => (hre_2 j g114 g115).trans (hrq_1 j g113 g114 g115 g138 g99)
              refine lv_aload_n hx hb dX13_patch_110 rfl (lv_at hl 2 rfl) ?_
              refine va_get (D := (dC, dI)) (ci := 13) (v := .int u2_10) (C := RX13) (T := TX13) (N := 155) hx hb hts uV_h9_X13 hown hK hP 3 rfl rfl 114 (by decide) (hts (.fieldLink RX13 764 "ClassMillModel" "form" "I") mw_h9_251) (fun _ h9 => h9) hch_2_114 dX13_patch_111 ?_
              refine lv_iconst (v := (-1)) hx hb dX13_patch_114 (by decide) ?_
              refine lv_icmp_ne (tgt := 122) hx hb dX13_patch_115 (by decide) (fun c_11 => ?_) (fun c_11 => ?_)
              · rw [if_neg c_11] at hsp
                refine lv_iconst (v := 0) hx hb dX13_patch_122 (by decide) ?_
                exact hj_123 (H, locs, ls, z_2, l1_51, l4_51, 0, g100_51, g101_51, g902_0, g902_1, g902_2, g902_3, g902_4, g902_5, g902_6, g902_7, g902_8, g902_9, (upd g112_51 (l2_51 : Int32).toNatClampNeg (l3_51 &&& 255)), g901_0, x113_51, u2_10, u2_11, x138_51, x99_51) ⟨lv_sub hl [2, 3, 1] rfl, hS, hD.sub (ws' := [(h0, .inr (13, z_2)), (qf101, .inl (cf101, 8, .inl g101_51)), (qf112, .inl (cf112, 6000, .inl (upd g112_51 (l2_51 : Int32).toNatClampNeg (l3_51 &&& 255)))), (qf103, .inl (cf103, 8, .inl g902_1)), (qf116, .inl (cf116, 309, .inl g901_0)), (qf104, .inl (cf104, 8, .inl g902_2)), (qf105, .inl (cf105, 8, .inl g902_3)), (qf106, .inl (cf106, 8, .inl g902_4)), (qf108, .inl (cf108, 8, .inl g902_6)), (qf107, .inl (cf107, 96, .inl g902_5)), (qf109, .inl (cf109, 96, .inl g902_7)), (qf110, .inl (cf110, 96, .inl g902_8)), (qf111, .inl (cf111, 96, .inl g902_9)), (qf102, .inl (cf102, 2048, .inl g902_0)), (qf100, .inl (cf100, 48000, .inl g100_51))]) [3, 0, 5, 4, 2, 7, 8, 9, 11, 10, 12, 13, 14, 6, 1] (by decide) rfl, hP.sub (ws' := [(h0, .inr (13, z_2)), (qf101, .inl (cf101, 8, .inl g101_51)), (qf112, .inl (cf112, 6000, .inl (upd g112_51 (l2_51 : Int32).toNatClampNeg (l3_51 &&& 255)))), (qf103, .inl (cf103, 8, .inl g902_1)), (qf116, .inl (cf116, 309, .inl g901_0)), (qf104, .inl (cf104, 8, .inl g902_2)), (qf105, .inl (cf105, 8, .inl g902_3)), (qf106, .inl (cf106, 8, .inl g902_4)), (qf108, .inl (cf108, 8, .inl g902_6)), (qf107, .inl (cf107, 96, .inl g902_5)), (qf109, .inl (cf109, 96, .inl g902_7)), (qf110, .inl (cf110, 96, .inl g902_8)), (qf111, .inl (cf111, 96, .inl g902_9)), (qf102, .inl (cf102, 2048, .inl g902_0)), (qf100, .inl (cf100, 48000, .inl g100_51))]) [3, 0, 5, 4, 2, 7, 8, 9, 11, 10, 12, 13, 14, 6, 1] rfl, hfk_2_98, hfk_2_99, hfk_2_100, hfk_2_101, hfk_2_102, hfk_2_103, hfk_2_104, hfk_2_105, hfk_2_106, hfk_2_107, hfk_2_108, hfk_2_109, hfk_2_110, hfk_2_111, hfk_2_112, hfk_2_113, hch_2_114, hch_2_115, hfk_2_116, hfk_2_138, hln_2, hrq_2, hsp⟩
              · rw [if_pos c_11] at hsp
                refine lv_iconst (v := 1) hx hb dX13_patch_118 (by decide) ?_
                refine lv_goto (tgt := 123) hx hb dX13_patch_119 (by decide) ?_
                exact hj_123 (H, locs, ls, z_2, l1_51, l4_51, 1, g100_51, g101_51, g902_0, g902_1, g902_2, g902_3, g902_4, g902_5, g902_6, g902_7, g902_8, g902_9, (upd g112_51 (l2_51 : Int32).toNatClampNeg (l3_51 &&& 255)), g901_0, x113_51, u2_10, u2_11, x138_51, x99_51) ⟨lv_sub hl [2, 3, 1] rfl, hS, hD.sub (ws' := [(h0, .inr (13, z_2)), (qf101, .inl (cf101, 8, .inl g101_51)), (qf112, .inl (cf112, 6000, .inl (upd g112_51 (l2_51 : Int32).toNatClampNeg (l3_51 &&& 255)))), (qf103, .inl (cf103, 8, .inl g902_1)), (qf116, .inl (cf116, 309, .inl g901_0)), (qf104, .inl (cf104, 8, .inl g902_2)), (qf105, .inl (cf105, 8, .inl g902_3)), (qf106, .inl (cf106, 8, .inl g902_4)), (qf108, .inl (cf108, 8, .inl g902_6)), (qf107, .inl (cf107, 96, .inl g902_5)), (qf109, .inl (cf109, 96, .inl g902_7)), (qf110, .inl (cf110, 96, .inl g902_8)), (qf111, .inl (cf111, 96, .inl g902_9)), (qf102, .inl (cf102, 2048, .inl g902_0)), (qf100, .inl (cf100, 48000, .inl g100_51))]) [3, 0, 5, 4, 2, 7, 8, 9, 11, 10, 12, 13, 14, 6, 1] (by decide) rfl, hP.sub (ws' := [(h0, .inr (13, z_2)), (qf101, .inl (cf101, 8, .inl g101_51)), (qf112, .inl (cf112, 6000, .inl (upd g112_51 (l2_51 : Int32).toNatClampNeg (l3_51 &&& 255)))), (qf103, .inl (cf103, 8, .inl g902_1)), (qf116, .inl (cf116, 309, .inl g901_0)), (qf104, .inl (cf104, 8, .inl g902_2)), (qf105, .inl (cf105, 8, .inl g902_3)), (qf106, .inl (cf106, 8, .inl g902_4)), (qf108, .inl (cf108, 8, .inl g902_6)), (qf107, .inl (cf107, 96, .inl g902_5)), (qf109, .inl (cf109, 96, .inl g902_7)), (qf110, .inl (cf110, 96, .inl g902_8)), (qf111, .inl (cf111, 96, .inl g902_9)), (qf102, .inl (cf102, 2048, .inl g902_0)), (qf100, .inl (cf100, 48000, .inl g100_51))]) [3, 0, 5, 4, 2, 7, 8, 9, 11, 10, 12, 13, 14, 6, 1] rfl, hfk_2_98, hfk_2_99, hfk_2_100, hfk_2_101, hfk_2_102, hfk_2_103, hfk_2_104, hfk_2_105, hfk_2_106, hfk_2_107, hfk_2_108, hfk_2_109, hfk_2_110, hfk_2_111, hfk_2_112, hfk_2_113, hch_2_114, hch_2_115, hfk_2_116, hfk_2_138, hln_2, hrq_2, hsp⟩
            · rw [if_neg c_9] at hsp
              refine lv_aload_n hx hb dX13_patch_60 rfl (lv_at hl 2 rfl) ?_
              refine va_get (D := (dC, dI)) (ci := 13) (v := .ref qf112) (C := RX13) (T := TX13) (N := 155) hx hb hts uV_h9_X13 hown hK hP 0 rfl rfl 112 (by decide) (hts (.fieldLink RX13 245 "ClassMillModel" "look" "[I") mw_h9_242) (fun _ h9 => h9) hfh_51_112 dX13_patch_61 ?_
              refine lv_iload hx hb dX13_patch_64 (lv_at hl 0 rfl) ?_
              refine lv_aload_n hx hb dX13_patch_66 rfl (lv_at hl 2 rfl) ?_
              refine va_get (D := (dC, dI)) (ci := 13) (v := .ref qf100) (C := RX13) (T := TX13) (N := 155) hx hb hts uV_h9_X13 hown hK hP 0 rfl rfl 100 (by decide) (hts (.fieldLink RX13 209 "ClassMillModel" "bytes" "[I") mw_h9_266) (fun _ h9 => h9) hfh_51_100 dX13_patch_67 ?_
              refine lv_sipush (v := 6000) hx hb dX13_patch_70 (by decide) ?_
              refine lv_iload hx hb dX13_patch_73 (lv_at hl 1 rfl) ?_
              refine lv_imul hx hb dX13_patch_75 ?_
              refine lv_iload hx hb dX13_patch_76 (lv_at hl 0 rfl) ?_
              refine lv_iadd hx hb dX13_patch_78 ?_
              obtain ⟨hi_12, hsp⟩ := ox_in hsp
              refine va_iald hx hb hK hP 14 13 rfl rfl (i := ((6000 * l4_51) + l5_51)) hi_12 dX13_patch_79 ?_
              obtain ⟨hi_13, hsp⟩ := ox_in hsp
              refine va_iast hx hb hK hP hD hS 2 1 rfl rfl (i := l5_51) (x := (g100_51 (((6000 * l4_51) + l5_51) : Int32).toNatClampNeg)) hi_13 dX13_patch_80 ?_
              clear hP hD hS
              intro H locs hP hD hS
              replace hP : va_P (dC, dI) vwCl [(h0, .inr (13, z51)), (qf101, .inl (cf101, 8, .inl g101_51)), (qf112, .inl (cf112, 6000, .inl (upd g112_51 (l5_51 : Int32).toNatClampNeg (g100_51 (((6000 * l4_51) + l5_51) : Int32).toNatClampNeg)))), (qf103, .inl (cf103, 8, .inl g103_51)), (qf116, .inl (cf116, 309, .inl g116_51)), (qf104, .inl (cf104, 8, .inl g104_51)), (qf105, .inl (cf105, 8, .inl g105_51)), (qf106, .inl (cf106, 8, .inl g106_51)), (qf108, .inl (cf108, 8, .inl g108_51)), (qf107, .inl (cf107, 96, .inl g107_51)), (qf109, .inl (cf109, 96, .inl g109_51)), (qf110, .inl (cf110, 96, .inl g110_51)), (qf111, .inl (cf111, 96, .inl g111_51)), (qf102, .inl (cf102, 2048, .inl g102_51)), (qf100, .inl (cf100, 48000, .inl g100_51))] H := hP
              replace hD : va_D A [(h0, .inr (13, z51)), (qf101, .inl (cf101, 8, .inl g101_51)), (qf112, .inl (cf112, 6000, .inl (upd g112_51 (l5_51 : Int32).toNatClampNeg (g100_51 (((6000 * l4_51) + l5_51) : Int32).toNatClampNeg)))), (qf103, .inl (cf103, 8, .inl g103_51)), (qf116, .inl (cf116, 309, .inl g116_51)), (qf104, .inl (cf104, 8, .inl g104_51)), (qf105, .inl (cf105, 8, .inl g105_51)), (qf106, .inl (cf106, 8, .inl g106_51)), (qf108, .inl (cf108, 8, .inl g108_51)), (qf107, .inl (cf107, 96, .inl g107_51)), (qf109, .inl (cf109, 96, .inl g109_51)), (qf110, .inl (cf110, 96, .inl g110_51)), (qf111, .inl (cf111, 96, .inl g111_51)), (qf102, .inl (cf102, 2048, .inl g102_51)), (qf100, .inl (cf100, 48000, .inl g100_51))] := hD
              refine lv_iinc (v := (l5_51 + 1)) (lv' := [(5, .int (l5_51 + 1)), (4, .int l4_51), (0, .ref h0), (1, .int l1_51), (2, .int l2_51), (3, .int l3_51)]) hx hb dX13_patch_81 hl (k := 0) rfl rfl (by decide) rfl (fun ls hl => ?_)
              refine lv_goto (tgt := 51) hx hb dX13_patch_84 (by decide) ?_
              exact ih_51 H locs ls z51 l1_51 l2_51 l3_51 l4_51 (l5_51 + 1) g100_51 g101_51 g102_51 g103_51 g104_51 g105_51 g106_51 g107_51 g108_51 g109_51 g110_51 g111_51 (upd g112_51 (l5_51 : Int32).toNatClampNeg (g100_51 (((6000 * l4_51) + l5_51) : Int32).toNatClampNeg)) g116_51 x113_51 x114_51 x115_51 x138_51 x99_51 (hfh_51_98) (hfh_51_99) (hfh_51_100) (hfh_51_101) (hfh_51_102) (hfh_51_103) (hfh_51_104) (hfh_51_105) (hfh_51_106) (hfh_51_107) (hfh_51_108) (hfh_51_109) (hfh_51_110) (hfh_51_111) (hfh_51_112) (hfh_51_113) (hfh_51_114) (hfh_51_115) (hfh_51_116) (hfh_51_138) hlh_51 hrh_51 (lv_sub hl [0, 1, 2, 3, 4, 5] rfl) hS (hD.sub (ws' := [(h0, .inr (13, z51)), (qf101, .inl (cf101, 8, .inl g101_51)), (qf112, .inl (cf112, 6000, .inl (upd g112_51 (l5_51 : Int32).toNatClampNeg (g100_51 (((6000 * l4_51) + l5_51) : Int32).toNatClampNeg)))), (qf103, .inl (cf103, 8, .inl g103_51)), (qf116, .inl (cf116, 309, .inl g116_51)), (qf104, .inl (cf104, 8, .inl g104_51)), (qf105, .inl (cf105, 8, .inl g105_51)), (qf106, .inl (cf106, 8, .inl g106_51)), (qf108, .inl (cf108, 8, .inl g108_51)), (qf107, .inl (cf107, 96, .inl g107_51)), (qf109, .inl (cf109, 96, .inl g109_51)), (qf110, .inl (cf110, 96, .inl g110_51)), (qf111, .inl (cf111, 96, .inl g111_51)), (qf102, .inl (cf102, 2048, .inl g102_51)), (qf100, .inl (cf100, 48000, .inl g100_51))]) [0, 1, 2, 3, 4, 5, 6, 7, 8, 9, 10, 11, 12, 13, 14] (by decide) rfl) (hP.sub (ws' := [(h0, .inr (13, z51)), (qf101, .inl (cf101, 8, .inl g101_51)), (qf112, .inl (cf112, 6000, .inl (upd g112_51 (l5_51 : Int32).toNatClampNeg (g100_51 (((6000 * l4_51) + l5_51) : Int32).toNatClampNeg)))), (qf103, .inl (cf103, 8, .inl g103_51)), (qf116, .inl (cf116, 309, .inl g116_51)), (qf104, .inl (cf104, 8, .inl g104_51)), (qf105, .inl (cf105, 8, .inl g105_51)), (qf106, .inl (cf106, 8, .inl g106_51)), (qf108, .inl (cf108, 8, .inl g108_51)), (qf107, .inl (cf107, 96, .inl g107_51)), (qf109, .inl (cf109, 96, .inl g109_51)), (qf110, .inl (cf110, 96, .inl g110_51)), (qf111, .inl (cf111, 96, .inl g111_51)), (qf102, .inl (cf102, 2048, .inl g102_51)), (qf100, .inl (cf100, 48000, .inl g100_51))]) [0, 1, 2, 3, 4, 5, 6, 7, 8, 9, 10, 11, 12, 13, 14] rfl) hsp
        · rw [if_neg c_5] at hsp
          refine lv_iconst (v := 0) hx hb dX13_patch_35 (by decide) ?_
          have hr0 := Option.some.inj hsp
          clear hsp
          obtain ⟨hq0, hr1⟩ := Prod.mk.inj hr0
          clear hr0
          obtain ⟨hq1, hr2⟩ := Prod.mk.inj hr1
          clear hr1
          obtain ⟨hq2, hr3⟩ := Prod.mk.inj hr2
          clear hr2
          obtain ⟨hq3, hr4⟩ := Prod.mk.inj hr3
          clear hr3
          obtain ⟨hq4, hr5⟩ := Prod.mk.inj hr4
          clear hr4
          obtain ⟨hq5, hr6⟩ := Prod.mk.inj hr5
          clear hr5
          obtain ⟨hq6, hr7⟩ := Prod.mk.inj hr6
          clear hr6
          obtain ⟨hq7, hr8⟩ := Prod.mk.inj hr7
          clear hr7
          obtain ⟨hq8, hr9⟩ := Prod.mk.inj hr8
          clear hr8
          obtain ⟨hq9, hr10⟩ := Prod.mk.inj hr9
          clear hr9
          obtain ⟨hq10, hr11⟩ := Prod.mk.inj hr10
          clear hr10
          obtain ⟨hq11, hr12⟩ := Prod.mk.inj hr11
          clear hr11
          obtain ⟨hq12, hr13⟩ := Prod.mk.inj hr12
          clear hr12
          obtain ⟨hq13, hr14⟩ := Prod.mk.inj hr13
          clear hr13
          obtain ⟨hq14, hr15⟩ := Prod.mk.inj hr14
          clear hr14
          obtain ⟨hq15, hr16⟩ := Prod.mk.inj hr15
          clear hr15
          obtain ⟨hq16, hr17⟩ := Prod.mk.inj hr16
          clear hr16
          obtain ⟨hq17, hr18⟩ := Prod.mk.inj hr17
          clear hr17
          obtain ⟨hq18, hr19⟩ := Prod.mk.inj hr18
          clear hr18
          subst hq0
          subst hq1
          subst hq2
          subst hq3
          subst hq4
          subst hq5
          subst hq6
          subst hq7
          subst hq8
          subst hq9
          subst hq10
          subst hq11
          subst hq12
          subst hq13
          subst hq14
          subst hq15
          subst hq16
          subst hq17
          subst hq18
          subst hr19
          have hP9 := hP.sub (ws' := [(h0, .inr (13, zs)), (qf101, .inl (cf101, 8, .inl f101)), (qf112, .inl (cf112, 6000, .inl f112)), (qf103, .inl (cf103, 8, .inl f103)), (qf116, .inl (cf116, 309, .inl f116)), (qf104, .inl (cf104, 8, .inl f104)), (qf105, .inl (cf105, 8, .inl f105)), (qf106, .inl (cf106, 8, .inl f106)), (qf108, .inl (cf108, 8, .inl f108)), (qf107, .inl (cf107, 96, .inl f107)), (qf109, .inl (cf109, 96, .inl f109)), (qf110, .inl (cf110, 96, .inl f110)), (qf111, .inl (cf111, 96, .inl f111)), (qf102, .inl (cf102, 2048, .inl f102)), (qf100, .inl (cf100, 48000, .inl f100))]) [0, 1, 2, 3, 4, 5, 6, 7, 8, 9, 10, 11, 12, 13, 14] rfl
          have hD9 := hD.sub (ws' := [(h0, .inr (13, zs)), (qf101, .inl (cf101, 8, .inl f101)), (qf112, .inl (cf112, 6000, .inl f112)), (qf103, .inl (cf103, 8, .inl f103)), (qf116, .inl (cf116, 309, .inl f116)), (qf104, .inl (cf104, 8, .inl f104)), (qf105, .inl (cf105, 8, .inl f105)), (qf106, .inl (cf106, 8, .inl f106)), (qf108, .inl (cf108, 8, .inl f108)), (qf107, .inl (cf107, 96, .inl f107)), (qf109, .inl (cf109, 96, .inl f109)), (qf110, .inl (cf110, 96, .inl f110)), (qf111, .inl (cf111, 96, .inl f111)), (qf102, .inl (cf102, 2048, .inl f102)), (qf100, .inl (cf100, 48000, .inl f100))]) [0, 1, 2, 3, 4, 5, 6, 7, 8, 9, 10, 11, 12, 13, 14] (by decide) rfl
          have hK9 := hK.sub (tys' := [(cf101, .int), (cf112, .int), (cf103, .int), (cf116, .int), (cf104, .int), (cf105, .int), (cf106, .int), (cf108, .int), (cf107, .int), (cf109, .int), (cf110, .int), (cf111, .int), (cf102, .int), (cf100, .int)]) [0, 1, 2, 3, 4, 5, 6, 7, 8, 9, 10, 11, 12, 13] rfl
          exact W.zret hx hb hr (by decide) (fun t ht hW => ⟨⟨(0), (zs), rfl, ⟨⟨rfl, Or.inl rfl⟩, hlen, hrs0, hf113, hf114, hf115, hf138, hf99⟩, by rw [ht]; exact hP9, va_K.moved hW.alike hK9, hD9⟩, hS.F ht⟩) hS.2.2 dX13_patch_36
def lp_vm_isNamedB_97 (nf n : Nat) (a1 : Int32) (a3 : Int32) (a4 : Int32) (f104 : Nat → Int32) (f102 : Nat → Int32) (f100 : Nat → Int32) (nS477 : Nat) (fS477 : Nat → Int32)  (l3_97 : Int32) (l4_97 : Int32) (l6_97 : Int32) (l7_97 : Int32) (l8_97 : Int32) : Option (Int32) := match n with
  | 0 => none
  | n + 1 => (if l4_97 ≤ l8_97 then (if l7_97 = 0 then (some 0) else if l7_97 = 1 then (some 1) else none) else (if l7_97 = 0 then (if l7_97 = 0 then (some 0) else if l7_97 = 1 then (some 1) else none) else (if ((l6_97 + 1) + l8_97) < 0 then none else if nS477 ≤ (((l6_97 + 1) + l8_97) : Int32).toNatClampNeg then none else if 2147483648 ≤ nS477 then none else (if (l3_97 + l8_97) < 0 then none else if 48000 ≤ ((l3_97 + l8_97) : Int32).toNatClampNeg then none else (if (((fS477 (((l6_97 + 1) + l8_97) : Int32).toNatClampNeg) &&& 255).toUInt32 % 65536).toInt32 = (f100 ((l3_97 + l8_97) : Int32).toNatClampNeg) then (lp_vm_isNamedB_97 nf n a1 a3 a4 f104 f102 f100 nS477 fS477 l3_97 l4_97 l6_97 1 (l8_97 + 1)) else (lp_vm_isNamedB_97 nf n a1 a3 a4 f104 f102 f100 nS477 fS477 l3_97 l4_97 l6_97 0 (l8_97 + 1)))))))
def jn_vm_isNamedB_92 (nf : Nat) (a1 : Int32) (a3 : Int32) (a4 : Int32) (f104 : Nat → Int32) (f102 : Nat → Int32) (f100 : Nat → Int32) (nS477 : Nat) (fS477 : Nat → Int32)  (l3_92 : Int32) (l4_92 : Int32) (l6_92 : Int32) (s0_92 : Int32) : Option (Int32) := (lp_vm_isNamedB_97 nf nf a1 a3 a4 f104 f102 f100 nS477 fS477  l3_92 l4_92 l6_92 s0_92 0)
def jn_vm_isNamedB_91 (nf : Nat) (a1 : Int32) (a3 : Int32) (a4 : Int32) (f104 : Nat → Int32) (f102 : Nat → Int32) (f100 : Nat → Int32) (nS477 : Nat) (fS477 : Nat → Int32)  (l3_91 : Int32) (l4_91 : Int32) (l6_91 : Int32) : Option (Int32) := (jn_vm_isNamedB_92 nf a1 a3 a4 f104 f102 f100 nS477 fS477  l3_91 l4_91 l6_91 0)
def lp_vm_isNamedB_12 (nf n : Nat) (a1 : Int32) (a3 : Int32) (a4 : Int32) (f104 : Nat → Int32) (f102 : Nat → Int32) (f100 : Nat → Int32) (nS477 : Nat) (fS477 : Nat → Int32)  (l1_12 : Int32) (l3_12 : Int32) (l4_12 : Int32) (l5_12 : Int32) (l6_12 : Int32) : Option (Int32) := match n with
  | 0 => none
  | n + 1 => (if (nI nS477) ≤ (l6_12 + 1) then (some 0) else (if l6_12 < 0 then none else if nS477 ≤ (l6_12 : Int32).toNatClampNeg then none else if 2147483648 ≤ nS477 then none else (if (((fS477 (l6_12 : Int32).toNatClampNeg) &&& 255).toUInt32 % 65536).toInt32 = 32 then (if (l5_12 + 1) = l1_12 then (if (nI nS477) ≤ ((l6_12 + l4_12) + 1) then (jn_vm_isNamedB_91 nf a1 a3 a4 f104 f102 f100 nS477 fS477  l3_12 l4_12 l6_12) else (if ((l6_12 + l4_12) + 1) < 0 then none else if nS477 ≤ (((l6_12 + l4_12) + 1) : Int32).toNatClampNeg then none else if 2147483648 ≤ nS477 then none else (if (((fS477 (((l6_12 + l4_12) + 1) : Int32).toNatClampNeg) &&& 255).toUInt32 % 65536).toInt32 = 32 then (jn_vm_isNamedB_92 nf a1 a3 a4 f104 f102 f100 nS477 fS477  l3_12 l4_12 l6_12 1) else (jn_vm_isNamedB_91 nf a1 a3 a4 f104 f102 f100 nS477 fS477  l3_12 l4_12 l6_12)))) else (lp_vm_isNamedB_12 nf n a1 a3 a4 f104 f102 f100 nS477 fS477 l1_12 l3_12 l4_12 (l5_12 + 1) (l6_12 + 1))) else (lp_vm_isNamedB_12 nf n a1 a3 a4 f104 f102 f100 nS477 fS477 l1_12 l3_12 l4_12 l5_12 (l6_12 + 1)))))
def lp_vm_isNamedB_184 (nf n : Nat) (a1 : Int32) (a3 : Int32) (a4 : Int32) (f104 : Nat → Int32) (f102 : Nat → Int32) (f100 : Nat → Int32) (nS477 : Nat) (fS477 : Nat → Int32)  (l3_184 : Int32) (l4_184 : Int32) (l5_184 : Int32) (l6_184 : Int32) (l7_184 : Int32) : Option (Int32) := match n with
  | 0 => none
  | n + 1 => (if l4_184 ≤ l7_184 then (if l6_184 = 0 then (some 0) else if l6_184 = 1 then (some 1) else none) else (if l6_184 = 0 then (if l6_184 = 0 then (some 0) else if l6_184 = 1 then (some 1) else none) else (if ((l5_184 + 1) + l7_184) < 0 then none else if 48000 ≤ (((l5_184 + 1) + l7_184) : Int32).toNatClampNeg then none else (if (l3_184 + l7_184) < 0 then none else if 48000 ≤ ((l3_184 + l7_184) : Int32).toNatClampNeg then none else (if (f100 (((l5_184 + 1) + l7_184) : Int32).toNatClampNeg) = (f100 ((l3_184 + l7_184) : Int32).toNatClampNeg) then (lp_vm_isNamedB_184 nf n a1 a3 a4 f104 f102 f100 nS477 fS477 l3_184 l4_184 l5_184 1 (l7_184 + 1)) else (lp_vm_isNamedB_184 nf n a1 a3 a4 f104 f102 f100 nS477 fS477 l3_184 l4_184 l5_184 0 (l7_184 + 1)))))))
def jn_vm_isNamedB_179 (nf : Nat) (a1 : Int32) (a3 : Int32) (a4 : Int32) (f104 : Nat → Int32) (f102 : Nat → Int32) (f100 : Nat → Int32) (nS477 : Nat) (fS477 : Nat → Int32)  (l3_179 : Int32) (l4_179 : Int32) (l5_179 : Int32) (s0_179 : Int32) : Option (Int32) := (lp_vm_isNamedB_184 nf nf a1 a3 a4 f104 f102 f100 nS477 fS477  l3_179 l4_179 l5_179 s0_179 0)
def sp_vm_isNamedB (nf : Nat) (a1 : Int32) (a3 : Int32) (a4 : Int32) (f104 : Nat → Int32) (f102 : Nat → Int32) (f100 : Nat → Int32) (nS477 : Nat) (fS477 : Nat → Int32) : Option (Int32) := (if 8 ≤ a1 then ((sp_tm_nameAt nf a1 f104 f102 f100).bind (fun p1 => (if p1 < 0 then none else if 48000 ≤ (p1 : Int32).toNatClampNeg then none else (if (f100 (p1 : Int32).toNatClampNeg) = a4 then (jn_vm_isNamedB_179 nf a1 a3 a4 f104 f102 f100 nS477 fS477  a3 a4 p1 1) else (jn_vm_isNamedB_179 nf a1 a3 a4 f104 f102 f100 nS477 fS477  a3 a4 p1 0))))) else (lp_vm_isNamedB_12 nf nf a1 a3 a4 f104 f102 f100 nS477 fS477  a1 a3 a4 (-1) 0))

set_option maxHeartbeats 4000000 in
set_option maxRecDepth 100000 in
/-- ClassMillModel.load -/
theorem vm_load (l : Launch) (dC : Nat → ClassId) (dI : Nat → Nat → Nat) (sz : Nat) (h0 : Nat) (zs : (List Value)) (qf0 : Nat) (v1 : Int32) (v98 : Int32) (v99 : Int32) (qf100 : Nat) (qf101 : Nat) (qf102 : Nat) (qf103 : Nat) (qf104 : Nat) (qf105 : Nat) (qf106 : Nat) (qf107 : Nat) (qf108 : Nat) (qf109 : Nat) (qf110 : Nat) (qf111 : Nat) (qf112 : Nat) (v113 : Int32) (v114 : Int32) (v115 : Int32) (qf116 : Nat) (v138 : Int32) (cf103 : ClassId) (f103 : (Nat → Int32)) (cf112 : ClassId) (f112 : (Nat → Int32)) (cf102 : ClassId) (f102 : (Nat → Int32)) (cf104 : ClassId) (f104 : (Nat → Int32)) (cf105 : ClassId) (f105 : (Nat → Int32)) (cf106 : ClassId) (f106 : (Nat → Int32)) (cf107 : ClassId) (f107 : (Nat → Int32)) (cf108 : ClassId) (f108 : (Nat → Int32)) (cf109 : ClassId) (f109 : (Nat → Int32)) (cf110 : ClassId) (f110 : (Nat → Int32)) (cf111 : ClassId) (f111 : (Nat → Int32)) (cf100 : ClassId) (f100 : (Nat → Int32)) (cf101 : ClassId) (f101 : (Nat → Int32)) (cf116 : ClassId) (f116 : (Nat → Int32)) (cf0 : ClassId) (f0 : (Nat → Int32)) (nS477 : Nat) (fS477 : (Nat → Int32)) (hS477 : Nat) (qS477 : Nat) (tS477 : String) (nf : Nat) (r0 : Int32) (o100 : (Nat → Int32)) (o101 : (Nat → Int32)) (o102 : (Nat → Int32)) (o103 : (Nat → Int32)) (o104 : (Nat → Int32)) (o105 : (Nat → Int32)) (o106 : (Nat → Int32)) (o107 : (Nat → Int32)) (o108 : (Nat → Int32)) (o109 : (Nat → Int32)) (o110 : (Nat → Int32)) (o111 : (Nat → Int32)) (o112 : (Nat → Int32)) (o116 : (Nat → Int32)) (w1 : Int32) (w113 : Int32) (w114 : Int32) (w115 : Int32) (w138 : Int32) (w98 : Int32) (w99 : Int32) (hlen : zs.length = 155) (hf0 : zs[0]? = some (.ref qf0)) (hf1 : zs[1]? = some (.int v1)) (hf98 : zs[98]? = some (.int v98)) (hf99 : zs[99]? = some (.int v99)) (hf100 : zs[100]? = some (.ref qf100)) (hf101 : zs[101]? = some (.ref qf101)) (hf102 : zs[102]? = some (.ref qf102)) (hf103 : zs[103]? = some (.ref qf103)) (hf104 : zs[104]? = some (.ref qf104)) (hf105 : zs[105]? = some (.ref qf105)) (hf106 : zs[106]? = some (.ref qf106)) (hf107 : zs[107]? = some (.ref qf107)) (hf108 : zs[108]? = some (.ref qf108)) (hf109 : zs[109]? = some (.ref qf109)) (hf110 : zs[110]? = some (.ref qf110)) (hf111 : zs[111]? = some (.ref qf111)) (hf112 : zs[112]? = some (.ref qf112)) (hf113 : zs[113]? = some (.int v113)) (hf114 : zs[114]? = some (.int v114)) (hf115 : zs[115]? = some (.int v115)) (hf116 : zs[116]? = some (.ref qf116)) (hf138 : zs[138]? = some (.int v138)) (hsp : sp_vm_load nf v1 v98 v99 v114 v115 v138 f103 f112 f102 f104 f105 f106 f107 f108 f109 f110 f111 f100 f101 f116 f0 nS477 fS477 = some (r0, o100, o101, o102, o103, o104, o105, o106, o107, o108, o109, o110, o111, o112, o116, w1, w113, w114, w115, w138, w98, w99)) : Met l yX13_load (.code yX13_load cX13_load 2 (some .int) :: VS_h9) ({ frames := 11, cells := 0, slots := 0, locals := 260 }) (va_Pc [.ref h0] (fun U => U.heap.size = sz ∧ va_P (dC, dI) vwCl [(h0, .inr (13, zs)), (qf103, .inl (cf103, 8, .inl f103)), (qf112, .inl (cf112, 6000, .inl f112)), (qf102, .inl (cf102, 2048, .inl f102)), (qf104, .inl (cf104, 8, .inl f104)), (qf105, .inl (cf105, 8, .inl f105)), (qf106, .inl (cf106, 8, .inl f106)), (qf107, .inl (cf107, 96, .inl f107)), (qf108, .inl (cf108, 8, .inl f108)), (qf109, .inl (cf109, 96, .inl f109)), (qf110, .inl (cf110, 96, .inl f110)), (qf111, .inl (cf111, 96, .inl f111)), (qf100, .inl (cf100, 48000, .inl f100)), (qf101, .inl (cf101, 8, .inl f101)), (qf116, .inl (cf116, 309, .inl f116)), (qf0, .inl (cf0, 6000, .inl f0))] U.heap ∧ va_K (dC, dI) vwCl [(cf103, .int), (cf112, .int), (cf102, .int), (cf104, .int), (cf105, .int), (cf106, .int), (cf107, .int), (cf108, .int), (cf109, .int), (cf110, .int), (cf111, .int), (cf100, .int), (cf101, .int), (cf116, .int), (cf0, .int)] U ∧ va_D (fun _ => True) [(h0, .inr (13, zs)), (qf103, .inl (cf103, 8, .inl f103)), (qf112, .inl (cf112, 6000, .inl f112)), (qf102, .inl (cf102, 2048, .inl f102)), (qf104, .inl (cf104, 8, .inl f104)), (qf105, .inl (cf105, 8, .inl f105)), (qf106, .inl (cf106, 8, .inl f106)), (qf107, .inl (cf107, 96, .inl f107)), (qf108, .inl (cf108, 8, .inl f108)), (qf109, .inl (cf109, 96, .inl f109)), (qf110, .inl (cf110, 96, .inl f110)), (qf111, .inl (cf111, 96, .inl f111)), (qf100, .inl (cf100, 48000, .inl f100)), (qf101, .inl (cf101, 8, .inl f101)), (qf116, .inl (cf116, 309, .inl f116)), (qf0, .inl (cf0, 6000, .inl f0))] ∧ pz_W nS477 fS477 hS477 qS477 (va_A [(h0, .inr (13, zs)), (qf103, .inl (cf103, 8, .inl f103)), (qf112, .inl (cf112, 6000, .inl f112)), (qf102, .inl (cf102, 2048, .inl f102)), (qf104, .inl (cf104, 8, .inl f104)), (qf105, .inl (cf105, 8, .inl f105)), (qf106, .inl (cf106, 8, .inl f106)), (qf107, .inl (cf107, 96, .inl f107)), (qf108, .inl (cf108, 8, .inl f108)), (qf109, .inl (cf109, 96, .inl f109)), (qf110, .inl (cf110, 96, .inl f110)), (qf111, .inl (cf111, 96, .inl f111)), (qf100, .inl (cf100, 48000, .inl f100)), (qf101, .inl (cf101, 8, .inl f101)), (qf116, .inl (cf116, 309, .inl f116)), (qf0, .inl (cf0, 6000, .inl f0))] sz) U U.heap ∧ vk_R RX13 477 tS477 hS477 U)) (va_Qi (fun (r : Int32) (u : (List Value)) => match u with | (zo1) => r0 = r ∧ zo1.length = 155 ∧ (∀ j : Nat, j ≠ 1 → j ≠ 113 → j ≠ 114 → j ≠ 115 → j ≠ 138 → j ≠ 98 → j ≠ 99 → zo1[j]? = zs[j]?) ∧ zo1[1]? = some (.int w1) ∧ zo1[113]? = some (.int w113) ∧ zo1[114]? = some (.int w114) ∧ zo1[115]? = some (.int w115) ∧ zo1[138]? = some (.int w138) ∧ zo1[98]? = some (.int w98) ∧ zo1[99]? = some (.int w99)) (fun (u : (List Value)) (t : State) => match u with | (zo1) => va_P (dC, dI) vwCl [(h0, .inr (13, zo1)), (qf103, .inl (cf103, 8, .inl o103)), (qf112, .inl (cf112, 6000, .inl o112)), (qf102, .inl (cf102, 2048, .inl o102)), (qf104, .inl (cf104, 8, .inl o104)), (qf105, .inl (cf105, 8, .inl o105)), (qf106, .inl (cf106, 8, .inl o106)), (qf107, .inl (cf107, 96, .inl o107)), (qf108, .inl (cf108, 8, .inl o108)), (qf109, .inl (cf109, 96, .inl o109)), (qf110, .inl (cf110, 96, .inl o110)), (qf111, .inl (cf111, 96, .inl o111)), (qf100, .inl (cf100, 48000, .inl o100)), (qf101, .inl (cf101, 8, .inl o101)), (qf116, .inl (cf116, 309, .inl o116)), (qf0, .inl (cf0, 6000, .inl f0))] t.heap ∧ va_K (dC, dI) vwCl [(cf103, .int), (cf112, .int), (cf102, .int), (cf104, .int), (cf105, .int), (cf106, .int), (cf107, .int), (cf108, .int), (cf109, .int), (cf110, .int), (cf111, .int), (cf100, .int), (cf101, .int), (cf116, .int), (cf0, .int)] t ∧ va_D (va_A [(h0, .inr (13, zs)), (qf103, .inl (cf103, 8, .inl f103)), (qf112, .inl (cf112, 6000, .inl f112)), (qf102, .inl (cf102, 2048, .inl f102)), (qf104, .inl (cf104, 8, .inl f104)), (qf105, .inl (cf105, 8, .inl f105)), (qf106, .inl (cf106, 8, .inl f106)), (qf107, .inl (cf107, 96, .inl f107)), (qf108, .inl (cf108, 8, .inl f108)), (qf109, .inl (cf109, 96, .inl f109)), (qf110, .inl (cf110, 96, .inl f110)), (qf111, .inl (cf111, 96, .inl f111)), (qf100, .inl (cf100, 48000, .inl f100)), (qf101, .inl (cf101, 8, .inl f101)), (qf116, .inl (cf116, 309, .inl f116)), (qf0, .inl (cf0, 6000, .inl f0))] sz) [(h0, .inr (13, zo1)), (qf103, .inl (cf103, 8, .inl o103)), (qf112, .inl (cf112, 6000, .inl o112)), (qf102, .inl (cf102, 2048, .inl o102)), (qf104, .inl (cf104, 8, .inl o104)), (qf105, .inl (cf105, 8, .inl o105)), (qf106, .inl (cf106, 8, .inl o106)), (qf107, .inl (cf107, 96, .inl o107)), (qf108, .inl (cf108, 8, .inl o108)), (qf109, .inl (cf109, 96, .inl o109)), (qf110, .inl (cf110, 96, .inl o110)), (qf111, .inl (cf111, 96, .inl o111)), (qf100, .inl (cf100, 48000, .inl o100)), (qf101, .inl (cf101, 8, .inl o101)), (qf116, .inl (cf116, 309, .inl o116)), (qf0, .inl (cf0, 6000, .inl f0))]) (va_A [(h0, .inr (13, zs)), (qf103, .inl (cf103, 8, .inl f103)), (qf112, .inl (cf112, 6000, .inl f112)), (qf102, .inl (cf102, 2048, .inl f102)), (qf104, .inl (cf104, 8, .inl f104)), (qf105, .inl (cf105, 8, .inl f105)), (qf106, .inl (cf106, 8, .inl f106)), (qf107, .inl (cf107, 96, .inl f107)), (qf108, .inl (cf108, 8, .inl f108)), (qf109, .inl (cf109, 96, .inl f109)), (qf110, .inl (cf110, 96, .inl f110)), (qf111, .inl (cf111, 96, .inl f111)), (qf100, .inl (cf100, 48000, .inl f100)), (qf101, .inl (cf101, 8, .inl f101)), (qf116, .inl (cf116, 309, .inl f116)), (qf0, .inl (cf0, 6000, .inl f0))] sz)) 0 0 (va_A [(h0, .inr (13, zs)), (qf103, .inl (cf103, 8, .inl f103)), (qf112, .inl (cf112, 6000, .inl f112)), (qf102, .inl (cf102, 2048, .inl f102)), (qf104, .inl (cf104, 8, .inl f104)), (qf105, .inl (cf105, 8, .inl f105)), (qf106, .inl (cf106, 8, .inl f106)), (qf107, .inl (cf107, 96, .inl f107)), (qf108, .inl (cf108, 8, .inl f108)), (qf109, .inl (cf109, 96, .inl f109)), (qf110, .inl (cf110, 96, .inl f110)), (qf111, .inl (cf111, 96, .inl f111)), (qf100, .inl (cf100, 48000, .inl f100)), (qf101, .inl (cf101, 8, .inl f101)), (qf116, .inl (cf116, 309, .inl f116)), (qf0, .inl (cf0, 6000, .inl f0))] sz) := by
  refine Met.ofW (cc := cX13_load) (maxL := 2) (ret := (some .int)) (by decide) rfl ?_
  intro p e s m args below meth c s₁ B hml hv
  obtain ⟨rfl, hsz, hP, hK, hD0, hZWS477, hZRS477⟩ := hv
  have hx := B.exec
  have hb := B.bytes
  have hr := B.returns
  have hts := atoms_spec (ws := (.code yX13_load cX13_load 2 (some .int) :: VS_h9)) B.pre
  replace hts := fun w (h : w ∈ VS_h9) => hts w (List.mem_cons_of_mem _ h)
  have hown : s.vm.findClass RX13 = some m.cls := findClass_of_methodNamed B.named
  have hlocks := B.notSynchronized
  subst hsz
  have hD := hD0.self (sz := s.heap.size)
  generalize hAe : va_A [(h0, .inr (13, zs)), (qf103, .inl (cf103, 8, .inl f103)), (qf112, .inl (cf112, 6000, .inl f112)), (qf102, .inl (cf102, 2048, .inl f102)), (qf104, .inl (cf104, 8, .inl f104)), (qf105, .inl (cf105, 8, .inl f105)), (qf106, .inl (cf106, 8, .inl f106)), (qf107, .inl (cf107, 96, .inl f107)), (qf108, .inl (cf108, 8, .inl f108)), (qf109, .inl (cf109, 96, .inl f109)), (qf110, .inl (cf110, 96, .inl f110)), (qf111, .inl (cf111, 96, .inl f111)), (qf100, .inl (cf100, 48000, .inl f100)), (qf101, .inl (cf101, 8, .inl f101)), (qf116, .inl (cf116, 309, .inl f116)), (qf0, .inl (cf0, 6000, .inl f0))] s.heap.size = A at hD hZWS477 ⊢
  have hA : ∀ q : Nat, s.heap.size ≤ q → A q := fun q h => by rw [← hAe]; exact Or.inr h
  have hP : va_P (dC, dI) vwCl [(h0, .inr (13, zs)), (qf103, .inl (cf103, 8, .inl f103)), (qf112, .inl (cf112, 6000, .inl f112)), (qf102, .inl (cf102, 2048, .inl f102)), (qf104, .inl (cf104, 8, .inl f104)), (qf105, .inl (cf105, 8, .inl f105)), (qf106, .inl (cf106, 8, .inl f106)), (qf107, .inl (cf107, 96, .inl f107)), (qf108, .inl (cf108, 8, .inl f108)), (qf109, .inl (cf109, 96, .inl f109)), (qf110, .inl (cf110, 96, .inl f110)), (qf111, .inl (cf111, 96, .inl f111)), (qf100, .inl (cf100, 48000, .inl f100)), (qf101, .inl (cf101, 8, .inl f101)), (qf116, .inl (cf116, 309, .inl f116)), (qf0, .inl (cf0, 6000, .inl f0))] s.heap := hP
  have hl := lv_entry ([.ref h0]) (n := 2) (Nat.le_of_ble_eq_true rfl)
  rw [lg_entry_eq]
  generalize (lg_sl ([.ref h0]) ++ List.replicate (2 - (lg_sl ([.ref h0])).length) Slot.unset).toArray = ls at hl ⊢
  have hl : lv_has ls 2 [(0, .ref h0)] := hl
  obtain ⟨H, hH⟩ : ∃ H : Heap, s.heap = H := ⟨_, rfl⟩
  rw [hH] at hP ⊢
  have hS : va_S A s.heap H [] := by rw [← hH]; exact va_S.rf
  obtain ⟨locs, hlo⟩ : ∃ locs : List Loc, locs = [] := ⟨_, rfl⟩
  rw [← hlo] at hS ⊢
  have hrs0 : ∀ j : Nat, j ≠ 1 → j ≠ 113 → j ≠ 114 → j ≠ 115 → j ≠ 138 → j ≠ 98 → j ≠ 99 → zs[j]? = zs[j]? := fun _ _ _ _ _ _ _ _  => rfl
  unfold sp_vm_load at hsp
  refine lv_aload_n hx hb dX13_load_0 rfl (lv_at hl 0 rfl) ?_
  refine lv_aload_n hx hb dX13_load_1 rfl (lv_at hl 0 rfl) ?_
  refine va_get (D := (dC, dI)) (ci := 13) (v := .int v1) (C := RX13) (T := TX13) (N := 155) hx hb hts uV_h9_X13 hown hK hP 0 rfl rfl 1 (by decide) (hts (.fieldLink RX13 312 "ClassMillModel" "taped" "I") mw_h9_391) (fun _ h9 => h9) hf1 dX13_load_2 ?_
  refine va_put (D := (dC, dI)) (ci := 13) (v := .int v1) (ty := .int) (C := RX13) (T := TX13) (N := 155) hx hb hts uV_h9_X13 tyX13 tyX13_ok nmX13 hown hK hP hD hS 0 rfl rfl 113 (by decide) (hts (.fieldLink RX13 767 "ClassMillModel" "lookSize" "I") mw_h9_451) (fun _ h9 => h9) rfl (by decide +kernel) rfl rfl (by rw [hlen]; decide) dX13_load_5 ?_
  clear hP hD hS
  intro H locs hP hD hS
  obtain ⟨fs_1, efs_1⟩ : ∃ zf : List Value, zf = zs.set 113 (.int v1) := ⟨_, rfl⟩
  rw [← efs_1] at hP hD
  have hlfs_1 : fs_1.length = 155 := by rw [efs_1, List.length_set]; exact hlen
  have hfs_1_0 : fs_1[0]? = some (.ref qf0) := by rw [efs_1, List.getElem?_set_ne (by decide)]; exact hf0
  have hfs_1_1 : fs_1[1]? = some (.int v1) := by rw [efs_1, List.getElem?_set_ne (by decide)]; exact hf1
  have hfs_1_98 : fs_1[98]? = some (.int v98) := by rw [efs_1, List.getElem?_set_ne (by decide)]; exact hf98
  have hfs_1_99 : fs_1[99]? = some (.int v99) := by rw [efs_1, List.getElem?_set_ne (by decide)]; exact hf99
  have hfs_1_100 : fs_1[100]? = some (.ref qf100) := by rw [efs_1, List.getElem?_set_ne (by decide)]; exact hf100
  have hfs_1_101 : fs_1[101]? = some (.ref qf101) := by rw [efs_1, List.getElem?_set_ne (by decide)]; exact hf101
  have hfs_1_102 : fs_1[102]? = some (.ref qf102) := by rw [efs_1, List.getElem?_set_ne (by decide)]; exact hf102
  have hfs_1_103 : fs_1[103]? = some (.ref qf103) := by rw [efs_1, List.getElem?_set_ne (by decide)]; exact hf103
  have hfs_1_104 : fs_1[104]? = some (.ref qf104) := by rw [efs_1, List.getElem?_set_ne (by decide)]; exact hf104
  have hfs_1_105 : fs_1[105]? = some (.ref qf105) := by rw [efs_1, List.getElem?_set_ne (by decide)]; exact hf105
  have hfs_1_106 : fs_1[106]? = some (.ref qf106) := by rw [efs_1, List.getElem?_set_ne (by decide)]; exact hf106
  have hfs_1_107 : fs_1[107]? = some (.ref qf107) := by rw [efs_1, List.getElem?_set_ne (by decide)]; exact hf107
  have hfs_1_108 : fs_1[108]? = some (.ref qf108) := by rw [efs_1, List.getElem?_set_ne (by decide)]; exact hf108
  have hfs_1_109 : fs_1[109]? = some (.ref qf109) := by rw [efs_1, List.getElem?_set_ne (by decide)]; exact hf109
  have hfs_1_110 : fs_1[110]? = some (.ref qf110) := by rw [efs_1, List.getElem?_set_ne (by decide)]; exact hf110
  have hfs_1_111 : fs_1[111]? = some (.ref qf111) := by rw [efs_1, List.getElem?_set_ne (by decide)]; exact hf111
  have hfs_1_112 : fs_1[112]? = some (.ref qf112) := by rw [efs_1, List.getElem?_set_ne (by decide)]; exact hf112
  have hfs_1_114 : fs_1[114]? = some (.int v114) := by rw [efs_1, List.getElem?_set_ne (by decide)]; exact hf114
  have hfs_1_115 : fs_1[115]? = some (.int v115) := by rw [efs_1, List.getElem?_set_ne (by decide)]; exact hf115
  have hfs_1_116 : fs_1[116]? = some (.ref qf116) := by rw [efs_1, List.getElem?_set_ne (by decide)]; exact hf116
  have hfs_1_138 : fs_1[138]? = some (.int v138) := by rw [efs_1, List.getElem?_set_ne (by decide)]; exact hf138
  have hfs_1_113 : fs_1[113]? = some (.int v1) := by rw [efs_1, List.getElem?_set_self (by rw [hlen]; decide)]
  replace hP : va_P (dC, dI) vwCl [(h0, .inr (13, fs_1)), (qf103, .inl (cf103, 8, .inl f103)), (qf112, .inl (cf112, 6000, .inl f112)), (qf102, .inl (cf102, 2048, .inl f102)), (qf104, .inl (cf104, 8, .inl f104)), (qf105, .inl (cf105, 8, .inl f105)), (qf106, .inl (cf106, 8, .inl f106)), (qf107, .inl (cf107, 96, .inl f107)), (qf108, .inl (cf108, 8, .inl f108)), (qf109, .inl (cf109, 96, .inl f109)), (qf110, .inl (cf110, 96, .inl f110)), (qf111, .inl (cf111, 96, .inl f111)), (qf100, .inl (cf100, 48000, .inl f100)), (qf101, .inl (cf101, 8, .inl f101)), (qf116, .inl (cf116, 309, .inl f116)), (qf0, .inl (cf0, 6000, .inl f0))] H := hP
  replace hD : va_D A [(h0, .inr (13, fs_1)), (qf103, .inl (cf103, 8, .inl f103)), (qf112, .inl (cf112, 6000, .inl f112)), (qf102, .inl (cf102, 2048, .inl f102)), (qf104, .inl (cf104, 8, .inl f104)), (qf105, .inl (cf105, 8, .inl f105)), (qf106, .inl (cf106, 8, .inl f106)), (qf107, .inl (cf107, 96, .inl f107)), (qf108, .inl (cf108, 8, .inl f108)), (qf109, .inl (cf109, 96, .inl f109)), (qf110, .inl (cf110, 96, .inl f110)), (qf111, .inl (cf111, 96, .inl f111)), (qf100, .inl (cf100, 48000, .inl f100)), (qf101, .inl (cf101, 8, .inl f101)), (qf116, .inl (cf116, 309, .inl f116)), (qf0, .inl (cf0, 6000, .inl f0))] := hD
  have hrs_2 : ∀ j : Nat, j ≠ 1 → j ≠ 113 → j ≠ 114 → j ≠ 115 → j ≠ 138 → j ≠ 98 → j ≠ 99 → fs_1[j]? = zs[j]? := fun j g1 g113 g114 g115 g138 g98 g99 => ((congrArg (fun z : List Value => z[j]?) efs_1).trans (List.getElem?_set_ne (Ne.symm g113))).trans (hrs0 j g1 g113 g114 g115 g138 g98 g99)
  refine lv_iconst (v := 0) hx hb dX13_load_8 (by decide) ?_
  refine lv_istore_n (lv' := [(1, .int 0), (0, .ref h0)]) hx hb dX13_load_9 rfl hl (by decide) rfl (fun ls hl => ?_)
  replace hl : lv_has ls 2 [(1, .int 0), (0, .ref h0)] := lv_sub hl [0, 1] rfl
  replace hP := hP.sub (ws' := [(h0, .inr (13, fs_1)), (qf103, .inl (cf103, 8, .inl f103)), (qf112, .inl (cf112, 6000, .inl f112)), (qf102, .inl (cf102, 2048, .inl f102)), (qf104, .inl (cf104, 8, .inl f104)), (qf105, .inl (cf105, 8, .inl f105)), (qf106, .inl (cf106, 8, .inl f106)), (qf107, .inl (cf107, 96, .inl f107)), (qf108, .inl (cf108, 8, .inl f108)), (qf109, .inl (cf109, 96, .inl f109)), (qf110, .inl (cf110, 96, .inl f110)), (qf111, .inl (cf111, 96, .inl f111)), (qf100, .inl (cf100, 48000, .inl f100)), (qf101, .inl (cf101, 8, .inl f101)), (qf116, .inl (cf116, 309, .inl f116)), (qf0, .inl (cf0, 6000, .inl f0))]) [0, 1, 2, 3, 4, 5, 6, 7, 8, 9, 10, 11, 12, 13, 14, 15] rfl
  replace hD := hD.sub (ws' := [(h0, .inr (13, fs_1)), (qf103, .inl (cf103, 8, .inl f103)), (qf112, .inl (cf112, 6000, .inl f112)), (qf102, .inl (cf102, 2048, .inl f102)), (qf104, .inl (cf104, 8, .inl f104)), (qf105, .inl (cf105, 8, .inl f105)), (qf106, .inl (cf106, 8, .inl f106)), (qf107, .inl (cf107, 96, .inl f107)), (qf108, .inl (cf108, 8, .inl f108)), (qf109, .inl (cf109, 96, .inl f109)), (qf110, .inl (cf110, 96, .inl f110)), (qf111, .inl (cf111, 96, .inl f111)), (qf100, .inl (cf100, 48000, .inl f100)), (qf101, .inl (cf101, 8, .inl f101)), (qf116, .inl (cf116, 309, .inl f116)), (qf0, .inl (cf0, 6000, .inl f0))]) [0, 1, 2, 3, 4, 5, 6, 7, 8, 9, 10, 11, 12, 13, 14, 15] (by decide) rfl
  replace hK := hK.sub (tys' := [(cf103, .int), (cf112, .int), (cf102, .int), (cf104, .int), (cf105, .int), (cf106, .int), (cf107, .int), (cf108, .int), (cf109, .int), (cf110, .int), (cf111, .int), (cf100, .int), (cf101, .int), (cf116, .int), (cf0, .int)]) [0, 1, 2, 3, 4, 5, 6, 7, 8, 9, 10, 11, 12, 13, 14] rfl
  obtain ⟨n_10, hn_10⟩ : ∃ z : Nat, z = nf := ⟨_, rfl⟩
  obtain ⟨l1_10, el1_10⟩ : ∃ z : Int32, z = 0 := ⟨_, rfl⟩
  obtain ⟨g100_10, eg100_10⟩ : ∃ z : Nat → Int32, z = f100 := ⟨_, rfl⟩
  obtain ⟨g101_10, eg101_10⟩ : ∃ z : Nat → Int32, z = f101 := ⟨_, rfl⟩
  obtain ⟨g102_10, eg102_10⟩ : ∃ z : Nat → Int32, z = f102 := ⟨_, rfl⟩
  obtain ⟨g103_10, eg103_10⟩ : ∃ z : Nat → Int32, z = f103 := ⟨_, rfl⟩
  obtain ⟨g104_10, eg104_10⟩ : ∃ z : Nat → Int32, z = f104 := ⟨_, rfl⟩
  obtain ⟨g105_10, eg105_10⟩ : ∃ z : Nat → Int32, z = f105 := ⟨_, rfl⟩
  obtain ⟨g106_10, eg106_10⟩ : ∃ z : Nat → Int32, z = f106 := ⟨_, rfl⟩
  obtain ⟨g107_10, eg107_10⟩ : ∃ z : Nat → Int32, z = f107 := ⟨_, rfl⟩
  obtain ⟨g108_10, eg108_10⟩ : ∃ z : Nat → Int32, z = f108 := ⟨_, rfl⟩
  obtain ⟨g109_10, eg109_10⟩ : ∃ z : Nat → Int32, z = f109 := ⟨_, rfl⟩
  obtain ⟨g110_10, eg110_10⟩ : ∃ z : Nat → Int32, z = f110 := ⟨_, rfl⟩
  obtain ⟨g111_10, eg111_10⟩ : ∃ z : Nat → Int32, z = f111 := ⟨_, rfl⟩
  obtain ⟨g112_10, eg112_10⟩ : ∃ z : Nat → Int32, z = f112 := ⟨_, rfl⟩
  obtain ⟨g116_10, eg116_10⟩ : ∃ z : Nat → Int32, z = f116 := ⟨_, rfl⟩
  obtain ⟨x1_10, ex1_10⟩ : ∃ z : Int32, z = v1 := ⟨_, rfl⟩
  obtain ⟨x113_10, ex113_10⟩ : ∃ z : Int32, z = v1 := ⟨_, rfl⟩
  obtain ⟨x114_10, ex114_10⟩ : ∃ z : Int32, z = v114 := ⟨_, rfl⟩
  obtain ⟨x115_10, ex115_10⟩ : ∃ z : Int32, z = v115 := ⟨_, rfl⟩
  obtain ⟨x138_10, ex138_10⟩ : ∃ z : Int32, z = v138 := ⟨_, rfl⟩
  obtain ⟨x98_10, ex98_10⟩ : ∃ z : Int32, z = v98 := ⟨_, rfl⟩
  obtain ⟨x99_10, ex99_10⟩ : ∃ z : Int32, z = v99 := ⟨_, rfl⟩
  replace hsp : lp_vm_load_10 nf n_10 v1 v98 v99 v114 v115 v138 f103 f112 f102 f104 f105 f106 f107 f108 f109 f110 f111 f100 f101 f116 f0 nS477 fS477 l1_10 g100_10 g101_10 g102_10 g103_10 g104_10 g105_10 g106_10 g107_10 g108_10 g109_10 g110_10 g111_10 g112_10 g116_10 x1_10 x113_10 x114_10 x115_10 x138_10 x98_10 x99_10 = some (r0, o100, o101, o102, o103, o104, o105, o106, o107, o108, o109, o110, o111, o112, o116, w1, w113, w114, w115, w138, w98, w99) := by rw [hn_10, el1_10, eg100_10, eg101_10, eg102_10, eg103_10, eg104_10, eg105_10, eg106_10, eg107_10, eg108_10, eg109_10, eg110_10, eg111_10, eg112_10, eg116_10, ex1_10, ex113_10, ex114_10, ex115_10, ex138_10, ex98_10, ex99_10]; exact hsp
  replace hl : lv_has ls 2 [(1, .int l1_10), (0, .ref h0)] := by rw [el1_10]; exact hl
  obtain ⟨z10, ez10⟩ : ∃ z : List Value, z = fs_1 := ⟨_, rfl⟩
  have hfh_10_0 : z10[0]? = some (.ref qf0) := by rw [ez10]; exact hfs_1_0
  have hfh_10_1 : z10[1]? = some (.int x1_10) := by rw [ez10, ex1_10]; exact hfs_1_1
  have hfh_10_98 : z10[98]? = some (.int x98_10) := by rw [ez10, ex98_10]; exact hfs_1_98
  have hfh_10_99 : z10[99]? = some (.int x99_10) := by rw [ez10, ex99_10]; exact hfs_1_99
  have hfh_10_100 : z10[100]? = some (.ref qf100) := by rw [ez10]; exact hfs_1_100
  have hfh_10_101 : z10[101]? = some (.ref qf101) := by rw [ez10]; exact hfs_1_101
  have hfh_10_102 : z10[102]? = some (.ref qf102) := by rw [ez10]; exact hfs_1_102
  have hfh_10_103 : z10[103]? = some (.ref qf103) := by rw [ez10]; exact hfs_1_103
  have hfh_10_104 : z10[104]? = some (.ref qf104) := by rw [ez10]; exact hfs_1_104
  have hfh_10_105 : z10[105]? = some (.ref qf105) := by rw [ez10]; exact hfs_1_105
  have hfh_10_106 : z10[106]? = some (.ref qf106) := by rw [ez10]; exact hfs_1_106
  have hfh_10_107 : z10[107]? = some (.ref qf107) := by rw [ez10]; exact hfs_1_107
  have hfh_10_108 : z10[108]? = some (.ref qf108) := by rw [ez10]; exact hfs_1_108
  have hfh_10_109 : z10[109]? = some (.ref qf109) := by rw [ez10]; exact hfs_1_109
  have hfh_10_110 : z10[110]? = some (.ref qf110) := by rw [ez10]; exact hfs_1_110
  have hfh_10_111 : z10[111]? = some (.ref qf111) := by rw [ez10]; exact hfs_1_111
  have hfh_10_112 : z10[112]? = some (.ref qf112) := by rw [ez10]; exact hfs_1_112
  have hfh_10_113 : z10[113]? = some (.int x113_10) := by rw [ez10, ex113_10]; exact hfs_1_113
  have hfh_10_114 : z10[114]? = some (.int x114_10) := by rw [ez10, ex114_10]; exact hfs_1_114
  have hfh_10_115 : z10[115]? = some (.int x115_10) := by rw [ez10, ex115_10]; exact hfs_1_115
  have hfh_10_116 : z10[116]? = some (.ref qf116) := by rw [ez10]; exact hfs_1_116
  have hfh_10_138 : z10[138]? = some (.int x138_10) := by rw [ez10, ex138_10]; exact hfs_1_138
  have hlh_10 : z10.length = 155 := by rw [ez10]; exact hlfs_1
  have hrh_10 : ∀ j : Nat, j ≠ 1 → j ≠ 113 → j ≠ 114 → j ≠ 115 → j ≠ 138 → j ≠ 98 → j ≠ 99 → z10[j]? = zs[j]? := by rw [ez10]; exact hrs_2
  replace hP : va_P (dC, dI) vwCl [(h0, .inr (13, z10)), (qf103, .inl (cf103, 8, .inl g103_10)), (qf112, .inl (cf112, 6000, .inl g112_10)), (qf102, .inl (cf102, 2048, .inl g102_10)), (qf104, .inl (cf104, 8, .inl g104_10)), (qf105, .inl (cf105, 8, .inl g105_10)), (qf106, .inl (cf106, 8, .inl g106_10)), (qf107, .inl (cf107, 96, .inl g107_10)), (qf108, .inl (cf108, 8, .inl g108_10)), (qf109, .inl (cf109, 96, .inl g109_10)), (qf110, .inl (cf110, 96, .inl g110_10)), (qf111, .inl (cf111, 96, .inl g111_10)), (qf100, .inl (cf100, 48000, .inl g100_10)), (qf101, .inl (cf101, 8, .inl g101_10)), (qf116, .inl (cf116, 309, .inl g116_10)), (qf0, .inl (cf0, 6000, .inl f0))] H := by rw [ez10, eg100_10, eg101_10, eg102_10, eg103_10, eg104_10, eg105_10, eg106_10, eg107_10, eg108_10, eg109_10, eg110_10, eg111_10, eg112_10, eg116_10]; exact hP
  replace hD : va_D A [(h0, .inr (13, z10)), (qf103, .inl (cf103, 8, .inl g103_10)), (qf112, .inl (cf112, 6000, .inl g112_10)), (qf102, .inl (cf102, 2048, .inl g102_10)), (qf104, .inl (cf104, 8, .inl g104_10)), (qf105, .inl (cf105, 8, .inl g105_10)), (qf106, .inl (cf106, 8, .inl g106_10)), (qf107, .inl (cf107, 96, .inl g107_10)), (qf108, .inl (cf108, 8, .inl g108_10)), (qf109, .inl (cf109, 96, .inl g109_10)), (qf110, .inl (cf110, 96, .inl g110_10)), (qf111, .inl (cf111, 96, .inl g111_10)), (qf100, .inl (cf100, 48000, .inl g100_10)), (qf101, .inl (cf101, 8, .inl g101_10)), (qf116, .inl (cf116, 309, .inl g116_10)), (qf0, .inl (cf0, 6000, .inl f0))] := by rw [ez10, eg100_10, eg101_10, eg102_10, eg103_10, eg104_10, eg105_10, eg106_10, eg107_10, eg108_10, eg109_10, eg110_10, eg111_10, eg112_10, eg116_10]; exact hD
  clear hn_10 ez10 el1_10 eg100_10 eg101_10 eg102_10 eg103_10 eg104_10 eg105_10 eg106_10 eg107_10 eg108_10 eg109_10 eg110_10 eg111_10 eg112_10 eg116_10 ex1_10 ex113_10 ex114_10 ex115_10 ex138_10 ex98_10 ex99_10
  try clear hlo
  try clear hH
  revert hsp
  revert hP
  revert hD
  revert hS
  revert hl
  revert hrh_10
  revert hlh_10
  revert hfh_10_138
  revert hfh_10_116
  revert hfh_10_115
  revert hfh_10_114
  revert hfh_10_113
  revert hfh_10_112
  revert hfh_10_111
  revert hfh_10_110
  revert hfh_10_109
  revert hfh_10_108
  revert hfh_10_107
  revert hfh_10_106
  revert hfh_10_105
  revert hfh_10_104
  revert hfh_10_103
  revert hfh_10_102
  revert hfh_10_101
  revert hfh_10_100
  revert hfh_10_99
  revert hfh_10_98
  revert hfh_10_1
  revert hfh_10_0
  revert x99_10
  revert x98_10
  revert x138_10
  revert x115_10
  revert x114_10
  revert x113_10
  revert x1_10
  revert g116_10
  revert g112_10
  revert g111_10
  revert g110_10
  revert g109_10
  revert g108_10
  revert g107_10
  revert g106_10
  revert g105_10
  revert g104_10
  revert g103_10
  revert g102_10
  revert g101_10
  revert g100_10
  revert l1_10
  revert z10
  revert ls
  revert locs
  revert H
  induction n_10 with
  | zero => intro H locs ls z10 l1_10 g100_10 g101_10 g102_10 g103_10 g104_10 g105_10 g106_10 g107_10 g108_10 g109_10 g110_10 g111_10 g112_10 g116_10 x1_10 x113_10 x114_10 x115_10 x138_10 x98_10 x99_10 hfh_10_0 hfh_10_1 hfh_10_98 hfh_10_99 hfh_10_100 hfh_10_101 hfh_10_102 hfh_10_103 hfh_10_104 hfh_10_105 hfh_10_106 hfh_10_107 hfh_10_108 hfh_10_109 hfh_10_110 hfh_10_111 hfh_10_112 hfh_10_113 hfh_10_114 hfh_10_115 hfh_10_116 hfh_10_138 hlh_10 hrh_10 hl hS hD hP hsp; unfold lp_vm_load_10 at hsp; cases hsp
  | succ n_10 ih_10 =>
    intro H locs ls z10 l1_10 g100_10 g101_10 g102_10 g103_10 g104_10 g105_10 g106_10 g107_10 g108_10 g109_10 g110_10 g111_10 g112_10 g116_10 x1_10 x113_10 x114_10 x115_10 x138_10 x98_10 x99_10 hfh_10_0 hfh_10_1 hfh_10_98 hfh_10_99 hfh_10_100 hfh_10_101 hfh_10_102 hfh_10_103 hfh_10_104 hfh_10_105 hfh_10_106 hfh_10_107 hfh_10_108 hfh_10_109 hfh_10_110 hfh_10_111 hfh_10_112 hfh_10_113 hfh_10_114 hfh_10_115 hfh_10_116 hfh_10_138 hlh_10 hrh_10 hl hS hD hP hsp
    unfold lp_vm_load_10 at hsp
    try dsimp only at hsp
    refine lv_iload_n hx hb dX13_load_10 rfl (lv_at hl 0 rfl) ?_
    refine lv_aload_n hx hb dX13_load_11 rfl (lv_at hl 1 rfl) ?_
    refine va_get (D := (dC, dI)) (ci := 13) (v := .int x1_10) (C := RX13) (T := TX13) (N := 155) hx hb hts uV_h9_X13 hown hK hP 0 rfl rfl 1 (by decide) (hts (.fieldLink RX13 312 "ClassMillModel" "taped" "I") mw_h9_391) (fun _ h9 => h9) hfh_10_1 dX13_load_12 ?_
    refine lv_icmp_ge (tgt := 36) hx hb dX13_load_15 (by decide) (fun c_3 => ?_) (fun c_3 => ?_)
    · rw [if_pos c_3] at hsp
      refine lv_aload_n hx hb dX13_load_36 rfl (lv_at hl 1 rfl) ?_
      refine lv_iconst (v := 0) hx hb dX13_load_37 (by decide) ?_
      refine va_put (D := (dC, dI)) (ci := 13) (v := .int 0) (ty := .int) (C := RX13) (T := TX13) (N := 155) hx hb hts uV_h9_X13 tyX13 tyX13_ok nmX13 hown hK hP hD hS 0 rfl rfl 1 (by decide) (hts (.fieldLink RX13 312 "ClassMillModel" "taped" "I") mw_h9_391) (fun _ h9 => h9) rfl (by decide +kernel) rfl rfl (by rw [hlh_10]; decide) dX13_load_38 ?_
      clear hP hD hS
      intro H locs hP hD hS
      obtain ⟨fs_4, efs_4⟩ : ∃ zf : List Value, zf = z10.set 1 (.int 0) := ⟨_, rfl⟩
      rw [← efs_4] at hP hD
      have hlfs_4 : fs_4.length = 155 := by rw [efs_4, List.length_set]; exact hlh_10
      have hfs_4_0 : fs_4[0]? = some (.ref qf0) := by rw [efs_4, List.getElem?_set_ne (by decide)]; exact hfh_10_0
      have hfs_4_98 : fs_4[98]? = some (.int x98_10) := by rw [efs_4, List.getElem?_set_ne (by decide)]; exact hfh_10_98
      have hfs_4_99 : fs_4[99]? = some (.int x99_10) := by rw [efs_4, List.getElem?_set_ne (by decide)]; exact hfh_10_99
      have hfs_4_100 : fs_4[100]? = some (.ref qf100) := by rw [efs_4, List.getElem?_set_ne (by decide)]; exact hfh_10_100
      have hfs_4_101 : fs_4[101]? = some (.ref qf101) := by rw [efs_4, List.getElem?_set_ne (by decide)]; exact hfh_10_101
      have hfs_4_102 : fs_4[102]? = some (.ref qf102) := by rw [efs_4, List.getElem?_set_ne (by decide)]; exact hfh_10_102
      have hfs_4_103 : fs_4[103]? = some (.ref qf103) := by rw [efs_4, List.getElem?_set_ne (by decide)]; exact hfh_10_103
      have hfs_4_104 : fs_4[104]? = some (.ref qf104) := by rw [efs_4, List.getElem?_set_ne (by decide)]; exact hfh_10_104
      have hfs_4_105 : fs_4[105]? = some (.ref qf105) := by rw [efs_4, List.getElem?_set_ne (by decide)]; exact hfh_10_105
      have hfs_4_106 : fs_4[106]? = some (.ref qf106) := by rw [efs_4, List.getElem?_set_ne (by decide)]; exact hfh_10_106
      have hfs_4_107 : fs_4[107]? = some (.ref qf107) := by rw [efs_4, List.getElem?_set_ne (by decide)]; exact hfh_10_107
      have hfs_4_108 : fs_4[108]? = some (.ref qf108) := by rw [efs_4, List.getElem?_set_ne (by decide)]; exact hfh_10_108
      have hfs_4_109 : fs_4[109]? = some (.ref qf109) := by rw [efs_4, List.getElem?_set_ne (by decide)]; exact hfh_10_109
      have hfs_4_110 : fs_4[110]? = some (.ref qf110) := by rw [efs_4, List.getElem?_set_ne (by decide)]; exact hfh_10_110
      have hfs_4_111 : fs_4[111]? = some (.ref qf111) := by rw [efs_4, List.getElem?_set_ne (by decide)]; exact hfh_10_111
      have hfs_4_112 : fs_4[112]? = some (.ref qf112) := by rw [efs_4, List.getElem?_set_ne (by decide)]; exact hfh_10_112
      have hfs_4_113 : fs_4[113]? = some (.int x113_10) := by rw [efs_4, List.getElem?_set_ne (by decide)]; exact hfh_10_113
      have hfs_4_114 : fs_4[114]? = some (.int x114_10) := by rw [efs_4, List.getElem?_set_ne (by decide)]; exact hfh_10_114
      have hfs_4_115 : fs_4[115]? = some (.int x115_10) := by rw [efs_4, List.getElem?_set_ne (by decide)]; exact hfh_10_115
      have hfs_4_116 : fs_4[116]? = some (.ref qf116) := by rw [efs_4, List.getElem?_set_ne (by decide)]; exact hfh_10_116
      have hfs_4_138 : fs_4[138]? = some (.int x138_10) := by rw [efs_4, List.getElem?_set_ne (by decide)]; exact hfh_10_138
      have hfs_4_1 : fs_4[1]? = some (.int 0) := by rw [efs_4, List.getElem?_set_self (by rw [hlh_10]; decide)]
      replace hP : va_P (dC, dI) vwCl [(h0, .inr (13, fs_4)), (qf103, .inl (cf103, 8, .inl g103_10)), (qf112, .inl (cf112, 6000, .inl g112_10)), (qf102, .inl (cf102, 2048, .inl g102_10)), (qf104, .inl (cf104, 8, .inl g104_10)), (qf105, .inl (cf105, 8, .inl g105_10)), (qf106, .inl (cf106, 8, .inl g106_10)), (qf107, .inl (cf107, 96, .inl g107_10)), (qf108, .inl (cf108, 8, .inl g108_10)), (qf109, .inl (cf109, 96, .inl g109_10)), (qf110, .inl (cf110, 96, .inl g110_10)), (qf111, .inl (cf111, 96, .inl g111_10)), (qf100, .inl (cf100, 48000, .inl g100_10)), (qf101, .inl (cf101, 8, .inl g101_10)), (qf116, .inl (cf116, 309, .inl g116_10)), (qf0, .inl (cf0, 6000, .inl f0))] H := hP
      replace hD : va_D A [(h0, .inr (13, fs_4)), (qf103, .inl (cf103, 8, .inl g103_10)), (qf112, .inl (cf112, 6000, .inl g112_10)), (qf102, .inl (cf102, 2048, .inl g102_10)), (qf104, .inl (cf104, 8, .inl g104_10)), (qf105, .inl (cf105, 8, .inl g105_10)), (qf106, .inl (cf106, 8, .inl g106_10)), (qf107, .inl (cf107, 96, .inl g107_10)), (qf108, .inl (cf108, 8, .inl g108_10)), (qf109, .inl (cf109, 96, .inl g109_10)), (qf110, .inl (cf110, 96, .inl g110_10)), (qf111, .inl (cf111, 96, .inl g111_10)), (qf100, .inl (cf100, 48000, .inl g100_10)), (qf101, .inl (cf101, 8, .inl g101_10)), (qf116, .inl (cf116, 309, .inl g116_10)), (qf0, .inl (cf0, 6000, .inl f0))] := hD
      have hrs_5 : ∀ j : Nat, j ≠ 1 → j ≠ 113 → j ≠ 114 → j ≠ 115 → j ≠ 138 → j ≠ 98 → j ≠ 99 → fs_4[j]? = zs[j]? := fun j g1 g113 g114 g115 g138 g98 g99 => ((congrArg (fun z : List Value => z[j]?) efs_4).trans (List.getElem?_set_ne (Ne.symm g1))).trans (hrh_10 j g1 g113 g114 g115 g138 g98 g99)
      refine lv_aload_n hx hb dX13_load_41 rfl (lv_at hl 1 rfl) ?_
      obtain ⟨⟨u1_0, g901_1, g901_2, g901_3, g901_4, g901_5, g901_6, g901_7, g901_8, g901_9, g901_10, g901_11, g901_12, g901_13, u1_14, u1_15, u1_16, u1_17, u1_18⟩, hu_1, hsp⟩ := ox_bind hsp
      try dsimp only at hsp
      have hPc := hP.sub (ws' := [(h0, .inr (13, fs_4)), (qf103, .inl (cf103, 8, .inl g103_10)), (qf112, .inl (cf112, 6000, .inl g112_10)), (qf102, .inl (cf102, 2048, .inl g102_10)), (qf104, .inl (cf104, 8, .inl g104_10)), (qf105, .inl (cf105, 8, .inl g105_10)), (qf106, .inl (cf106, 8, .inl g106_10)), (qf107, .inl (cf107, 96, .inl g107_10)), (qf108, .inl (cf108, 8, .inl g108_10)), (qf109, .inl (cf109, 96, .inl g109_10)), (qf110, .inl (cf110, 96, .inl g110_10)), (qf111, .inl (cf111, 96, .inl g111_10)), (qf100, .inl (cf100, 48000, .inl g100_10)), (qf101, .inl (cf101, 8, .inl g101_10)), (qf116, .inl (cf116, 309, .inl g116_10))]) [0, 1, 2, 3, 4, 5, 6, 7, 8, 9, 10, 11, 12, 13, 14] rfl
      have hDc := hD.sub (ws' := [(h0, .inr (13, fs_4)), (qf103, .inl (cf103, 8, .inl g103_10)), (qf112, .inl (cf112, 6000, .inl g112_10)), (qf102, .inl (cf102, 2048, .inl g102_10)), (qf104, .inl (cf104, 8, .inl g104_10)), (qf105, .inl (cf105, 8, .inl g105_10)), (qf106, .inl (cf106, 8, .inl g106_10)), (qf107, .inl (cf107, 96, .inl g107_10)), (qf108, .inl (cf108, 8, .inl g108_10)), (qf109, .inl (cf109, 96, .inl g109_10)), (qf110, .inl (cf110, 96, .inl g110_10)), (qf111, .inl (cf111, 96, .inl g111_10)), (qf100, .inl (cf100, 48000, .inl g100_10)), (qf101, .inl (cf101, 8, .inl g101_10)), (qf116, .inl (cf116, 309, .inl g116_10))]) [0, 1, 2, 3, 4, 5, 6, 7, 8, 9, 10, 11, 12, 13, 14] (by decide) rfl
      have hKc := hK.sub (tys' := [(cf103, .int), (cf112, .int), (cf102, .int), (cf104, .int), (cf105, .int), (cf106, .int), (cf107, .int), (cf108, .int), (cf109, .int), (cf110, .int), (cf111, .int), (cf100, .int), (cf101, .int), (cf116, .int)]) [0, 1, 2, 3, 4, 5, 6, 7, 8, 9, 10, 11, 12, 13] rfl
      have hFc := va_free (wc := [(h0, .inr (13, fs_4)), (qf103, .inl (cf103, 8, .inl g103_10)), (qf112, .inl (cf112, 6000, .inl g112_10)), (qf102, .inl (cf102, 2048, .inl g102_10)), (qf104, .inl (cf104, 8, .inl g104_10)), (qf105, .inl (cf105, 8, .inl g105_10)), (qf106, .inl (cf106, 8, .inl g106_10)), (qf107, .inl (cf107, 96, .inl g107_10)), (qf108, .inl (cf108, 8, .inl g108_10)), (qf109, .inl (cf109, 96, .inl g109_10)), (qf110, .inl (cf110, 96, .inl g110_10)), (qf111, .inl (cf111, 96, .inl g111_10)), (qf100, .inl (cf100, 48000, .inl g100_10)), (qf101, .inl (cf101, 8, .inl g101_10)), (qf116, .inl (cf116, 309, .inl g116_10))]) hD hS hA [0, 1, 2, 3, 4, 5, 6, 7, 8, 9, 10, 11, 12, 13, 14] rfl
      refine va_calli (va_runV (As := []) (rest := []) ⟨hx, hb, hml, hown, hts⟩ (vm_loaded l dC dI H.size h0 fs_4 x98_10 x99_10 qf100 qf101 qf102 qf103 qf104 qf105 qf106 qf107 qf108 qf109 qf110 qf111 qf112 x113_10 x114_10 x115_10 qf116 x138_10 cf103 g103_10 cf112 g112_10 cf102 g102_10 cf104 g104_10 cf105 g105_10 cf106 g106_10 cf107 g107_10 cf108 g108_10 cf109 g109_10 cf110 g110_10 cf111 g111_10 cf100 g100_10 cf101 g101_10 cf116 g116_10 nS477 fS477 hS477 qS477 tS477 nf u1_0 g901_1 g901_2 g901_3 g901_4 g901_5 g901_6 g901_7 g901_8 g901_9 g901_10 g901_11 g901_12 g901_13 u1_14 u1_15 u1_16 u1_17 u1_18 hlfs_4 hfs_4_98 hfs_4_99 hfs_4_100 hfs_4_101 hfs_4_102 hfs_4_103 hfs_4_104 hfs_4_105 hfs_4_106 hfs_4_107 hfs_4_108 hfs_4_109 hfs_4_110 hfs_4_111 hfs_4_112 hfs_4_113 hfs_4_114 hfs_4_115 hfs_4_116 hfs_4_138 hu_1) (cwV 0 hts gv_h9_94 rfl rfl rfl (by decide +kernel) ⟨Nat.le_of_ble_eq_true rfl, Nat.le_of_ble_eq_true rfl⟩) ⟨fun a U g mk q => by obtain ⟨q0, q1, qP, qK, qD, qhZWS477, qhZRS477⟩ := q; exact ⟨q0, q1, qP, va_K.moved (u := U) (U := U.calling g mk a) (Vm.Alike.refl U.vm) qK, qD, pz_W.moved (u := U) (U := U.calling g mk a) (Vm.Alike.refl U.vm) qhZWS477, vk_R.same rfl qhZRS477⟩, va_recv hKc hPc (ci := 13) (q0 := 0) rfl rfl, fun U hU hW => ⟨rfl, by rw [hU], by rw [hU]; exact hPc, va_K.moved hW.alike hKc, hDc.weaken (fun _ _ _ _ => trivial), by rw [hU]; exact ((pz_W.moved hW.alike hZWS477).kept hS.2.1).narrow hFc, vk_R.warm hW hZRS477⟩⟩ rfl rfl hl.1 rfl (lv_room (Nat.le_of_ble_eq_true rfl)) dX13_load_42 ⟨Nat.le_of_ble_eq_true rfl, Nat.le_of_ble_eq_true rfl⟩) hS (fun q _ h => hFc q h) hFc ?_
      clear hS
      intro r_6 u t H1 locs ht hvm hw hB hz1 hk1 hS
      obtain ⟨z_1, rfl⟩ : ∃ z, z = u := ⟨_, rfl⟩
      obtain ⟨hP1, hK1, hD1⟩ := hB
      rw [ht] at hP1
      have hK1 := va_K.moved hvm.symm hK1
      try dsimp only at hw
      have hPD := va_join (wr := [(qf0, .inl (cf0, 6000, .inl f0))]) (w1 := [(h0, .inr (13, z_1)), (qf103, .inl (cf103, 8, .inl g901_4)), (qf112, .inl (cf112, 6000, .inl g112_10)), (qf102, .inl (cf102, 2048, .inl g901_3)), (qf104, .inl (cf104, 8, .inl g901_5)), (qf105, .inl (cf105, 8, .inl g901_6)), (qf106, .inl (cf106, 8, .inl g901_7)), (qf107, .inl (cf107, 96, .inl g901_8)), (qf108, .inl (cf108, 8, .inl g901_9)), (qf109, .inl (cf109, 96, .inl g901_10)), (qf110, .inl (cf110, 96, .inl g901_11)), (qf111, .inl (cf111, 96, .inl g901_12)), (qf100, .inl (cf100, 48000, .inl g901_1)), (qf101, .inl (cf101, 8, .inl g901_2)), (qf116, .inl (cf116, 309, .inl g901_13))]) hP hD [0, 1, 2, 3, 4, 5, 6, 7, 8, 9, 10, 11, 12, 13, 14] [15] rfl rfl (by decide) (by decide) hk1 hFc hP1 hD1
      clear hP hD
      obtain ⟨hP, hD⟩ := hPD
      replace hK := (hK.sub (tys' := [(cf0, .int)]) [14] rfl).app hK1
      clear hPc hDc hKc hFc hP1 hK1 hD1 hz1 hk1 ht hvm
      generalize H1 = H at hP hS ⊢
      replace hP : va_P (dC, dI) vwCl [(qf0, .inl (cf0, 6000, .inl f0)), (h0, .inr (13, z_1)), (qf103, .inl (cf103, 8, .inl g901_4)), (qf112, .inl (cf112, 6000, .inl g112_10)), (qf102, .inl (cf102, 2048, .inl g901_3)), (qf104, .inl (cf104, 8, .inl g901_5)), (qf105, .inl (cf105, 8, .inl g901_6)), (qf106, .inl (cf106, 8, .inl g901_7)), (qf107, .inl (cf107, 96, .inl g901_8)), (qf108, .inl (cf108, 8, .inl g901_9)), (qf109, .inl (cf109, 96, .inl g901_10)), (qf110, .inl (cf110, 96, .inl g901_11)), (qf111, .inl (cf111, 96, .inl g901_12)), (qf100, .inl (cf100, 48000, .inl g901_1)), (qf101, .inl (cf101, 8, .inl g901_2)), (qf116, .inl (cf116, 309, .inl g901_13))] H := hP
      replace hD : va_D A [(qf0, .inl (cf0, 6000, .inl f0)), (h0, .inr (13, z_1)), (qf103, .inl (cf103, 8, .inl g901_4)), (qf112, .inl (cf112, 6000, .inl g112_10)), (qf102, .inl (cf102, 2048, .inl g901_3)), (qf104, .inl (cf104, 8, .inl g901_5)), (qf105, .inl (cf105, 8, .inl g901_6)), (qf106, .inl (cf106, 8, .inl g901_7)), (qf107, .inl (cf107, 96, .inl g901_8)), (qf108, .inl (cf108, 8, .inl g901_9)), (qf109, .inl (cf109, 96, .inl g901_10)), (qf110, .inl (cf110, 96, .inl g901_11)), (qf111, .inl (cf111, 96, .inl g901_12)), (qf100, .inl (cf100, 48000, .inl g901_1)), (qf101, .inl (cf101, 8, .inl g901_2)), (qf116, .inl (cf116, 309, .inl g901_13))] := hD
      replace hK : va_K (dC, dI) vwCl [(cf0, .int), (cf103, .int), (cf112, .int), (cf102, .int), (cf104, .int), (cf105, .int), (cf106, .int), (cf107, .int), (cf108, .int), (cf109, .int), (cf110, .int), (cf111, .int), (cf100, .int), (cf101, .int), (cf116, .int)] s := hK
      obtain ⟨hwa_1, hln_1, hre_1, hch_1_114, hch_1_115, hch_1_138, hch_1_98, hch_1_99⟩ := hw
      have hfk_1_0 : z_1[0]? = some (.ref qf0) := (hre_1 0 (by decide) (by decide) (by decide) (by decide) (by decide)).trans (hfs_4_0)
      have hfk_1_1 : z_1[1]? = some (.int 0) := (hre_1 1 (by decide) (by decide) (by decide) (by decide) (by decide)).trans (hfs_4_1)
      have hfk_1_100 : z_1[100]? = some (.ref qf100) := (hre_1 100 (by decide) (by decide) (by decide) (by decide) (by decide)).trans (hfs_4_100)
      have hfk_1_101 : z_1[101]? = some (.ref qf101) := (hre_1 101 (by decide) (by decide) (by decide) (by decide) (by decide)).trans (hfs_4_101)
      have hfk_1_102 : z_1[102]? = some (.ref qf102) := (hre_1 102 (by decide) (by decide) (by decide) (by decide) (by decide)).trans (hfs_4_102)
      have hfk_1_103 : z_1[103]? = some (.ref qf103) := (hre_1 103 (by decide) (by decide) (by decide) (by decide) (by decide)).trans (hfs_4_103)
      have hfk_1_104 : z_1[104]? = some (.ref qf104) := (hre_1 104 (by decide) (by decide) (by decide) (by decide) (by decide)).trans (hfs_4_104)
      have hfk_1_105 : z_1[105]? = some (.ref qf105) := (hre_1 105 (by decide) (by decide) (by decide) (by decide) (by decide)).trans (hfs_4_105)
      have hfk_1_106 : z_1[106]? = some (.ref qf106) := (hre_1 106 (by decide) (by decide) (by decide) (by decide) (by decide)).trans (hfs_4_106)
      have hfk_1_107 : z_1[107]? = some (.ref qf107) := (hre_1 107 (by decide) (by decide) (by decide) (by decide) (by decide)).trans (hfs_4_107)
      have hfk_1_108 : z_1[108]? = some (.ref qf108) := (hre_1 108 (by decide) (by decide) (by decide) (by decide) (by decide)).trans (hfs_4_108)
      have hfk_1_109 : z_1[109]? = some (.ref qf109) := (hre_1 109 (by decide) (by decide) (by decide) (by decide) (by decide)).trans (hfs_4_109)
      have hfk_1_110 : z_1[110]? = some (.ref qf110) := (hre_1 110 (by decide) (by decide) (by decide) (by decide) (by decide)).trans (hfs_4_110)
      have hfk_1_111 : z_1[111]? = some (.ref qf111) := (hre_1 111 (by decide) (by decide) (by decide) (by decide) (by decide)).trans (hfs_4_111)
      have hfk_1_112 : z_1[112]? = some (.ref qf112) := (hre_1 112 (by decide) (by decide) (by decide) (by decide) (by decide)).trans (hfs_4_112)
      have hfk_1_113 : z_1[113]? = some (.int x113_10) := (hre_1 113 (by decide) (by decide) (by decide) (by decide) (by decide)).trans (hfs_4_113)
      have hfk_1_116 : z_1[116]? = some (.ref qf116) := (hre_1 116 (by decide) (by decide) (by decide) (by decide) (by decide)).trans (hfs_4_116)
      have hrq_1 : ∀ j : Nat, j ≠ 1 → j ≠ 113 → j ≠ 114 → j ≠ 115 → j ≠ 138 → j ≠ 98 → j ≠ 99 → z_1[j]? = zs[j]? := fun j g1 g113 g114 g115 g138 g98 g99 => (hre_1 j g114 g115 g138 g98 g99).trans (hrs_5 j g1 g113 g114 g115 g138 g98 g99)
      obtain rfl := hwa_1
      have hr0 := Option.some.inj hsp
      clear hsp
      obtain ⟨hq0, hr1⟩ := Prod.mk.inj hr0
      clear hr0
      obtain ⟨hq1, hr2⟩ := Prod.mk.inj hr1
      clear hr1
      obtain ⟨hq2, hr3⟩ := Prod.mk.inj hr2
      clear hr2
      obtain ⟨hq3, hr4⟩ := Prod.mk.inj hr3
      clear hr3
      obtain ⟨hq4, hr5⟩ := Prod.mk.inj hr4
      clear hr4
      obtain ⟨hq5, hr6⟩ := Prod.mk.inj hr5
      clear hr5
      obtain ⟨hq6, hr7⟩ := Prod.mk.inj hr6
      clear hr6
      obtain ⟨hq7, hr8⟩ := Prod.mk.inj hr7
      clear hr7
      obtain ⟨hq8, hr9⟩ := Prod.mk.inj hr8
      clear hr8
      obtain ⟨hq9, hr10⟩ := Prod.mk.inj hr9
      clear hr9
      obtain ⟨hq10, hr11⟩ := Prod.mk.inj hr10
      clear hr10
      obtain ⟨hq11, hr12⟩ := Prod.mk.inj hr11
      clear hr11
      obtain ⟨hq12, hr13⟩ := Prod.mk.inj hr12
      clear hr12
      obtain ⟨hq13, hr14⟩ := Prod.mk.inj hr13
      clear hr13
      obtain ⟨hq14, hr15⟩ := Prod.mk.inj hr14
      clear hr14
      obtain ⟨hq15, hr16⟩ := Prod.mk.inj hr15
      clear hr15
      obtain ⟨hq16, hr17⟩ := Prod.mk.inj hr16
      clear hr16
      obtain ⟨hq17, hr18⟩ := Prod.mk.inj hr17
      clear hr17
      obtain ⟨hq18, hr19⟩ := Prod.mk.inj hr18
      clear hr18
      obtain ⟨hq19, hr20⟩ := Prod.mk.inj hr19
      clear hr19
      obtain ⟨hq20, hr21⟩ := Prod.mk.inj hr20
      clear hr20
      subst hq0
      subst hq1
      subst hq2
      subst hq3
      subst hq4
      subst hq5
      subst hq6
      subst hq7
      subst hq8
      subst hq9
      subst hq10
      subst hq11
      subst hq12
      subst hq13
      subst hq14
      subst hq15
      subst hq16
      subst hq17
      subst hq18
      subst hq19
      subst hq20
      subst hr21
      have hP9 := hP.sub (ws' := [(h0, .inr (13, z_1)), (qf103, .inl (cf103, 8, .inl g901_4)), (qf112, .inl (cf112, 6000, .inl g112_10)), (qf102, .inl (cf102, 2048, .inl g901_3)), (qf104, .inl (cf104, 8, .inl g901_5)), (qf105, .inl (cf105, 8, .inl g901_6)), (qf106, .inl (cf106, 8, .inl g901_7)), (qf107, .inl (cf107, 96, .inl g901_8)), (qf108, .inl (cf108, 8, .inl g901_9)), (qf109, .inl (cf109, 96, .inl g901_10)), (qf110, .inl (cf110, 96, .inl g901_11)), (qf111, .inl (cf111, 96, .inl g901_12)), (qf100, .inl (cf100, 48000, .inl g901_1)), (qf101, .inl (cf101, 8, .inl g901_2)), (qf116, .inl (cf116, 309, .inl g901_13)), (qf0, .inl (cf0, 6000, .inl f0))]) [1, 2, 3, 4, 5, 6, 7, 8, 9, 10, 11, 12, 13, 14, 15, 0] rfl
      have hD9 := hD.sub (ws' := [(h0, .inr (13, z_1)), (qf103, .inl (cf103, 8, .inl g901_4)), (qf112, .inl (cf112, 6000, .inl g112_10)), (qf102, .inl (cf102, 2048, .inl g901_3)), (qf104, .inl (cf104, 8, .inl g901_5)), (qf105, .inl (cf105, 8, .inl g901_6)), (qf106, .inl (cf106, 8, .inl g901_7)), (qf107, .inl (cf107, 96, .inl g901_8)), (qf108, .inl (cf108, 8, .inl g901_9)), (qf109, .inl (cf109, 96, .inl g901_10)), (qf110, .inl (cf110, 96, .inl g901_11)), (qf111, .inl (cf111, 96, .inl g901_12)), (qf100, .inl (cf100, 48000, .inl g901_1)), (qf101, .inl (cf101, 8, .inl g901_2)), (qf116, .inl (cf116, 309, .inl g901_13)), (qf0, .inl (cf0, 6000, .inl f0))]) [1, 2, 3, 4, 5, 6, 7, 8, 9, 10, 11, 12, 13, 14, 15, 0] (by decide) rfl
      have hK9 := hK.sub (tys' := [(cf103, .int), (cf112, .int), (cf102, .int), (cf104, .int), (cf105, .int), (cf106, .int), (cf107, .int), (cf108, .int), (cf109, .int), (cf110, .int), (cf111, .int), (cf100, .int), (cf101, .int), (cf116, .int), (cf0, .int)]) [1, 2, 3, 4, 5, 6, 7, 8, 9, 10, 11, 12, 13, 14, 0] rfl
      exact W.iret hx hb hr (fun t ht hW => ⟨⟨(u1_0), (z_1), rfl, ⟨rfl, hln_1, hrq_1, hfk_1_1, hfk_1_113, hch_1_114, hch_1_115, hch_1_138, hch_1_98, hch_1_99⟩, by rw [ht]; exact hP9, va_K.moved hW.alike hK9, hD9⟩, hS.F ht⟩) hS.2.2 dX13_load_45
    · rw [if_neg c_3] at hsp
      refine lv_aload_n hx hb dX13_load_18 rfl (lv_at hl 1 rfl) ?_
      refine va_get (D := (dC, dI)) (ci := 13) (v := .ref qf112) (C := RX13) (T := TX13) (N := 155) hx hb hts uV_h9_X13 hown hK hP 0 rfl rfl 112 (by decide) (hts (.fieldLink RX13 245 "ClassMillModel" "look" "[I") mw_h9_242) (fun _ h9 => h9) hfh_10_112 dX13_load_19 ?_
      refine lv_iload_n hx hb dX13_load_22 rfl (lv_at hl 0 rfl) ?_
      refine lv_aload_n hx hb dX13_load_23 rfl (lv_at hl 1 rfl) ?_
      refine va_get (D := (dC, dI)) (ci := 13) (v := .ref qf0) (C := RX13) (T := TX13) (N := 155) hx hb hts uV_h9_X13 hown hK hP 0 rfl rfl 0 (by decide) (hts (.fieldLink RX13 9 "ClassMillModel" "tape" "[I") mw_h9_476) (fun _ h9 => h9) hfh_10_0 dX13_load_24 ?_
      refine lv_iload_n hx hb dX13_load_27 rfl (lv_at hl 0 rfl) ?_
      obtain ⟨hi_7, hsp⟩ := ox_in hsp
      refine va_iald hx hb hK hP 15 14 rfl rfl (i := l1_10) hi_7 dX13_load_28 ?_
      obtain ⟨hi_8, hsp⟩ := ox_in hsp
      refine va_iast hx hb hK hP hD hS 2 1 rfl rfl (i := l1_10) (x := (f0 (l1_10 : Int32).toNatClampNeg)) hi_8 dX13_load_29 ?_
      clear hP hD hS
      intro H locs hP hD hS
      replace hP : va_P (dC, dI) vwCl [(h0, .inr (13, z10)), (qf103, .inl (cf103, 8, .inl g103_10)), (qf112, .inl (cf112, 6000, .inl (upd g112_10 (l1_10 : Int32).toNatClampNeg (f0 (l1_10 : Int32).toNatClampNeg)))), (qf102, .inl (cf102, 2048, .inl g102_10)), (qf104, .inl (cf104, 8, .inl g104_10)), (qf105, .inl (cf105, 8, .inl g105_10)), (qf106, .inl (cf106, 8, .inl g106_10)), (qf107, .inl (cf107, 96, .inl g107_10)), (qf108, .inl (cf108, 8, .inl g108_10)), (qf109, .inl (cf109, 96, .inl g109_10)), (qf110, .inl (cf110, 96, .inl g110_10)), (qf111, .inl (cf111, 96, .inl g111_10)), (qf100, .inl (cf100, 48000, .inl g100_10)), (qf101, .inl (cf101, 8, .inl g101_10)), (qf116, .inl (cf116, 309, .inl g116_10)), (qf0, .inl (cf0, 6000, .inl f0))] H := hP
      replace hD : va_D A [(h0, .inr (13, z10)), (qf103, .inl (cf103, 8, .inl g103_10)), (qf112, .inl (cf112, 6000, .inl (upd g112_10 (l1_10 : Int32).toNatClampNeg (f0 (l1_10 : Int32).toNatClampNeg)))), (qf102, .inl (cf102, 2048, .inl g102_10)), (qf104, .inl (cf104, 8, .inl g104_10)), (qf105, .inl (cf105, 8, .inl g105_10)), (qf106, .inl (cf106, 8, .inl g106_10)), (qf107, .inl (cf107, 96, .inl g107_10)), (qf108, .inl (cf108, 8, .inl g108_10)), (qf109, .inl (cf109, 96, .inl g109_10)), (qf110, .inl (cf110, 96, .inl g110_10)), (qf111, .inl (cf111, 96, .inl g111_10)), (qf100, .inl (cf100, 48000, .inl g100_10)), (qf101, .inl (cf101, 8, .inl g101_10)), (qf116, .inl (cf116, 309, .inl g116_10)), (qf0, .inl (cf0, 6000, .inl f0))] := hD
      refine lv_iinc (v := (l1_10 + 1)) (lv' := [(1, .int (l1_10 + 1)), (0, .ref h0)]) hx hb dX13_load_30 hl (k := 0) rfl rfl (by decide) rfl (fun ls hl => ?_)
      refine lv_goto (tgt := 10) hx hb dX13_load_33 (by decide) ?_
      exact ih_10 H locs ls z10 (l1_10 + 1) g100_10 g101_10 g102_10 g103_10 g104_10 g105_10 g106_10 g107_10 g108_10 g109_10 g110_10 g111_10 (upd g112_10 (l1_10 : Int32).toNatClampNeg (f0 (l1_10 : Int32).toNatClampNeg)) g116_10 x1_10 x113_10 x114_10 x115_10 x138_10 x98_10 x99_10 (hfh_10_0) (hfh_10_1) (hfh_10_98) (hfh_10_99) (hfh_10_100) (hfh_10_101) (hfh_10_102) (hfh_10_103) (hfh_10_104) (hfh_10_105) (hfh_10_106) (hfh_10_107) (hfh_10_108) (hfh_10_109) (hfh_10_110) (hfh_10_111) (hfh_10_112) (hfh_10_113) (hfh_10_114) (hfh_10_115) (hfh_10_116) (hfh_10_138) hlh_10 hrh_10 (lv_sub hl [0, 1] rfl) hS (hD.sub (ws' := [(h0, .inr (13, z10)), (qf103, .inl (cf103, 8, .inl g103_10)), (qf112, .inl (cf112, 6000, .inl (upd g112_10 (l1_10 : Int32).toNatClampNeg (f0 (l1_10 : Int32).toNatClampNeg)))), (qf102, .inl (cf102, 2048, .inl g102_10)), (qf104, .inl (cf104, 8, .inl g104_10)), (qf105, .inl (cf105, 8, .inl g105_10)), (qf106, .inl (cf106, 8, .inl g106_10)), (qf107, .inl (cf107, 96, .inl g107_10)), (qf108, .inl (cf108, 8, .inl g108_10)), (qf109, .inl (cf109, 96, .inl g109_10)), (qf110, .inl (cf110, 96, .inl g110_10)), (qf111, .inl (cf111, 96, .inl g111_10)), (qf100, .inl (cf100, 48000, .inl g100_10)), (qf101, .inl (cf101, 8, .inl g101_10)), (qf116, .inl (cf116, 309, .inl g116_10)), (qf0, .inl (cf0, 6000, .inl f0))]) [0, 1, 2, 3, 4, 5, 6, 7, 8, 9, 10, 11, 12, 13, 14, 15] (by decide) rfl) (hP.sub (ws' := [(h0, .inr (13, z10)), (qf103, .inl (cf103, 8, .inl g103_10)), (qf112, .inl (cf112, 6000, .inl (upd g112_10 (l1_10 : Int32).toNatClampNeg (f0 (l1_10 : Int32).toNatClampNeg)))), (qf102, .inl (cf102, 2048, .inl g102_10)), (qf104, .inl (cf104, 8, .inl g104_10)), (qf105, .inl (cf105, 8, .inl g105_10)), (qf106, .inl (cf106, 8, .inl g106_10)), (qf107, .inl (cf107, 96, .inl g107_10)), (qf108, .inl (cf108, 8, .inl g108_10)), (qf109, .inl (cf109, 96, .inl g109_10)), (qf110, .inl (cf110, 96, .inl g110_10)), (qf111, .inl (cf111, 96, .inl g111_10)), (qf100, .inl (cf100, 48000, .inl g100_10)), (qf101, .inl (cf101, 8, .inl g101_10)), (qf116, .inl (cf116, 309, .inl g116_10)), (qf0, .inl (cf0, 6000, .inl f0))]) [0, 1, 2, 3, 4, 5, 6, 7, 8, 9, 10, 11, 12, 13, 14, 15] rfl) hsp
def lp_vm_keep_26 (nf n : Nat) (a1 : Int32) (v93 : Int32) (v98 : Int32) (v99 : Int32) (v113 : Int32) (v114 : Int32) (v115 : Int32) (v138 : Int32) (f92 : Nat → Int32) (f103 : Nat → Int32) (f112 : Nat → Int32) (f102 : Nat → Int32) (f104 : Nat → Int32) (f105 : Nat → Int32) (f106 : Nat → Int32) (f107 : Nat → Int32) (f108 : Nat → Int32) (f109 : Nat → Int32) (f110 : Nat → Int32) (f111 : Nat → Int32) (f100 : Nat → Int32) (f101 : Nat → Int32) (f116 : Nat → Int32) (f91 : Nat → Int32) (nS477 : Nat) (fS477 : Nat → Int32)  (l1_26 : Int32) (l2_26 : Int32) (g100_26 : Nat → Int32) (g101_26 : Nat → Int32) (g102_26 : Nat → Int32) (g103_26 : Nat → Int32) (g104_26 : Nat → Int32) (g105_26 : Nat → Int32) (g106_26 : Nat → Int32) (g107_26 : Nat → Int32) (g108_26 : Nat → Int32) (g109_26 : Nat → Int32) (g110_26 : Nat → Int32) (g111_26 : Nat → Int32) (g112_26 : Nat → Int32) (g116_26 : Nat → Int32) (x113_26 : Int32) (x114_26 : Int32) (x115_26 : Int32) (x138_26 : Int32) (x98_26 : Int32) (x99_26 : Int32) : Option (Int32 × (Nat → Int32) × (Nat → Int32) × (Nat → Int32) × (Nat → Int32) × (Nat → Int32) × (Nat → Int32) × (Nat → Int32) × (Nat → Int32) × (Nat → Int32) × (Nat → Int32) × (Nat → Int32) × (Nat → Int32) × (Nat → Int32) × (Nat → Int32) × Int32 × Int32 × Int32 × Int32 × Int32 × Int32) := match n with
  | 0 => none
  | n + 1 => (if x113_26 ≤ l2_26 then ((sp_vm_loaded nf x98_26 x99_26 x113_26 x138_26 g103_26 g112_26 g102_26 g104_26 g105_26 g106_26 g107_26 g108_26 g109_26 g110_26 g111_26 g100_26 g101_26 g116_26 nS477 fS477).bind (fun p1 => (some (p1.1, p1.2.1, p1.2.2.1, p1.2.2.2.1, p1.2.2.2.2.1, p1.2.2.2.2.2.1, p1.2.2.2.2.2.2.1, p1.2.2.2.2.2.2.2.1, p1.2.2.2.2.2.2.2.2.1, p1.2.2.2.2.2.2.2.2.2.1, p1.2.2.2.2.2.2.2.2.2.2.1, p1.2.2.2.2.2.2.2.2.2.2.2.1, p1.2.2.2.2.2.2.2.2.2.2.2.2.1, g112_26, p1.2.2.2.2.2.2.2.2.2.2.2.2.2.1, x113_26, p1.2.2.2.2.2.2.2.2.2.2.2.2.2.2.1, p1.2.2.2.2.2.2.2.2.2.2.2.2.2.2.2.1, p1.2.2.2.2.2.2.2.2.2.2.2.2.2.2.2.2.1, p1.2.2.2.2.2.2.2.2.2.2.2.2.2.2.2.2.2.1, p1.2.2.2.2.2.2.2.2.2.2.2.2.2.2.2.2.2.2)))) else (if ((6000 * l1_26) + l2_26) < 0 then none else if 48000 ≤ (((6000 * l1_26) + l2_26) : Int32).toNatClampNeg then none else (if l2_26 < 0 then none else if 6000 ≤ (l2_26 : Int32).toNatClampNeg then none else (lp_vm_keep_26 nf n a1 v93 v98 v99 v113 v114 v115 v138 f92 f103 f112 f102 f104 f105 f106 f107 f108 f109 f110 f111 f100 f101 f116 f91 nS477 fS477 l1_26 (l2_26 + 1) g100_26 g101_26 g102_26 g103_26 g104_26 g105_26 g106_26 g107_26 g108_26 g109_26 g110_26 g111_26 (upd g112_26 (l2_26 : Int32).toNatClampNeg (f91 (((6000 * l1_26) + l2_26) : Int32).toNatClampNeg)) g116_26 x113_26 x114_26 x115_26 x138_26 x98_26 x99_26))))
def sp_vm_keep (nf : Nat) (a1 : Int32) (v93 : Int32) (v98 : Int32) (v99 : Int32) (v113 : Int32) (v114 : Int32) (v115 : Int32) (v138 : Int32) (f92 : Nat → Int32) (f103 : Nat → Int32) (f112 : Nat → Int32) (f102 : Nat → Int32) (f104 : Nat → Int32) (f105 : Nat → Int32) (f106 : Nat → Int32) (f107 : Nat → Int32) (f108 : Nat → Int32) (f109 : Nat → Int32) (f110 : Nat → Int32) (f111 : Nat → Int32) (f100 : Nat → Int32) (f101 : Nat → Int32) (f116 : Nat → Int32) (f91 : Nat → Int32) (nS477 : Nat) (fS477 : Nat → Int32) : Option (Int32 × (Nat → Int32) × (Nat → Int32) × (Nat → Int32) × (Nat → Int32) × (Nat → Int32) × (Nat → Int32) × (Nat → Int32) × (Nat → Int32) × (Nat → Int32) × (Nat → Int32) × (Nat → Int32) × (Nat → Int32) × (Nat → Int32) × (Nat → Int32) × Int32 × Int32 × Int32 × Int32 × Int32 × Int32) := (if a1 < 0 then (some ((-1), f100, f101, f102, f103, f104, f105, f106, f107, f108, f109, f110, f111, f112, f116, v113, v114, v115, v138, v98, v99)) else (if a1 < v93 then (if a1 < 0 then none else if 8 ≤ (a1 : Int32).toNatClampNeg then none else (lp_vm_keep_26 nf nf a1 v93 v98 v99 v113 v114 v115 v138 f92 f103 f112 f102 f104 f105 f106 f107 f108 f109 f110 f111 f100 f101 f116 f91 nS477 fS477  a1 0 f100 f101 f102 f103 f104 f105 f106 f107 f108 f109 f110 f111 f112 f116 (f92 (a1 : Int32).toNatClampNeg) v114 v115 v138 v98 v99)) else (some ((-1), f100, f101, f102, f103, f104, f105, f106, f107, f108, f109, f110, f111, f112, f116, v113, v114, v115, v138, v98, v99))))
set_option maxHeartbeats 4000000 in
set_option maxRecDepth 100000 in
/-- ClassMillModel.keep -/
theorem vm_keep (l : Launch) (dC : Nat → ClassId) (dI : Nat → Nat → Nat) (sz : Nat) (h0 : Nat) (zs : (List Value)) (a1 : Int32) (qf91 : Nat) (qf92 : Nat) (v93 : Int32) (v98 : Int32) (v99 : Int32) (qf100 : Nat) (qf101 : Nat) (qf102 : Nat) (qf103 : Nat) (qf104 : Nat) (qf105 : Nat) (qf106 : Nat) (qf107 : Nat) (qf108 : Nat) (qf109 : Nat) (qf110 : Nat) (qf111 : Nat) (qf112 : Nat) (v113 : Int32) (v114 : Int32) (v115 : Int32) (qf116 : Nat) (v138 : Int32) (cf92 : ClassId) (f92 : (Nat → Int32)) (cf103 : ClassId) (f103 : (Nat → Int32)) (cf112 : ClassId) (f112 : (Nat → Int32)) (cf102 : ClassId) (f102 : (Nat → Int32)) (cf104 : ClassId) (f104 : (Nat → Int32)) (cf105 : ClassId) (f105 : (Nat → Int32)) (cf106 : ClassId) (f106 : (Nat → Int32)) (cf107 : ClassId) (f107 : (Nat → Int32)) (cf108 : ClassId) (f108 : (Nat → Int32)) (cf109 : ClassId) (f109 : (Nat → Int32)) (cf110 : ClassId) (f110 : (Nat → Int32)) (cf111 : ClassId) (f111 : (Nat → Int32)) (cf100 : ClassId) (f100 : (Nat → Int32)) (cf101 : ClassId) (f101 : (Nat → Int32)) (cf116 : ClassId) (f116 : (Nat → Int32)) (cf91 : ClassId) (f91 : (Nat → Int32)) (nS477 : Nat) (fS477 : (Nat → Int32)) (hS477 : Nat) (qS477 : Nat) (tS477 : String) (nf : Nat) (r0 : Int32) (o100 : (Nat → Int32)) (o101 : (Nat → Int32)) (o102 : (Nat → Int32)) (o103 : (Nat → Int32)) (o104 : (Nat → Int32)) (o105 : (Nat → Int32)) (o106 : (Nat → Int32)) (o107 : (Nat → Int32)) (o108 : (Nat → Int32)) (o109 : (Nat → Int32)) (o110 : (Nat → Int32)) (o111 : (Nat → Int32)) (o112 : (Nat → Int32)) (o116 : (Nat → Int32)) (w113 : Int32) (w114 : Int32) (w115 : Int32) (w138 : Int32) (w98 : Int32) (w99 : Int32) (hlen : zs.length = 155) (hf91 : zs[91]? = some (.ref qf91)) (hf92 : zs[92]? = some (.ref qf92)) (hf93 : zs[93]? = some (.int v93)) (hf98 : zs[98]? = some (.int v98)) (hf99 : zs[99]? = some (.int v99)) (hf100 : zs[100]? = some (.ref qf100)) (hf101 : zs[101]? = some (.ref qf101)) (hf102 : zs[102]? = some (.ref qf102)) (hf103 : zs[103]? = some (.ref qf103)) (hf104 : zs[104]? = some (.ref qf104)) (hf105 : zs[105]? = some (.ref qf105)) (hf106 : zs[106]? = some (.ref qf106)) (hf107 : zs[107]? = some (.ref qf107)) (hf108 : zs[108]? = some (.ref qf108)) (hf109 : zs[109]? = some (.ref qf109)) (hf110 : zs[110]? = some (.ref qf110)) (hf111 : zs[111]? = some (.ref qf111)) (hf112 : zs[112]? = some (.ref qf112)) (hf113 : zs[113]? = some (.int v113)) (hf114 : zs[114]? = some (.int v114)) (hf115 : zs[115]? = some (.int v115)) (hf116 : zs[116]? = some (.ref qf116)) (hf138 : zs[138]? = some (.int v138)) (hsp : sp_vm_keep nf a1 v93 v98 v99 v113 v114 v115 v138 f92 f103 f112 f102 f104 f105 f106 f107 f108 f109 f110 f111 f100 f101 f116 f91 nS477 fS477 = some (r0, o100, o101, o102, o103, o104, o105, o106, o107, o108, o109, o110, o111, o112, o116, w113, w114, w115, w138, w98, w99)) : Met l yX13_keep (.code yX13_keep cX13_keep 3 (some .int) :: VS_h9) ({ frames := 11, cells := 0, slots := 0, locals := 260 }) (va_Pc [.ref h0, .int a1] (fun U => U.heap.size = sz ∧ va_P (dC, dI) vwCl [(h0, .inr (13, zs)), (qf92, .inl (cf92, 8, .inl f92)), (qf103, .inl (cf103, 8, .inl f103)), (qf112, .inl (cf112, 6000, .inl f112)), (qf102, .inl (cf102, 2048, .inl f102)), (qf104, .inl (cf104, 8, .inl f104)), (qf105, .inl (cf105, 8, .inl f105)), (qf106, .inl (cf106, 8, .inl f106)), (qf107, .inl (cf107, 96, .inl f107)), (qf108, .inl (cf108, 8, .inl f108)), (qf109, .inl (cf109, 96, .inl f109)), (qf110, .inl (cf110, 96, .inl f110)), (qf111, .inl (cf111, 96, .inl f111)), (qf100, .inl (cf100, 48000, .inl f100)), (qf101, .inl (cf101, 8, .inl f101)), (qf116, .inl (cf116, 309, .inl f116)), (qf91, .inl (cf91, 48000, .inl f91))] U.heap ∧ va_K (dC, dI) vwCl [(cf92, .int), (cf103, .int), (cf112, .int), (cf102, .int), (cf104, .int), (cf105, .int), (cf106, .int), (cf107, .int), (cf108, .int), (cf109, .int), (cf110, .int), (cf111, .int), (cf100, .int), (cf101, .int), (cf116, .int), (cf91, .int)] U ∧ va_D (fun _ => True) [(h0, .inr (13, zs)), (qf92, .inl (cf92, 8, .inl f92)), (qf103, .inl (cf103, 8, .inl f103)), (qf112, .inl (cf112, 6000, .inl f112)), (qf102, .inl (cf102, 2048, .inl f102)), (qf104, .inl (cf104, 8, .inl f104)), (qf105, .inl (cf105, 8, .inl f105)), (qf106, .inl (cf106, 8, .inl f106)), (qf107, .inl (cf107, 96, .inl f107)), (qf108, .inl (cf108, 8, .inl f108)), (qf109, .inl (cf109, 96, .inl f109)), (qf110, .inl (cf110, 96, .inl f110)), (qf111, .inl (cf111, 96, .inl f111)), (qf100, .inl (cf100, 48000, .inl f100)), (qf101, .inl (cf101, 8, .inl f101)), (qf116, .inl (cf116, 309, .inl f116)), (qf91, .inl (cf91, 48000, .inl f91))] ∧ pz_W nS477 fS477 hS477 qS477 (va_A [(h0, .inr (13, zs)), (qf92, .inl (cf92, 8, .inl f92)), (qf103, .inl (cf103, 8, .inl f103)), (qf112, .inl (cf112, 6000, .inl f112)), (qf102, .inl (cf102, 2048, .inl f102)), (qf104, .inl (cf104, 8, .inl f104)), (qf105, .inl (cf105, 8, .inl f105)), (qf106, .inl (cf106, 8, .inl f106)), (qf107, .inl (cf107, 96, .inl f107)), (qf108, .inl (cf108, 8, .inl f108)), (qf109, .inl (cf109, 96, .inl f109)), (qf110, .inl (cf110, 96, .inl f110)), (qf111, .inl (cf111, 96, .inl f111)), (qf100, .inl (cf100, 48000, .inl f100)), (qf101, .inl (cf101, 8, .inl f101)), (qf116, .inl (cf116, 309, .inl f116)), (qf91, .inl (cf91, 48000, .inl f91))] sz) U U.heap ∧ vk_R RX13 477 tS477 hS477 U)) (va_Qi (fun (r : Int32) (u : (List Value)) => match u with | (zo1) => r0 = r ∧ zo1.length = 155 ∧ (∀ j : Nat, j ≠ 113 → j ≠ 114 → j ≠ 115 → j ≠ 138 → j ≠ 98 → j ≠ 99 → zo1[j]? = zs[j]?) ∧ zo1[113]? = some (.int w113) ∧ zo1[114]? = some (.int w114) ∧ zo1[115]? = some (.int w115) ∧ zo1[138]? = some (.int w138) ∧ zo1[98]? = some (.int w98) ∧ zo1[99]? = some (.int w99)) (fun (u : (List Value)) (t : State) => match u with | (zo1) => va_P (dC, dI) vwCl [(h0, .inr (13, zo1)), (qf92, .inl (cf92, 8, .inl f92)), (qf103, .inl (cf103, 8, .inl o103)), (qf112, .inl (cf112, 6000, .inl o112)), (qf102, .inl (cf102, 2048, .inl o102)), (qf104, .inl (cf104, 8, .inl o104)), (qf105, .inl (cf105, 8, .inl o105)), (qf106, .inl (cf106, 8, .inl o106)), (qf107, .inl (cf107, 96, .inl o107)), (qf108, .inl (cf108, 8, .inl o108)), (qf109, .inl (cf109, 96, .inl o109)), (qf110, .inl (cf110, 96, .inl o110)), (qf111, .inl (cf111, 96, .inl o111)), (qf100, .inl (cf100, 48000, .inl o100)), (qf101, .inl (cf101, 8, .inl o101)), (qf116, .inl (cf116, 309, .inl o116)), (qf91, .inl (cf91, 48000, .inl f91))] t.heap ∧ va_K (dC, dI) vwCl [(cf92, .int), (cf103, .int), (cf112, .int), (cf102, .int), (cf104, .int), (cf105, .int), (cf106, .int), (cf107, .int), (cf108, .int), (cf109, .int), (cf110, .int), (cf111, .int), (cf100, .int), (cf101, .int), (cf116, .int), (cf91, .int)] t ∧ va_D (va_A [(h0, .inr (13, zs)), (qf92, .inl (cf92, 8, .inl f92)), (qf103, .inl (cf103, 8, .inl f103)), (qf112, .inl (cf112, 6000, .inl f112)), (qf102, .inl (cf102, 2048, .inl f102)), (qf104, .inl (cf104, 8, .inl f104)), (qf105, .inl (cf105, 8, .inl f105)), (qf106, .inl (cf106, 8, .inl f106)), (qf107, .inl (cf107, 96, .inl f107)), (qf108, .inl (cf108, 8, .inl f108)), (qf109, .inl (cf109, 96, .inl f109)), (qf110, .inl (cf110, 96, .inl f110)), (qf111, .inl (cf111, 96, .inl f111)), (qf100, .inl (cf100, 48000, .inl f100)), (qf101, .inl (cf101, 8, .inl f101)), (qf116, .inl (cf116, 309, .inl f116)), (qf91, .inl (cf91, 48000, .inl f91))] sz) [(h0, .inr (13, zo1)), (qf92, .inl (cf92, 8, .inl f92)), (qf103, .inl (cf103, 8, .inl o103)), (qf112, .inl (cf112, 6000, .inl o112)), (qf102, .inl (cf102, 2048, .inl o102)), (qf104, .inl (cf104, 8, .inl o104)), (qf105, .inl (cf105, 8, .inl o105)), (qf106, .inl (cf106, 8, .inl o106)), (qf107, .inl (cf107, 96, .inl o107)), (qf108, .inl (cf108, 8, .inl o108)), (qf109, .inl (cf109, 96, .inl o109)), (qf110, .inl (cf110, 96, .inl o110)), (qf111, .inl (cf111, 96, .inl o111)), (qf100, .inl (cf100, 48000, .inl o100)), (qf101, .inl (cf101, 8, .inl o101)), (qf116, .inl (cf116, 309, .inl o116)), (qf91, .inl (cf91, 48000, .inl f91))]) (va_A [(h0, .inr (13, zs)), (qf92, .inl (cf92, 8, .inl f92)), (qf103, .inl (cf103, 8, .inl f103)), (qf112, .inl (cf112, 6000, .inl f112)), (qf102, .inl (cf102, 2048, .inl f102)), (qf104, .inl (cf104, 8, .inl f104)), (qf105, .inl (cf105, 8, .inl f105)), (qf106, .inl (cf106, 8, .inl f106)), (qf107, .inl (cf107, 96, .inl f107)), (qf108, .inl (cf108, 8, .inl f108)), (qf109, .inl (cf109, 96, .inl f109)), (qf110, .inl (cf110, 96, .inl f110)), (qf111, .inl (cf111, 96, .inl f111)), (qf100, .inl (cf100, 48000, .inl f100)), (qf101, .inl (cf101, 8, .inl f101)), (qf116, .inl (cf116, 309, .inl f116)), (qf91, .inl (cf91, 48000, .inl f91))] sz)) 0 0 (va_A [(h0, .inr (13, zs)), (qf92, .inl (cf92, 8, .inl f92)), (qf103, .inl (cf103, 8, .inl f103)), (qf112, .inl (cf112, 6000, .inl f112)), (qf102, .inl (cf102, 2048, .inl f102)), (qf104, .inl (cf104, 8, .inl f104)), (qf105, .inl (cf105, 8, .inl f105)), (qf106, .inl (cf106, 8, .inl f106)), (qf107, .inl (cf107, 96, .inl f107)), (qf108, .inl (cf108, 8, .inl f108)), (qf109, .inl (cf109, 96, .inl f109)), (qf110, .inl (cf110, 96, .inl f110)), (qf111, .inl (cf111, 96, .inl f111)), (qf100, .inl (cf100, 48000, .inl f100)), (qf101, .inl (cf101, 8, .inl f101)), (qf116, .inl (cf116, 309, .inl f116)), (qf91, .inl (cf91, 48000, .inl f91))] sz) := by
  refine Met.ofW (cc := cX13_keep) (maxL := 3) (ret := (some .int)) (by decide) rfl ?_
  intro p e s m args below meth c s₁ B hml hv
  obtain ⟨rfl, hsz, hP, hK, hD0, hZWS477, hZRS477⟩ := hv
  have hx := B.exec
  have hb := B.bytes
  have hr := B.returns
  have hts := atoms_spec (ws := (.code yX13_keep cX13_keep 3 (some .int) :: VS_h9)) B.pre
  replace hts := fun w (h : w ∈ VS_h9) => hts w (List.mem_cons_of_mem _ h)
  have hown : s.vm.findClass RX13 = some m.cls := findClass_of_methodNamed B.named
  have hlocks := B.notSynchronized
  subst hsz
  have hD := hD0.self (sz := s.heap.size)
  generalize hAe : va_A [(h0, .inr (13, zs)), (qf92, .inl (cf92, 8, .inl f92)), (qf103, .inl (cf103, 8, .inl f103)), (qf112, .inl (cf112, 6000, .inl f112)), (qf102, .inl (cf102, 2048, .inl f102)), (qf104, .inl (cf104, 8, .inl f104)), (qf105, .inl (cf105, 8, .inl f105)), (qf106, .inl (cf106, 8, .inl f106)), (qf107, .inl (cf107, 96, .inl f107)), (qf108, .inl (cf108, 8, .inl f108)), (qf109, .inl (cf109, 96, .inl f109)), (qf110, .inl (cf110, 96, .inl f110)), (qf111, .inl (cf111, 96, .inl f111)), (qf100, .inl (cf100, 48000, .inl f100)), (qf101, .inl (cf101, 8, .inl f101)), (qf116, .inl (cf116, 309, .inl f116)), (qf91, .inl (cf91, 48000, .inl f91))] s.heap.size = A at hD hZWS477 ⊢
  have hA : ∀ q : Nat, s.heap.size ≤ q → A q := fun q h => by rw [← hAe]; exact Or.inr h
  have hP : va_P (dC, dI) vwCl [(h0, .inr (13, zs)), (qf92, .inl (cf92, 8, .inl f92)), (qf103, .inl (cf103, 8, .inl f103)), (qf112, .inl (cf112, 6000, .inl f112)), (qf102, .inl (cf102, 2048, .inl f102)), (qf104, .inl (cf104, 8, .inl f104)), (qf105, .inl (cf105, 8, .inl f105)), (qf106, .inl (cf106, 8, .inl f106)), (qf107, .inl (cf107, 96, .inl f107)), (qf108, .inl (cf108, 8, .inl f108)), (qf109, .inl (cf109, 96, .inl f109)), (qf110, .inl (cf110, 96, .inl f110)), (qf111, .inl (cf111, 96, .inl f111)), (qf100, .inl (cf100, 48000, .inl f100)), (qf101, .inl (cf101, 8, .inl f101)), (qf116, .inl (cf116, 309, .inl f116)), (qf91, .inl (cf91, 48000, .inl f91))] s.heap := hP
  have hl := lv_entry ([.ref h0, .int a1]) (n := 3) (Nat.le_of_ble_eq_true rfl)
  rw [lg_entry_eq]
  generalize (lg_sl ([.ref h0, .int a1]) ++ List.replicate (3 - (lg_sl ([.ref h0, .int a1])).length) Slot.unset).toArray = ls at hl ⊢
  have hl : lv_has ls 3 [(0, .ref h0), (1, .int a1)] := hl
  obtain ⟨H, hH⟩ : ∃ H : Heap, s.heap = H := ⟨_, rfl⟩
  rw [hH] at hP ⊢
  have hS : va_S A s.heap H [] := by rw [← hH]; exact va_S.rf
  obtain ⟨locs, hlo⟩ : ∃ locs : List Loc, locs = [] := ⟨_, rfl⟩
  rw [← hlo] at hS ⊢
  have hrs0 : ∀ j : Nat, j ≠ 113 → j ≠ 114 → j ≠ 115 → j ≠ 138 → j ≠ 98 → j ≠ 99 → zs[j]? = zs[j]? := fun _ _ _ _ _ _ _  => rfl
  unfold sp_vm_keep at hsp
  refine lv_iload_n hx hb dX13_keep_0 rfl (lv_at hl 1 rfl) ?_
  refine lv_if_lt (tgt := 12) hx hb dX13_keep_1 (by decide) (fun c_1 => ?_) (fun c_1 => ?_)
  · rw [if_pos c_1] at hsp
    refine lv_iconst (v := (-1)) hx hb dX13_keep_12 (by decide) ?_
    have hr0 := Option.some.inj hsp
    clear hsp
    obtain ⟨hq0, hr1⟩ := Prod.mk.inj hr0
    clear hr0
    obtain ⟨hq1, hr2⟩ := Prod.mk.inj hr1
    clear hr1
    obtain ⟨hq2, hr3⟩ := Prod.mk.inj hr2
    clear hr2
    obtain ⟨hq3, hr4⟩ := Prod.mk.inj hr3
    clear hr3
    obtain ⟨hq4, hr5⟩ := Prod.mk.inj hr4
    clear hr4
    obtain ⟨hq5, hr6⟩ := Prod.mk.inj hr5
    clear hr5
    obtain ⟨hq6, hr7⟩ := Prod.mk.inj hr6
    clear hr6
    obtain ⟨hq7, hr8⟩ := Prod.mk.inj hr7
    clear hr7
    obtain ⟨hq8, hr9⟩ := Prod.mk.inj hr8
    clear hr8
    obtain ⟨hq9, hr10⟩ := Prod.mk.inj hr9
    clear hr9
    obtain ⟨hq10, hr11⟩ := Prod.mk.inj hr10
    clear hr10
    obtain ⟨hq11, hr12⟩ := Prod.mk.inj hr11
    clear hr11
    obtain ⟨hq12, hr13⟩ := Prod.mk.inj hr12
    clear hr12
    obtain ⟨hq13, hr14⟩ := Prod.mk.inj hr13
    clear hr13
    obtain ⟨hq14, hr15⟩ := Prod.mk.inj hr14
    clear hr14
    obtain ⟨hq15, hr16⟩ := Prod.mk.inj hr15
    clear hr15
    obtain ⟨hq16, hr17⟩ := Prod.mk.inj hr16
    clear hr16
    obtain ⟨hq17, hr18⟩ := Prod.mk.inj hr17
    clear hr17
    obtain ⟨hq18, hr19⟩ := Prod.mk.inj hr18
    clear hr18
    obtain ⟨hq19, hr20⟩ := Prod.mk.inj hr19
    clear hr19
    subst hq0
    subst hq1
    subst hq2
    subst hq3
    subst hq4
    subst hq5
    subst hq6
    subst hq7
    subst hq8
    subst hq9
    subst hq10
    subst hq11
    subst hq12
    subst hq13
    subst hq14
    subst hq15
    subst hq16
    subst hq17
    subst hq18
    subst hq19
    subst hr20
    have hP9 := hP.sub (ws' := [(h0, .inr (13, zs)), (qf92, .inl (cf92, 8, .inl f92)), (qf103, .inl (cf103, 8, .inl f103)), (qf112, .inl (cf112, 6000, .inl f112)), (qf102, .inl (cf102, 2048, .inl f102)), (qf104, .inl (cf104, 8, .inl f104)), (qf105, .inl (cf105, 8, .inl f105)), (qf106, .inl (cf106, 8, .inl f106)), (qf107, .inl (cf107, 96, .inl f107)), (qf108, .inl (cf108, 8, .inl f108)), (qf109, .inl (cf109, 96, .inl f109)), (qf110, .inl (cf110, 96, .inl f110)), (qf111, .inl (cf111, 96, .inl f111)), (qf100, .inl (cf100, 48000, .inl f100)), (qf101, .inl (cf101, 8, .inl f101)), (qf116, .inl (cf116, 309, .inl f116)), (qf91, .inl (cf91, 48000, .inl f91))]) [0, 1, 2, 3, 4, 5, 6, 7, 8, 9, 10, 11, 12, 13, 14, 15, 16] rfl
    have hD9 := hD.sub (ws' := [(h0, .inr (13, zs)), (qf92, .inl (cf92, 8, .inl f92)), (qf103, .inl (cf103, 8, .inl f103)), (qf112, .inl (cf112, 6000, .inl f112)), (qf102, .inl (cf102, 2048, .inl f102)), (qf104, .inl (cf104, 8, .inl f104)), (qf105, .inl (cf105, 8, .inl f105)), (qf106, .inl (cf106, 8, .inl f106)), (qf107, .inl (cf107, 96, .inl f107)), (qf108, .inl (cf108, 8, .inl f108)), (qf109, .inl (cf109, 96, .inl f109)), (qf110, .inl (cf110, 96, .inl f110)), (qf111, .inl (cf111, 96, .inl f111)), (qf100, .inl (cf100, 48000, .inl f100)), (qf101, .inl (cf101, 8, .inl f101)), (qf116, .inl (cf116, 309, .inl f116)), (qf91, .inl (cf91, 48000, .inl f91))]) [0, 1, 2, 3, 4, 5, 6, 7, 8, 9, 10, 11, 12, 13, 14, 15, 16] (by decide) rfl
    have hK9 := hK.sub (tys' := [(cf92, .int), (cf103, .int), (cf112, .int), (cf102, .int), (cf104, .int), (cf105, .int), (cf106, .int), (cf107, .int), (cf108, .int), (cf109, .int), (cf110, .int), (cf111, .int), (cf100, .int), (cf101, .int), (cf116, .int), (cf91, .int)]) [0, 1, 2, 3, 4, 5, 6, 7, 8, 9, 10, 11, 12, 13, 14, 15] rfl
    exact W.iret hx hb hr (fun t ht hW => ⟨⟨((-1)), (zs), rfl, ⟨rfl, hlen, hrs0, hf113, hf114, hf115, hf138, hf98, hf99⟩, by rw [ht]; exact hP9, va_K.moved hW.alike hK9, hD9⟩, hS.F ht⟩) hS.2.2 dX13_keep_13
  · rw [if_neg c_1] at hsp
    refine lv_iload_n hx hb dX13_keep_4 rfl (lv_at hl 1 rfl) ?_
    refine lv_aload_n hx hb dX13_keep_5 rfl (lv_at hl 0 rfl) ?_
    refine va_get (D := (dC, dI)) (ci := 13) (v := .int v93) (C := RX13) (T := TX13) (N := 155) hx hb hts uV_h9_X13 hown hK hP 0 rfl rfl 93 (by decide) (hts (.fieldLink RX13 761 "ClassMillModel" "imageMany" "I") mw_h9_477) (fun _ h9 => h9) hf93 dX13_keep_6 ?_
    refine lv_icmp_lt (tgt := 14) hx hb dX13_keep_9 (by decide) (fun c_2 => ?_) (fun c_2 => ?_)
    · rw [if_pos c_2] at hsp
      refine lv_aload_n hx hb dX13_keep_14 rfl (lv_at hl 0 rfl) ?_
      refine lv_aload_n hx hb dX13_keep_15 rfl (lv_at hl 0 rfl) ?_
      refine va_get (D := (dC, dI)) (ci := 13) (v := .ref qf92) (C := RX13) (T := TX13) (N := 155) hx hb hts uV_h9_X13 hown hK hP 0 rfl rfl 92 (by decide) (hts (.fieldLink RX13 197 "ClassMillModel" "imageSize" "[I") mw_h9_478) (fun _ h9 => h9) hf92 dX13_keep_16 ?_
      refine lv_iload_n hx hb dX13_keep_19 rfl (lv_at hl 1 rfl) ?_
      obtain ⟨hi_3, hsp⟩ := ox_in hsp
      refine va_iald hx hb hK hP 1 0 rfl rfl (i := a1) hi_3 dX13_keep_20 ?_
      refine va_put (D := (dC, dI)) (ci := 13) (v := .int (f92 (a1 : Int32).toNatClampNeg)) (ty := .int) (C := RX13) (T := TX13) (N := 155) hx hb hts uV_h9_X13 tyX13 tyX13_ok nmX13 hown hK hP hD hS 0 rfl rfl 113 (by decide) (hts (.fieldLink RX13 767 "ClassMillModel" "lookSize" "I") mw_h9_451) (fun _ h9 => h9) rfl (by decide +kernel) rfl rfl (by rw [hlen]; decide) dX13_keep_21 ?_
      clear hP hD hS
      intro H locs hP hD hS
      obtain ⟨fs_4, efs_4⟩ : ∃ zf : List Value, zf = zs.set 113 (.int (f92 (a1 : Int32).toNatClampNeg)) := ⟨_, rfl⟩
      rw [← efs_4] at hP hD
      have hlfs_4 : fs_4.length = 155 := by rw [efs_4, List.length_set]; exact hlen
      have hfs_4_91 : fs_4[91]? = some (.ref qf91) := by rw [efs_4, List.getElem?_set_ne (by decide)]; exact hf91
      have hfs_4_92 : fs_4[92]? = some (.ref qf92) := by rw [efs_4, List.getElem?_set_ne (by decide)]; exact hf92
      have hfs_4_93 : fs_4[93]? = some (.int v93) := by rw [efs_4, List.getElem?_set_ne (by decide)]; exact hf93
      have hfs_4_98 : fs_4[98]? = some (.int v98) := by rw [efs_4, List.getElem?_set_ne (by decide)]; exact hf98
      have hfs_4_99 : fs_4[99]? = some (.int v99) := by rw [efs_4, List.getElem?_set_ne (by decide)]; exact hf99
      have hfs_4_100 : fs_4[100]? = some (.ref qf100) := by rw [efs_4, List.getElem?_set_ne (by decide)]; exact hf100
      have hfs_4_101 : fs_4[101]? = some (.ref qf101) := by rw [efs_4, List.getElem?_set_ne (by decide)]; exact hf101
      have hfs_4_102 : fs_4[102]? = some (.ref qf102) := by rw [efs_4, List.getElem?_set_ne (by decide)]; exact hf102
      have hfs_4_103 : fs_4[103]? = some (.ref qf103) := by rw [efs_4, List.getElem?_set_ne (by decide)]; exact hf103
      have hfs_4_104 : fs_4[104]? = some (.ref qf104) := by rw [efs_4, List.getElem?_set_ne (by decide)]; exact hf104
      have hfs_4_105 : fs_4[105]? = some (.ref qf105) := by rw [efs_4, List.getElem?_set_ne (by decide)]; exact hf105
      have hfs_4_106 : fs_4[106]? = some (.ref qf106) := by rw [efs_4, List.getElem?_set_ne (by decide)]; exact hf106
      have hfs_4_107 : fs_4[107]? = some (.ref qf107) := by rw [efs_4, List.getElem?_set_ne (by decide)]; exact hf107
      have hfs_4_108 : fs_4[108]? = some (.ref qf108) := by rw [efs_4, List.getElem?_set_ne (by decide)]; exact hf108
      have hfs_4_109 : fs_4[109]? = some (.ref qf109) := by rw [efs_4, List.getElem?_set_ne (by decide)]; exact hf109
      have hfs_4_110 : fs_4[110]? = some (.ref qf110) := by rw [efs_4, List.getElem?_set_ne (by decide)]; exact hf110
      have hfs_4_111 : fs_4[111]? = some (.ref qf111) := by rw [efs_4, List.getElem?_set_ne (by decide)]; exact hf111
      have hfs_4_112 : fs_4[112]? = some (.ref qf112) := by rw [efs_4, List.getElem?_set_ne (by decide)]; exact hf112
      have hfs_4_114 : fs_4[114]? = some (.int v114) := by rw [efs_4, List.getElem?_set_ne (by decide)]; exact hf114
      have hfs_4_115 : fs_4[115]? = some (.int v115) := by rw [efs_4, List.getElem?_set_ne (by decide)]; exact hf115
      have hfs_4_116 : fs_4[116]? = some (.ref qf116) := by rw [efs_4, List.getElem?_set_ne (by decide)]; exact hf116
      have hfs_4_138 : fs_4[138]? = some (.int v138) := by rw [efs_4, List.getElem?_set_ne (by decide)]; exact hf138
      have hfs_4_113 : fs_4[113]? = some (.int (f92 (a1 : Int32).toNatClampNeg)) := by rw [efs_4, List.getElem?_set_self (by rw [hlen]; decide)]
      replace hP : va_P (dC, dI) vwCl [(h0, .inr (13, fs_4)), (qf92, .inl (cf92, 8, .inl f92)), (qf103, .inl (cf103, 8, .inl f103)), (qf112, .inl (cf112, 6000, .inl f112)), (qf102, .inl (cf102, 2048, .inl f102)), (qf104, .inl (cf104, 8, .inl f104)), (qf105, .inl (cf105, 8, .inl f105)), (qf106, .inl (cf106, 8, .inl f106)), (qf107, .inl (cf107, 96, .inl f107)), (qf108, .inl (cf108, 8, .inl f108)), (qf109, .inl (cf109, 96, .inl f109)), (qf110, .inl (cf110, 96, .inl f110)), (qf111, .inl (cf111, 96, .inl f111)), (qf100, .inl (cf100, 48000, .inl f100)), (qf101, .inl (cf101, 8, .inl f101)), (qf116, .inl (cf116, 309, .inl f116)), (qf91, .inl (cf91, 48000, .inl f91))] H := hP
      replace hD : va_D A [(h0, .inr (13, fs_4)), (qf92, .inl (cf92, 8, .inl f92)), (qf103, .inl (cf103, 8, .inl f103)), (qf112, .inl (cf112, 6000, .inl f112)), (qf102, .inl (cf102, 2048, .inl f102)), (qf104, .inl (cf104, 8, .inl f104)), (qf105, .inl (cf105, 8, .inl f105)), (qf106, .inl (cf106, 8, .inl f106)), (qf107, .inl (cf107, 96, .inl f107)), (qf108, .inl (cf108, 8, .inl f108)), (qf109, .inl (cf109, 96, .inl f109)), (qf110, .inl (cf110, 96, .inl f110)), (qf111, .inl (cf111, 96, .inl f111)), (qf100, .inl (cf100, 48000, .inl f100)), (qf101, .inl (cf101, 8, .inl f101)), (qf116, .inl (cf116, 309, .inl f116)), (qf91, .inl (cf91, 48000, .inl f91))] := hD
      have hrs_5 : ∀ j : Nat, j ≠ 113 → j ≠ 114 → j ≠ 115 → j ≠ 138 → j ≠ 98 → j ≠ 99 → fs_4[j]? = zs[j]? := fun j g113 g114 g115 g138 g98 g99 => ((congrArg (fun z : List Value => z[j]?) efs_4).trans (List.getElem?_set_ne (Ne.symm g113))).trans (hrs0 j g113 g114 g115 g138 g98 g99)
      refine lv_iconst (v := 0) hx hb dX13_keep_24 (by decide) ?_
      refine lv_istore_n (lv' := [(2, .int 0), (0, .ref h0), (1, .int a1)]) hx hb dX13_keep_25 rfl hl (by decide) rfl (fun ls hl => ?_)
      replace hl : lv_has ls 3 [(2, .int 0), (0, .ref h0), (1, .int a1)] := lv_sub hl [0, 1, 2] rfl
      replace hP := hP.sub (ws' := [(h0, .inr (13, fs_4)), (qf92, .inl (cf92, 8, .inl f92)), (qf103, .inl (cf103, 8, .inl f103)), (qf112, .inl (cf112, 6000, .inl f112)), (qf102, .inl (cf102, 2048, .inl f102)), (qf104, .inl (cf104, 8, .inl f104)), (qf105, .inl (cf105, 8, .inl f105)), (qf106, .inl (cf106, 8, .inl f106)), (qf107, .inl (cf107, 96, .inl f107)), (qf108, .inl (cf108, 8, .inl f108)), (qf109, .inl (cf109, 96, .inl f109)), (qf110, .inl (cf110, 96, .inl f110)), (qf111, .inl (cf111, 96, .inl f111)), (qf100, .inl (cf100, 48000, .inl f100)), (qf101, .inl (cf101, 8, .inl f101)), (qf116, .inl (cf116, 309, .inl f116)), (qf91, .inl (cf91, 48000, .inl f91))]) [0, 1, 2, 3, 4, 5, 6, 7, 8, 9, 10, 11, 12, 13, 14, 15, 16] rfl
      replace hD := hD.sub (ws' := [(h0, .inr (13, fs_4)), (qf92, .inl (cf92, 8, .inl f92)), (qf103, .inl (cf103, 8, .inl f103)), (qf112, .inl (cf112, 6000, .inl f112)), (qf102, .inl (cf102, 2048, .inl f102)), (qf104, .inl (cf104, 8, .inl f104)), (qf105, .inl (cf105, 8, .inl f105)), (qf106, .inl (cf106, 8, .inl f106)), (qf107, .inl (cf107, 96, .inl f107)), (qf108, .inl (cf108, 8, .inl f108)), (qf109, .inl (cf109, 96, .inl f109)), (qf110, .inl (cf110, 96, .inl f110)), (qf111, .inl (cf111, 96, .inl f111)), (qf100, .inl (cf100, 48000, .inl f100)), (qf101, .inl (cf101, 8, .inl f101)), (qf116, .inl (cf116, 309, .inl f116)), (qf91, .inl (cf91, 48000, .inl f91))]) [0, 1, 2, 3, 4, 5, 6, 7, 8, 9, 10, 11, 12, 13, 14, 15, 16] (by decide) rfl
      replace hK := hK.sub (tys' := [(cf92, .int), (cf103, .int), (cf112, .int), (cf102, .int), (cf104, .int), (cf105, .int), (cf106, .int), (cf107, .int), (cf108, .int), (cf109, .int), (cf110, .int), (cf111, .int), (cf100, .int), (cf101, .int), (cf116, .int), (cf91, .int)]) [0, 1, 2, 3, 4, 5, 6, 7, 8, 9, 10, 11, 12, 13, 14, 15] rfl
      obtain ⟨n_26, hn_26⟩ : ∃ z : Nat, z = nf := ⟨_, rfl⟩
      obtain ⟨l1_26, el1_26⟩ : ∃ z : Int32, z = a1 := ⟨_, rfl⟩
      obtain ⟨l2_26, el2_26⟩ : ∃ z : Int32, z = 0 := ⟨_, rfl⟩
      obtain ⟨g100_26, eg100_26⟩ : ∃ z : Nat → Int32, z = f100 := ⟨_, rfl⟩
      obtain ⟨g101_26, eg101_26⟩ : ∃ z : Nat → Int32, z = f101 := ⟨_, rfl⟩
      obtain ⟨g102_26, eg102_26⟩ : ∃ z : Nat → Int32, z = f102 := ⟨_, rfl⟩
      obtain ⟨g103_26, eg103_26⟩ : ∃ z : Nat → Int32, z = f103 := ⟨_, rfl⟩
      obtain ⟨g104_26, eg104_26⟩ : ∃ z : Nat → Int32, z = f104 := ⟨_, rfl⟩
      obtain ⟨g105_26, eg105_26⟩ : ∃ z : Nat → Int32, z = f105 := ⟨_, rfl⟩
      obtain ⟨g106_26, eg106_26⟩ : ∃ z : Nat → Int32, z = f106 := ⟨_, rfl⟩
      obtain ⟨g107_26, eg107_26⟩ : ∃ z : Nat → Int32, z = f107 := ⟨_, rfl⟩
      obtain ⟨g108_26, eg108_26⟩ : ∃ z : Nat → Int32, z = f108 := ⟨_, rfl⟩
      obtain ⟨g109_26, eg109_26⟩ : ∃ z : Nat → Int32, z = f109 := ⟨_, rfl⟩
      obtain ⟨g110_26, eg110_26⟩ : ∃ z : Nat → Int32, z = f110 := ⟨_, rfl⟩
      obtain ⟨g111_26, eg111_26⟩ : ∃ z : Nat → Int32, z = f111 := ⟨_, rfl⟩
      obtain ⟨g112_26, eg112_26⟩ : ∃ z : Nat → Int32, z = f112 := ⟨_, rfl⟩
      obtain ⟨g116_26, eg116_26⟩ : ∃ z : Nat → Int32, z = f116 := ⟨_, rfl⟩
      obtain ⟨x113_26, ex113_26⟩ : ∃ z : Int32, z = (f92 (a1 : Int32).toNatClampNeg) := ⟨_, rfl⟩
      obtain ⟨x114_26, ex114_26⟩ : ∃ z : Int32, z = v114 := ⟨_, rfl⟩
      obtain ⟨x115_26, ex115_26⟩ : ∃ z : Int32, z = v115 := ⟨_, rfl⟩
      obtain ⟨x138_26, ex138_26⟩ : ∃ z : Int32, z = v138 := ⟨_, rfl⟩
      obtain ⟨x98_26, ex98_26⟩ : ∃ z : Int32, z = v98 := ⟨_, rfl⟩
      obtain ⟨x99_26, ex99_26⟩ : ∃ z : Int32, z = v99 := ⟨_, rfl⟩
      replace hsp : lp_vm_keep_26 nf n_26 a1 v93 v98 v99 v113 v114 v115 v138 f92 f103 f112 f102 f104 f105 f106 f107 f108 f109 f110 f111 f100 f101 f116 f91 nS477 fS477 l1_26 l2_26 g100_26 g101_26 g102_26 g103_26 g104_26 g105_26 g106_26 g107_26 g108_26 g109_26 g110_26 g111_26 g112_26 g116_26 x113_26 x114_26 x115_26 x138_26 x98_26 x99_26 = some (r0, o100, o101, o102, o103, o104, o105, o106, o107, o108, o109, o110, o111, o112, o116, w113, w114, w115, w138, w98, w99) := by rw [hn_26, el1_26, el2_26, eg100_26, eg101_26, eg102_26, eg103_26, eg104_26, eg105_26, eg106_26, eg107_26, eg108_26, eg109_26, eg110_26, eg111_26, eg112_26, eg116_26, ex113_26, ex114_26, ex115_26, ex138_26, ex98_26, ex99_26]; exact hsp
      replace hl : lv_has ls 3 [(2, .int l2_26), (0, .ref h0), (1, .int l1_26)] := by rw [el1_26, el2_26]; exact hl
      obtain ⟨z26, ez26⟩ : ∃ z : List Value, z = fs_4 := ⟨_, rfl⟩
      have hfh_26_91 : z26[91]? = some (.ref qf91) := by rw [ez26]; exact hfs_4_91
      have hfh_26_92 : z26[92]? = some (.ref qf92) := by rw [ez26]; exact hfs_4_92
      have hfh_26_93 : z26[93]? = some (.int v93) := by rw [ez26]; exact hfs_4_93
      have hfh_26_98 : z26[98]? = some (.int x98_26) := by rw [ez26, ex98_26]; exact hfs_4_98
      have hfh_26_99 : z26[99]? = some (.int x99_26) := by rw [ez26, ex99_26]; exact hfs_4_99
      have hfh_26_100 : z26[100]? = some (.ref qf100) := by rw [ez26]; exact hfs_4_100
      have hfh_26_101 : z26[101]? = some (.ref qf101) := by rw [ez26]; exact hfs_4_101
      have hfh_26_102 : z26[102]? = some (.ref qf102) := by rw [ez26]; exact hfs_4_102
      have hfh_26_103 : z26[103]? = some (.ref qf103) := by rw [ez26]; exact hfs_4_103
      have hfh_26_104 : z26[104]? = some (.ref qf104) := by rw [ez26]; exact hfs_4_104
      have hfh_26_105 : z26[105]? = some (.ref qf105) := by rw [ez26]; exact hfs_4_105
      have hfh_26_106 : z26[106]? = some (.ref qf106) := by rw [ez26]; exact hfs_4_106
      have hfh_26_107 : z26[107]? = some (.ref qf107) := by rw [ez26]; exact hfs_4_107
      have hfh_26_108 : z26[108]? = some (.ref qf108) := by rw [ez26]; exact hfs_4_108
      have hfh_26_109 : z26[109]? = some (.ref qf109) := by rw [ez26]; exact hfs_4_109
      have hfh_26_110 : z26[110]? = some (.ref qf110) := by rw [ez26]; exact hfs_4_110
      have hfh_26_111 : z26[111]? = some (.ref qf111) := by rw [ez26]; exact hfs_4_111
      have hfh_26_112 : z26[112]? = some (.ref qf112) := by rw [ez26]; exact hfs_4_112
      have hfh_26_113 : z26[113]? = some (.int x113_26) := by rw [ez26, ex113_26]; exact hfs_4_113
      have hfh_26_114 : z26[114]? = some (.int x114_26) := by rw [ez26, ex114_26]; exact hfs_4_114
      have hfh_26_115 : z26[115]? = some (.int x115_26) := by rw [ez26, ex115_26]; exact hfs_4_115
      have hfh_26_116 : z26[116]? = some (.ref qf116) := by rw [ez26]; exact hfs_4_116
      have hfh_26_138 : z26[138]? = some (.int x138_26) := by rw [ez26, ex138_26]; exact hfs_4_138
      have hlh_26 : z26.length = 155 := by rw [ez26]; exact hlfs_4
      have hrh_26 : ∀ j : Nat, j ≠ 113 → j ≠ 114 → j ≠ 115 → j ≠ 138 → j ≠ 98 → j ≠ 99 → z26[j]? = zs[j]? := by rw [ez26]; exact hrs_5
      replace hP : va_P (dC, dI) vwCl [(h0, .inr (13, z26)), (qf92, .inl (cf92, 8, .inl f92)), (qf103, .inl (cf103, 8, .inl g103_26)), (qf112, .inl (cf112, 6000, .inl g112_26)), (qf102, .inl (cf102, 2048, .inl g102_26)), (qf104, .inl (cf104, 8, .inl g104_26)), (qf105, .inl (cf105, 8, .inl g105_26)), (qf106, .inl (cf106, 8, .inl g106_26)), (qf107, .inl (cf107, 96, .inl g107_26)), (qf108, .inl (cf108, 8, .inl g108_26)), (qf109, .inl (cf109, 96, .inl g109_26)), (qf110, .inl (cf110, 96, .inl g110_26)), (qf111, .inl (cf111, 96, .inl g111_26)), (qf100, .inl (cf100, 48000, .inl g100_26)), (qf101, .inl (cf101, 8, .inl g101_26)), (qf116, .inl (cf116, 309, .inl g116_26)), (qf91, .inl (cf91, 48000, .inl f91))] H := by rw [ez26, eg100_26, eg101_26, eg102_26, eg103_26, eg104_26, eg105_26, eg106_26, eg107_26, eg108_26, eg109_26, eg110_26, eg111_26, eg112_26, eg116_26]; exact hP
      replace hD : va_D A [(h0, .inr (13, z26)), (qf92, .inl (cf92, 8, .inl f92)), (qf103, .inl (cf103, 8, .inl g103_26)), (qf112, .inl (cf112, 6000, .inl g112_26)), (qf102, .inl (cf102, 2048, .inl g102_26)), (qf104, .inl (cf104, 8, .inl g104_26)), (qf105, .inl (cf105, 8, .inl g105_26)), (qf106, .inl (cf106, 8, .inl g106_26)), (qf107, .inl (cf107, 96, .inl g107_26)), (qf108, .inl (cf108, 8, .inl g108_26)), (qf109, .inl (cf109, 96, .inl g109_26)), (qf110, .inl (cf110, 96, .inl g110_26)), (qf111, .inl (cf111, 96, .inl g111_26)), (qf100, .inl (cf100, 48000, .inl g100_26)), (qf101, .inl (cf101, 8, .inl g101_26)), (qf116, .inl (cf116, 309, .inl g116_26)), (qf91, .inl (cf91, 48000, .inl f91))] := by rw [ez26, eg100_26, eg101_26, eg102_26, eg103_26, eg104_26, eg105_26, eg106_26, eg107_26, eg108_26, eg109_26, eg110_26, eg111_26, eg112_26, eg116_26]; exact hD
      clear hn_26 ez26 el1_26 el2_26 eg100_26 eg101_26 eg102_26 eg103_26 eg104_26 eg105_26 eg106_26 eg107_26 eg108_26 eg109_26 eg110_26 eg111_26 eg112_26 eg116_26 ex113_26 ex114_26 ex115_26 ex138_26 ex98_26 ex99_26
      try clear hlo
      try clear hH
      revert hsp
      revert hP
      revert hD
      revert hS
      revert hl
      revert hrh_26
      revert hlh_26
      revert hfh_26_138
      revert hfh_26_116
      revert hfh_26_115
      revert hfh_26_114
      revert hfh_26_113
      revert hfh_26_112
      revert hfh_26_111
      revert hfh_26_110
      revert hfh_26_109
      revert hfh_26_108
      revert hfh_26_107
      revert hfh_26_106
      revert hfh_26_105
      revert hfh_26_104
      revert hfh_26_103
      revert hfh_26_102
      revert hfh_26_101
      revert hfh_26_100
      revert hfh_26_99
      revert hfh_26_98
      revert hfh_26_93
      revert hfh_26_92
      revert hfh_26_91
      revert x99_26
      revert x98_26
      revert x138_26
      revert x115_26
      revert x114_26
      revert x113_26
      revert g116_26
      revert g112_26
      revert g111_26
      revert g110_26
      revert g109_26
      revert g108_26
      revert g107_26
      revert g106_26
      revert g105_26
      revert g104_26
      revert g103_26
      revert g102_26
      revert g101_26
      revert g100_26
      revert l2_26
      revert l1_26
      revert z26
      revert ls
      revert locs
      revert H
      induction n_26 with
      | zero => intro H locs ls z26 l1_26 l2_26 g100_26 g101_26 g102_26 g103_26 g104_26 g105_26 g106_26 g107_26 g108_26 g109_26 g110_26 g111_26 g112_26 g116_26 x113_26 x114_26 x115_26 x138_26 x98_26 x99_26 hfh_26_91 hfh_26_92 hfh_26_93 hfh_26_98 hfh_26_99 hfh_26_100 hfh_26_101 hfh_26_102 hfh_26_103 hfh_26_104 hfh_26_105 hfh_26_106 hfh_26_107 hfh_26_108 hfh_26_109 hfh_26_110 hfh_26_111 hfh_26_112 hfh_26_113 hfh_26_114 hfh_26_115 hfh_26_116 hfh_26_138 hlh_26 hrh_26 hl hS hD hP hsp; unfold lp_vm_keep_26 at hsp; cases hsp
      | succ n_26 ih_26 =>
        intro H locs ls z26 l1_26 l2_26 g100_26 g101_26 g102_26 g103_26 g104_26 g105_26 g106_26 g107_26 g108_26 g109_26 g110_26 g111_26 g112_26 g116_26 x113_26 x114_26 x115_26 x138_26 x98_26 x99_26 hfh_26_91 hfh_26_92 hfh_26_93 hfh_26_98 hfh_26_99 hfh_26_100 hfh_26_101 hfh_26_102 hfh_26_103 hfh_26_104 hfh_26_105 hfh_26_106 hfh_26_107 hfh_26_108 hfh_26_109 hfh_26_110 hfh_26_111 hfh_26_112 hfh_26_113 hfh_26_114 hfh_26_115 hfh_26_116 hfh_26_138 hlh_26 hrh_26 hl hS hD hP hsp
        unfold lp_vm_keep_26 at hsp
        try dsimp only at hsp
        refine lv_iload_n hx hb dX13_keep_26 rfl (lv_at hl 0 rfl) ?_
        refine lv_aload_n hx hb dX13_keep_27 rfl (lv_at hl 1 rfl) ?_
        refine va_get (D := (dC, dI)) (ci := 13) (v := .int x113_26) (C := RX13) (T := TX13) (N := 155) hx hb hts uV_h9_X13 hown hK hP 0 rfl rfl 113 (by decide) (hts (.fieldLink RX13 767 "ClassMillModel" "lookSize" "I") mw_h9_451) (fun _ h9 => h9) hfh_26_113 dX13_keep_28 ?_
        refine lv_icmp_ge (tgt := 58) hx hb dX13_keep_31 (by decide) (fun c_6 => ?_) (fun c_6 => ?_)
        · rw [if_pos c_6] at hsp
          refine lv_aload_n hx hb dX13_keep_58 rfl (lv_at hl 1 rfl) ?_
          obtain ⟨⟨u1_0, g901_1, g901_2, g901_3, g901_4, g901_5, g901_6, g901_7, g901_8, g901_9, g901_10, g901_11, g901_12, g901_13, u1_14, u1_15, u1_16, u1_17, u1_18⟩, hu_1, hsp⟩ := ox_bind hsp
          try dsimp only at hsp
          have hPc := hP.sub (ws' := [(h0, .inr (13, z26)), (qf103, .inl (cf103, 8, .inl g103_26)), (qf112, .inl (cf112, 6000, .inl g112_26)), (qf102, .inl (cf102, 2048, .inl g102_26)), (qf104, .inl (cf104, 8, .inl g104_26)), (qf105, .inl (cf105, 8, .inl g105_26)), (qf106, .inl (cf106, 8, .inl g106_26)), (qf107, .inl (cf107, 96, .inl g107_26)), (qf108, .inl (cf108, 8, .inl g108_26)), (qf109, .inl (cf109, 96, .inl g109_26)), (qf110, .inl (cf110, 96, .inl g110_26)), (qf111, .inl (cf111, 96, .inl g111_26)), (qf100, .inl (cf100, 48000, .inl g100_26)), (qf101, .inl (cf101, 8, .inl g101_26)), (qf116, .inl (cf116, 309, .inl g116_26))]) [0, 2, 3, 4, 5, 6, 7, 8, 9, 10, 11, 12, 13, 14, 15] rfl
          have hDc := hD.sub (ws' := [(h0, .inr (13, z26)), (qf103, .inl (cf103, 8, .inl g103_26)), (qf112, .inl (cf112, 6000, .inl g112_26)), (qf102, .inl (cf102, 2048, .inl g102_26)), (qf104, .inl (cf104, 8, .inl g104_26)), (qf105, .inl (cf105, 8, .inl g105_26)), (qf106, .inl (cf106, 8, .inl g106_26)), (qf107, .inl (cf107, 96, .inl g107_26)), (qf108, .inl (cf108, 8, .inl g108_26)), (qf109, .inl (cf109, 96, .inl g109_26)), (qf110, .inl (cf110, 96, .inl g110_26)), (qf111, .inl (cf111, 96, .inl g111_26)), (qf100, .inl (cf100, 48000, .inl g100_26)), (qf101, .inl (cf101, 8, .inl g101_26)), (qf116, .inl (cf116, 309, .inl g116_26))]) [0, 2, 3, 4, 5, 6, 7, 8, 9, 10, 11, 12, 13, 14, 15] (by decide) rfl
          have hKc := hK.sub (tys' := [(cf103, .int), (cf112, .int), (cf102, .int), (cf104, .int), (cf105, .int), (cf106, .int), (cf107, .int), (cf108, .int), (cf109, .int), (cf110, .int), (cf111, .int), (cf100, .int), (cf101, .int), (cf116, .int)]) [1, 2, 3, 4, 5, 6, 7, 8, 9, 10, 11, 12, 13, 14] rfl
          have hFc := va_free (wc := [(h0, .inr (13, z26)), (qf103, .inl (cf103, 8, .inl g103_26)), (qf112, .inl (cf112, 6000, .inl g112_26)), (qf102, .inl (cf102, 2048, .inl g102_26)), (qf104, .inl (cf104, 8, .inl g104_26)), (qf105, .inl (cf105, 8, .inl g105_26)), (qf106, .inl (cf106, 8, .inl g106_26)), (qf107, .inl (cf107, 96, .inl g107_26)), (qf108, .inl (cf108, 8, .inl g108_26)), (qf109, .inl (cf109, 96, .inl g109_26)), (qf110, .inl (cf110, 96, .inl g110_26)), (qf111, .inl (cf111, 96, .inl g111_26)), (qf100, .inl (cf100, 48000, .inl g100_26)), (qf101, .inl (cf101, 8, .inl g101_26)), (qf116, .inl (cf116, 309, .inl g116_26))]) hD hS hA [0, 2, 3, 4, 5, 6, 7, 8, 9, 10, 11, 12, 13, 14, 15] rfl
          refine va_calli (va_runV (As := []) (rest := []) ⟨hx, hb, hml, hown, hts⟩ (vm_loaded l dC dI H.size h0 z26 x98_26 x99_26 qf100 qf101 qf102 qf103 qf104 qf105 qf106 qf107 qf108 qf109 qf110 qf111 qf112 x113_26 x114_26 x115_26 qf116 x138_26 cf103 g103_26 cf112 g112_26 cf102 g102_26 cf104 g104_26 cf105 g105_26 cf106 g106_26 cf107 g107_26 cf108 g108_26 cf109 g109_26 cf110 g110_26 cf111 g111_26 cf100 g100_26 cf101 g101_26 cf116 g116_26 nS477 fS477 hS477 qS477 tS477 nf u1_0 g901_1 g901_2 g901_3 g901_4 g901_5 g901_6 g901_7 g901_8 g901_9 g901_10 g901_11 g901_12 g901_13 u1_14 u1_15 u1_16 u1_17 u1_18 hlh_26 hfh_26_98 hfh_26_99 hfh_26_100 hfh_26_101 hfh_26_102 hfh_26_103 hfh_26_104 hfh_26_105 hfh_26_106 hfh_26_107 hfh_26_108 hfh_26_109 hfh_26_110 hfh_26_111 hfh_26_112 hfh_26_113 hfh_26_114 hfh_26_115 hfh_26_116 hfh_26_138 hu_1) (cwV 0 hts gv_h9_94 rfl rfl rfl (by decide +kernel) ⟨Nat.le_of_ble_eq_true rfl, Nat.le_of_ble_eq_true rfl⟩) ⟨fun a U g mk q => by obtain ⟨q0, q1, qP, qK, qD, qhZWS477, qhZRS477⟩ := q; exact ⟨q0, q1, qP, va_K.moved (u := U) (U := U.calling g mk a) (Vm.Alike.refl U.vm) qK, qD, pz_W.moved (u := U) (U := U.calling g mk a) (Vm.Alike.refl U.vm) qhZWS477, vk_R.same rfl qhZRS477⟩, va_recv hKc hPc (ci := 13) (q0 := 0) rfl rfl, fun U hU hW => ⟨rfl, by rw [hU], by rw [hU]; exact hPc, va_K.moved hW.alike hKc, hDc.weaken (fun _ _ _ _ => trivial), by rw [hU]; exact ((pz_W.moved hW.alike hZWS477).kept hS.2.1).narrow hFc, vk_R.warm hW hZRS477⟩⟩ rfl rfl hl.1 rfl (lv_room (Nat.le_of_ble_eq_true rfl)) dX13_keep_59 ⟨Nat.le_of_ble_eq_true rfl, Nat.le_of_ble_eq_true rfl⟩) hS (fun q _ h => hFc q h) hFc ?_
          clear hS
          intro r_7 u t H1 locs ht hvm hw hB hz1 hk1 hS
          obtain ⟨z_1, rfl⟩ : ∃ z, z = u := ⟨_, rfl⟩
          obtain ⟨hP1, hK1, hD1⟩ := hB
          rw [ht] at hP1
          have hK1 := va_K.moved hvm.symm hK1
          try dsimp only at hw
          have hPD := va_join (wr := [(qf92, .inl (cf92, 8, .inl f92)), (qf91, .inl (cf91, 48000, .inl f91))]) (w1 := [(h0, .inr (13, z_1)), (qf103, .inl (cf103, 8, .inl g901_4)), (qf112, .inl (cf112, 6000, .inl g112_26)), (qf102, .inl (cf102, 2048, .inl g901_3)), (qf104, .inl (cf104, 8, .inl g901_5)), (qf105, .inl (cf105, 8, .inl g901_6)), (qf106, .inl (cf106, 8, .inl g901_7)), (qf107, .inl (cf107, 96, .inl g901_8)), (qf108, .inl (cf108, 8, .inl g901_9)), (qf109, .inl (cf109, 96, .inl g901_10)), (qf110, .inl (cf110, 96, .inl g901_11)), (qf111, .inl (cf111, 96, .inl g901_12)), (qf100, .inl (cf100, 48000, .inl g901_1)), (qf101, .inl (cf101, 8, .inl g901_2)), (qf116, .inl (cf116, 309, .inl g901_13))]) hP hD [0, 2, 3, 4, 5, 6, 7, 8, 9, 10, 11, 12, 13, 14, 15] [1, 16] rfl rfl (by decide) (by decide) hk1 hFc hP1 hD1
          clear hP hD
          obtain ⟨hP, hD⟩ := hPD
          replace hK := (hK.sub (tys' := [(cf92, .int), (cf91, .int)]) [0, 15] rfl).app hK1
          clear hPc hDc hKc hFc hP1 hK1 hD1 hz1 hk1 ht hvm
          generalize H1 = H at hP hS ⊢
          replace hP : va_P (dC, dI) vwCl [(qf92, .inl (cf92, 8, .inl f92)), (qf91, .inl (cf91, 48000, .inl f91)), (h0, .inr (13, z_1)), (qf103, .inl (cf103, 8, .inl g901_4)), (qf112, .inl (cf112, 6000, .inl g112_26)), (qf102, .inl (cf102, 2048, .inl g901_3)), (qf104, .inl (cf104, 8, .inl g901_5)), (qf105, .inl (cf105, 8, .inl g901_6)), (qf106, .inl (cf106, 8, .inl g901_7)), (qf107, .inl (cf107, 96, .inl g901_8)), (qf108, .inl (cf108, 8, .inl g901_9)), (qf109, .inl (cf109, 96, .inl g901_10)), (qf110, .inl (cf110, 96, .inl g901_11)), (qf111, .inl (cf111, 96, .inl g901_12)), (qf100, .inl (cf100, 48000, .inl g901_1)), (qf101, .inl (cf101, 8, .inl g901_2)), (qf116, .inl (cf116, 309, .inl g901_13))] H := hP
          replace hD : va_D A [(qf92, .inl (cf92, 8, .inl f92)), (qf91, .inl (cf91, 48000, .inl f91)), (h0, .inr (13, z_1)), (qf103, .inl (cf103, 8, .inl g901_4)), (qf112, .inl (cf112, 6000, .inl g112_26)), (qf102, .inl (cf102, 2048, .inl g901_3)), (qf104, .inl (cf104, 8, .inl g901_5)), (qf105, .inl (cf105, 8, .inl g901_6)), (qf106, .inl (cf106, 8, .inl g901_7)), (qf107, .inl (cf107, 96, .inl g901_8)), (qf108, .inl (cf108, 8, .inl g901_9)), (qf109, .inl (cf109, 96, .inl g901_10)), (qf110, .inl (cf110, 96, .inl g901_11)), (qf111, .inl (cf111, 96, .inl g901_12)), (qf100, .inl (cf100, 48000, .inl g901_1)), (qf101, .inl (cf101, 8, .inl g901_2)), (qf116, .inl (cf116, 309, .inl g901_13))] := hD
          replace hK : va_K (dC, dI) vwCl [(cf92, .int), (cf91, .int), (cf103, .int), (cf112, .int), (cf102, .int), (cf104, .int), (cf105, .int), (cf106, .int), (cf107, .int), (cf108, .int), (cf109, .int), (cf110, .int), (cf111, .int), (cf100, .int), (cf101, .int), (cf116, .int)] s := hK
          obtain ⟨hwa_1, hln_1, hre_1, hch_1_114, hch_1_115, hch_1_138, hch_1_98, hch_1_99⟩ := hw
          have hfk_1_91 : z_1[91]? = some (.ref qf91) := (hre_1 91 (by decide) (by decide) (by decide) (by decide) (by decide)).trans (hfh_26_91)
          have hfk_1_92 : z_1[92]? = some (.ref qf92) := (hre_1 92 (by decide) (by decide) (by decide) (by decide) (by decide)).trans (hfh_26_92)
          have hfk_1_93 : z_1[93]? = some (.int v93) := (hre_1 93 (by decide) (by decide) (by decide) (by decide) (by decide)).trans (hfh_26_93)
          have hfk_1_100 : z_1[100]? = some (.ref qf100) := (hre_1 100 (by decide) (by decide) (by decide) (by decide) (by decide)).trans (hfh_26_100)
          have hfk_1_101 : z_1[101]? = some (.ref qf101) := (hre_1 101 (by decide) (by decide) (by decide) (by decide) (by decide)).trans (hfh_26_101)
          have hfk_1_102 : z_1[102]? = some (.ref qf102) := (hre_1 102 (by decide) (by decide) (by decide) (by decide) (by decide)).trans (hfh_26_102)
          have hfk_1_103 : z_1[103]? = some (.ref qf103) := (hre_1 103 (by decide) (by decide) (by decide) (by decide) (by decide)).trans (hfh_26_103)
          have hfk_1_104 : z_1[104]? = some (.ref qf104) := (hre_1 104 (by decide) (by decide) (by decide) (by decide) (by decide)).trans (hfh_26_104)
          have hfk_1_105 : z_1[105]? = some (.ref qf105) := (hre_1 105 (by decide) (by decide) (by decide) (by decide) (by decide)).trans (hfh_26_105)
          have hfk_1_106 : z_1[106]? = some (.ref qf106) := (hre_1 106 (by decide) (by decide) (by decide) (by decide) (by decide)).trans (hfh_26_106)
          have hfk_1_107 : z_1[107]? = some (.ref qf107) := (hre_1 107 (by decide) (by decide) (by decide) (by decide) (by decide)).trans (hfh_26_107)
          have hfk_1_108 : z_1[108]? = some (.ref qf108) := (hre_1 108 (by decide) (by decide) (by decide) (by decide) (by decide)).trans (hfh_26_108)
          have hfk_1_109 : z_1[109]? = some (.ref qf109) := (hre_1 109 (by decide) (by decide) (by decide) (by decide) (by decide)).trans (hfh_26_109)
          have hfk_1_110 : z_1[110]? = some (.ref qf110) := (hre_1 110 (by decide) (by decide) (by decide) (by decide) (by decide)).trans (hfh_26_110)
          have hfk_1_111 : z_1[111]? = some (.ref qf111) := (hre_1 111 (by decide) (by decide) (by decide) (by decide) (by decide)).trans (hfh_26_111)
          have hfk_1_112 : z_1[112]? = some (.ref qf112) := (hre_1 112 (by decide) (by decide) (by decide) (by decide) (by decide)).trans (hfh_26_112)
          have hfk_1_113 : z_1[113]? = some (.int x113_26) := (hre_1 113 (by decide) (by decide) (by decide) (by decide) (by decide)).trans (hfh_26_113)
          have hfk_1_116 : z_1[116]? = some (.ref qf116) := (hre_1 116 (by decide) (by decide) (by decide) (by decide) (by decide)).trans (hfh_26_116)
          have hrq_1 : ∀ j : Nat, j ≠ 113 → j ≠ 114 → j ≠ 115 → j ≠ 138 → j ≠ 98 → j ≠ 99 → z_1[j]? = zs[j]? := fun j g113 g114 g115 g138 g98 g99 => (hre_1 j g114 g115 g138 g98 g99).trans (hrh_26 j g113 g114 g115 g138 g98 g99)
          obtain rfl := hwa_1
          have hr0 := Option.some.inj hsp
          clear hsp
          obtain ⟨hq0, hr1⟩ := Prod.mk.inj hr0
          clear hr0
          obtain ⟨hq1, hr2⟩ := Prod.mk.inj hr1
          clear hr1
          obtain ⟨hq2, hr3⟩ := Prod.mk.inj hr2
          clear hr2
          obtain ⟨hq3, hr4⟩ := Prod.mk.inj hr3
          clear hr3
          obtain ⟨hq4, hr5⟩ := Prod.mk.inj hr4
          clear hr4
          obtain ⟨hq5, hr6⟩ := Prod.mk.inj hr5
          clear hr5
          obtain ⟨hq6, hr7⟩ := Prod.mk.inj hr6
          clear hr6
          obtain ⟨hq7, hr8⟩ := Prod.mk.inj hr7
          clear hr7
          obtain ⟨hq8, hr9⟩ := Prod.mk.inj hr8
          clear hr8
          obtain ⟨hq9, hr10⟩ := Prod.mk.inj hr9
          clear hr9
          obtain ⟨hq10, hr11⟩ := Prod.mk.inj hr10
          clear hr10
          obtain ⟨hq11, hr12⟩ := Prod.mk.inj hr11
          clear hr11
          obtain ⟨hq12, hr13⟩ := Prod.mk.inj hr12
          clear hr12
          obtain ⟨hq13, hr14⟩ := Prod.mk.inj hr13
          clear hr13
          obtain ⟨hq14, hr15⟩ := Prod.mk.inj hr14
          clear hr14
          obtain ⟨hq15, hr16⟩ := Prod.mk.inj hr15
          clear hr15
          obtain ⟨hq16, hr17⟩ := Prod.mk.inj hr16
          clear hr16
          obtain ⟨hq17, hr18⟩ := Prod.mk.inj hr17
          clear hr17
          obtain ⟨hq18, hr19⟩ := Prod.mk.inj hr18
          clear hr18
          obtain ⟨hq19, hr20⟩ := Prod.mk.inj hr19
          clear hr19
          subst hq0
          subst hq1
          subst hq2
          subst hq3
          subst hq4
          subst hq5
          subst hq6
          subst hq7
          subst hq8
          subst hq9
          subst hq10
          subst hq11
          subst hq12
          subst hq13
          subst hq14
          subst hq15
          subst hq16
          subst hq17
          subst hq18
          subst hq19
          subst hr20
          have hP9 := hP.sub (ws' := [(h0, .inr (13, z_1)), (qf92, .inl (cf92, 8, .inl f92)), (qf103, .inl (cf103, 8, .inl g901_4)), (qf112, .inl (cf112, 6000, .inl g112_26)), (qf102, .inl (cf102, 2048, .inl g901_3)), (qf104, .inl (cf104, 8, .inl g901_5)), (qf105, .inl (cf105, 8, .inl g901_6)), (qf106, .inl (cf106, 8, .inl g901_7)), (qf107, .inl (cf107, 96, .inl g901_8)), (qf108, .inl (cf108, 8, .inl g901_9)), (qf109, .inl (cf109, 96, .inl g901_10)), (qf110, .inl (cf110, 96, .inl g901_11)), (qf111, .inl (cf111, 96, .inl g901_12)), (qf100, .inl (cf100, 48000, .inl g901_1)), (qf101, .inl (cf101, 8, .inl g901_2)), (qf116, .inl (cf116, 309, .inl g901_13)), (qf91, .inl (cf91, 48000, .inl f91))]) [2, 0, 3, 4, 5, 6, 7, 8, 9, 10, 11, 12, 13, 14, 15, 16, 1] rfl
          have hD9 := hD.sub (ws' := [(h0, .inr (13, z_1)), (qf92, .inl (cf92, 8, .inl f92)), (qf103, .inl (cf103, 8, .inl g901_4)), (qf112, .inl (cf112, 6000, .inl g112_26)), (qf102, .inl (cf102, 2048, .inl g901_3)), (qf104, .inl (cf104, 8, .inl g901_5)), (qf105, .inl (cf105, 8, .inl g901_6)), (qf106, .inl (cf106, 8, .inl g901_7)), (qf107, .inl (cf107, 96, .inl g901_8)), (qf108, .inl (cf108, 8, .inl g901_9)), (qf109, .inl (cf109, 96, .inl g901_10)), (qf110, .inl (cf110, 96, .inl g901_11)), (qf111, .inl (cf111, 96, .inl g901_12)), (qf100, .inl (cf100, 48000, .inl g901_1)), (qf101, .inl (cf101, 8, .inl g901_2)), (qf116, .inl (cf116, 309, .inl g901_13)), (qf91, .inl (cf91, 48000, .inl f91))]) [2, 0, 3, 4, 5, 6, 7, 8, 9, 10, 11, 12, 13, 14, 15, 16, 1] (by decide) rfl
          have hK9 := hK.sub (tys' := [(cf92, .int), (cf103, .int), (cf112, .int), (cf102, .int), (cf104, .int), (cf105, .int), (cf106, .int), (cf107, .int), (cf108, .int), (cf109, .int), (cf110, .int), (cf111, .int), (cf100, .int), (cf101, .int), (cf116, .int), (cf91, .int)]) [0, 2, 3, 4, 5, 6, 7, 8, 9, 10, 11, 12, 13, 14, 15, 1] rfl
          exact W.iret hx hb hr (fun t ht hW => ⟨⟨(u1_0), (z_1), rfl, ⟨rfl, hln_1, hrq_1, hfk_1_113, hch_1_114, hch_1_115, hch_1_138, hch_1_98, hch_1_99⟩, by rw [ht]; exact hP9, va_K.moved hW.alike hK9, hD9⟩, hS.F ht⟩) hS.2.2 dX13_keep_62
        · rw [if_neg c_6] at hsp
          refine lv_aload_n hx hb dX13_keep_34 rfl (lv_at hl 1 rfl) ?_
          refine va_get (D := (dC, dI)) (ci := 13) (v := .ref qf112) (C := RX13) (T := TX13) (N := 155) hx hb hts uV_h9_X13 hown hK hP 0 rfl rfl 112 (by decide) (hts (.fieldLink RX13 245 "ClassMillModel" "look" "[I") mw_h9_242) (fun _ h9 => h9) hfh_26_112 dX13_keep_35 ?_
          refine lv_iload_n hx hb dX13_keep_38 rfl (lv_at hl 0 rfl) ?_
          refine lv_aload_n hx hb dX13_keep_39 rfl (lv_at hl 1 rfl) ?_
          refine va_get (D := (dC, dI)) (ci := 13) (v := .ref qf91) (C := RX13) (T := TX13) (N := 155) hx hb hts uV_h9_X13 hown hK hP 0 rfl rfl 91 (by decide) (hts (.fieldLink RX13 194 "ClassMillModel" "images" "[I") mw_h9_479) (fun _ h9 => h9) hfh_26_91 dX13_keep_40 ?_
          refine lv_sipush (v := 6000) hx hb dX13_keep_43 (by decide) ?_
          refine lv_iload_n hx hb dX13_keep_46 rfl (lv_at hl 2 rfl) ?_
          refine lv_imul hx hb dX13_keep_47 ?_
          refine lv_iload_n hx hb dX13_keep_48 rfl (lv_at hl 0 rfl) ?_
          refine lv_iadd hx hb dX13_keep_49 ?_
          obtain ⟨hi_8, hsp⟩ := ox_in hsp
          refine va_iald hx hb hK hP 16 15 rfl rfl (i := ((6000 * l1_26) + l2_26)) hi_8 dX13_keep_50 ?_
          obtain ⟨hi_9, hsp⟩ := ox_in hsp
          refine va_iast hx hb hK hP hD hS 3 2 rfl rfl (i := l2_26) (x := (f91 (((6000 * l1_26) + l2_26) : Int32).toNatClampNeg)) hi_9 dX13_keep_51 ?_
          clear hP hD hS
          intro H locs hP hD hS
          replace hP : va_P (dC, dI) vwCl [(h0, .inr (13, z26)), (qf92, .inl (cf92, 8, .inl f92)), (qf103, .inl (cf103, 8, .inl g103_26)), (qf112, .inl (cf112, 6000, .inl (upd g112_26 (l2_26 : Int32).toNatClampNeg (f91 (((6000 * l1_26) + l2_26) : Int32).toNatClampNeg)))), (qf102, .inl (cf102, 2048, .inl g102_26)), (qf104, .inl (cf104, 8, .inl g104_26)), (qf105, .inl (cf105, 8, .inl g105_26)), (qf106, .inl (cf106, 8, .inl g106_26)), (qf107, .inl (cf107, 96, .inl g107_26)), (qf108, .inl (cf108, 8, .inl g108_26)), (qf109, .inl (cf109, 96, .inl g109_26)), (qf110, .inl (cf110, 96, .inl g110_26)), (qf111, .inl (cf111, 96, .inl g111_26)), (qf100, .inl (cf100, 48000, .inl g100_26)), (qf101, .inl (cf101, 8, .inl g101_26)), (qf116, .inl (cf116, 309, .inl g116_26)), (qf91, .inl (cf91, 48000, .inl f91))] H := hP
          replace hD : va_D A [(h0, .inr (13, z26)), (qf92, .inl (cf92, 8, .inl f92)), (qf103, .inl (cf103, 8, .inl g103_26)), (qf112, .inl (cf112, 6000, .inl (upd g112_26 (l2_26 : Int32).toNatClampNeg (f91 (((6000 * l1_26) + l2_26) : Int32).toNatClampNeg)))), (qf102, .inl (cf102, 2048, .inl g102_26)), (qf104, .inl (cf104, 8, .inl g104_26)), (qf105, .inl (cf105, 8, .inl g105_26)), (qf106, .inl (cf106, 8, .inl g106_26)), (qf107, .inl (cf107, 96, .inl g107_26)), (qf108, .inl (cf108, 8, .inl g108_26)), (qf109, .inl (cf109, 96, .inl g109_26)), (qf110, .inl (cf110, 96, .inl g110_26)), (qf111, .inl (cf111, 96, .inl g111_26)), (qf100, .inl (cf100, 48000, .inl g100_26)), (qf101, .inl (cf101, 8, .inl g101_26)), (qf116, .inl (cf116, 309, .inl g116_26)), (qf91, .inl (cf91, 48000, .inl f91))] := hD
          refine lv_iinc (v := (l2_26 + 1)) (lv' := [(2, .int (l2_26 + 1)), (0, .ref h0), (1, .int l1_26)]) hx hb dX13_keep_52 hl (k := 0) rfl rfl (by decide) rfl (fun ls hl => ?_)
          refine lv_goto (tgt := 26) hx hb dX13_keep_55 (by decide) ?_
          exact ih_26 H locs ls z26 l1_26 (l2_26 + 1) g100_26 g101_26 g102_26 g103_26 g104_26 g105_26 g106_26 g107_26 g108_26 g109_26 g110_26 g111_26 (upd g112_26 (l2_26 : Int32).toNatClampNeg (f91 (((6000 * l1_26) + l2_26) : Int32).toNatClampNeg)) g116_26 x113_26 x114_26 x115_26 x138_26 x98_26 x99_26 (hfh_26_91) (hfh_26_92) (hfh_26_93) (hfh_26_98) (hfh_26_99) (hfh_26_100) (hfh_26_101) (hfh_26_102) (hfh_26_103) (hfh_26_104) (hfh_26_105) (hfh_26_106) (hfh_26_107) (hfh_26_108) (hfh_26_109) (hfh_26_110) (hfh_26_111) (hfh_26_112) (hfh_26_113) (hfh_26_114) (hfh_26_115) (hfh_26_116) (hfh_26_138) hlh_26 hrh_26 (lv_sub hl [0, 1, 2] rfl) hS (hD.sub (ws' := [(h0, .inr (13, z26)), (qf92, .inl (cf92, 8, .inl f92)), (qf103, .inl (cf103, 8, .inl g103_26)), (qf112, .inl (cf112, 6000, .inl (upd g112_26 (l2_26 : Int32).toNatClampNeg (f91 (((6000 * l1_26) + l2_26) : Int32).toNatClampNeg)))), (qf102, .inl (cf102, 2048, .inl g102_26)), (qf104, .inl (cf104, 8, .inl g104_26)), (qf105, .inl (cf105, 8, .inl g105_26)), (qf106, .inl (cf106, 8, .inl g106_26)), (qf107, .inl (cf107, 96, .inl g107_26)), (qf108, .inl (cf108, 8, .inl g108_26)), (qf109, .inl (cf109, 96, .inl g109_26)), (qf110, .inl (cf110, 96, .inl g110_26)), (qf111, .inl (cf111, 96, .inl g111_26)), (qf100, .inl (cf100, 48000, .inl g100_26)), (qf101, .inl (cf101, 8, .inl g101_26)), (qf116, .inl (cf116, 309, .inl g116_26)), (qf91, .inl (cf91, 48000, .inl f91))]) [0, 1, 2, 3, 4, 5, 6, 7, 8, 9, 10, 11, 12, 13, 14, 15, 16] (by decide) rfl) (hP.sub (ws' := [(h0, .inr (13, z26)), (qf92, .inl (cf92, 8, .inl f92)), (qf103, .inl (cf103, 8, .inl g103_26)), (qf112, .inl (cf112, 6000, .inl (upd g112_26 (l2_26 : Int32).toNatClampNeg (f91 (((6000 * l1_26) + l2_26) : Int32).toNatClampNeg)))), (qf102, .inl (cf102, 2048, .inl g102_26)), (qf104, .inl (cf104, 8, .inl g104_26)), (qf105, .inl (cf105, 8, .inl g105_26)), (qf106, .inl (cf106, 8, .inl g106_26)), (qf107, .inl (cf107, 96, .inl g107_26)), (qf108, .inl (cf108, 8, .inl g108_26)), (qf109, .inl (cf109, 96, .inl g109_26)), (qf110, .inl (cf110, 96, .inl g110_26)), (qf111, .inl (cf111, 96, .inl g111_26)), (qf100, .inl (cf100, 48000, .inl g100_26)), (qf101, .inl (cf101, 8, .inl g101_26)), (qf116, .inl (cf116, 309, .inl g116_26)), (qf91, .inl (cf91, 48000, .inl f91))]) [0, 1, 2, 3, 4, 5, 6, 7, 8, 9, 10, 11, 12, 13, 14, 15, 16] rfl) hsp
    · rw [if_neg c_2] at hsp
      refine lv_iconst (v := (-1)) hx hb dX13_keep_12 (by decide) ?_
      have hr0 := Option.some.inj hsp
      clear hsp
      obtain ⟨hq0, hr1⟩ := Prod.mk.inj hr0
      clear hr0
      obtain ⟨hq1, hr2⟩ := Prod.mk.inj hr1
      clear hr1
      obtain ⟨hq2, hr3⟩ := Prod.mk.inj hr2
      clear hr2
      obtain ⟨hq3, hr4⟩ := Prod.mk.inj hr3
      clear hr3
      obtain ⟨hq4, hr5⟩ := Prod.mk.inj hr4
      clear hr4
      obtain ⟨hq5, hr6⟩ := Prod.mk.inj hr5
      clear hr5
      obtain ⟨hq6, hr7⟩ := Prod.mk.inj hr6
      clear hr6
      obtain ⟨hq7, hr8⟩ := Prod.mk.inj hr7
      clear hr7
      obtain ⟨hq8, hr9⟩ := Prod.mk.inj hr8
      clear hr8
      obtain ⟨hq9, hr10⟩ := Prod.mk.inj hr9
      clear hr9
      obtain ⟨hq10, hr11⟩ := Prod.mk.inj hr10
      clear hr10
      obtain ⟨hq11, hr12⟩ := Prod.mk.inj hr11
      clear hr11
      obtain ⟨hq12, hr13⟩ := Prod.mk.inj hr12
      clear hr12
      obtain ⟨hq13, hr14⟩ := Prod.mk.inj hr13
      clear hr13
      obtain ⟨hq14, hr15⟩ := Prod.mk.inj hr14
      clear hr14
      obtain ⟨hq15, hr16⟩ := Prod.mk.inj hr15
      clear hr15
      obtain ⟨hq16, hr17⟩ := Prod.mk.inj hr16
      clear hr16
      obtain ⟨hq17, hr18⟩ := Prod.mk.inj hr17
      clear hr17
      obtain ⟨hq18, hr19⟩ := Prod.mk.inj hr18
      clear hr18
      obtain ⟨hq19, hr20⟩ := Prod.mk.inj hr19
      clear hr19
      subst hq0
      subst hq1
      subst hq2
      subst hq3
      subst hq4
      subst hq5
      subst hq6
      subst hq7
      subst hq8
      subst hq9
      subst hq10
      subst hq11
      subst hq12
      subst hq13
      subst hq14
      subst hq15
      subst hq16
      subst hq17
      subst hq18
      subst hq19
      subst hr20
      have hP9 := hP.sub (ws' := [(h0, .inr (13, zs)), (qf92, .inl (cf92, 8, .inl f92)), (qf103, .inl (cf103, 8, .inl f103)), (qf112, .inl (cf112, 6000, .inl f112)), (qf102, .inl (cf102, 2048, .inl f102)), (qf104, .inl (cf104, 8, .inl f104)), (qf105, .inl (cf105, 8, .inl f105)), (qf106, .inl (cf106, 8, .inl f106)), (qf107, .inl (cf107, 96, .inl f107)), (qf108, .inl (cf108, 8, .inl f108)), (qf109, .inl (cf109, 96, .inl f109)), (qf110, .inl (cf110, 96, .inl f110)), (qf111, .inl (cf111, 96, .inl f111)), (qf100, .inl (cf100, 48000, .inl f100)), (qf101, .inl (cf101, 8, .inl f101)), (qf116, .inl (cf116, 309, .inl f116)), (qf91, .inl (cf91, 48000, .inl f91))]) [0, 1, 2, 3, 4, 5, 6, 7, 8, 9, 10, 11, 12, 13, 14, 15, 16] rfl
      have hD9 := hD.sub (ws' := [(h0, .inr (13, zs)), (qf92, .inl (cf92, 8, .inl f92)), (qf103, .inl (cf103, 8, .inl f103)), (qf112, .inl (cf112, 6000, .inl f112)), (qf102, .inl (cf102, 2048, .inl f102)), (qf104, .inl (cf104, 8, .inl f104)), (qf105, .inl (cf105, 8, .inl f105)), (qf106, .inl (cf106, 8, .inl f106)), (qf107, .inl (cf107, 96, .inl f107)), (qf108, .inl (cf108, 8, .inl f108)), (qf109, .inl (cf109, 96, .inl f109)), (qf110, .inl (cf110, 96, .inl f110)), (qf111, .inl (cf111, 96, .inl f111)), (qf100, .inl (cf100, 48000, .inl f100)), (qf101, .inl (cf101, 8, .inl f101)), (qf116, .inl (cf116, 309, .inl f116)), (qf91, .inl (cf91, 48000, .inl f91))]) [0, 1, 2, 3, 4, 5, 6, 7, 8, 9, 10, 11, 12, 13, 14, 15, 16] (by decide) rfl
      have hK9 := hK.sub (tys' := [(cf92, .int), (cf103, .int), (cf112, .int), (cf102, .int), (cf104, .int), (cf105, .int), (cf106, .int), (cf107, .int), (cf108, .int), (cf109, .int), (cf110, .int), (cf111, .int), (cf100, .int), (cf101, .int), (cf116, .int), (cf91, .int)]) [0, 1, 2, 3, 4, 5, 6, 7, 8, 9, 10, 11, 12, 13, 14, 15] rfl
      exact W.iret hx hb hr (fun t ht hW => ⟨⟨((-1)), (zs), rfl, ⟨rfl, hlen, hrs0, hf113, hf114, hf115, hf138, hf98, hf99⟩, by rw [ht]; exact hP9, va_K.moved hW.alike hK9, hD9⟩, hS.F ht⟩) hS.2.2 dX13_keep_13
def jn_vm_patch_235 (nf : Nat) (a1 : Int32) (a2 : Int32) (a3 : Int32) (v98 : Int32) (v99 : Int32) (v113 : Int32) (v114 : Int32) (v115 : Int32) (v138 : Int32) (f101 : Nat → Int32) (f112 : Nat → Int32) (f103 : Nat → Int32) (f116 : Nat → Int32) (f104 : Nat → Int32) (f105 : Nat → Int32) (f106 : Nat → Int32) (f108 : Nat → Int32) (f107 : Nat → Int32) (f109 : Nat → Int32) (f110 : Nat → Int32) (f111 : Nat → Int32) (f102 : Nat → Int32) (f100 : Nat → Int32) (nS477 : Nat) (fS477 : Nat → Int32)  (l4_235 : Int32) (l5_235 : Int32) (g100_235 : Nat → Int32) (g101_235 : Nat → Int32) (g102_235 : Nat → Int32) (g103_235 : Nat → Int32) (g104_235 : Nat → Int32) (g105_235 : Nat → Int32) (g106_235 : Nat → Int32) (g107_235 : Nat → Int32) (g108_235 : Nat → Int32) (g109_235 : Nat → Int32) (g110_235 : Nat → Int32) (g111_235 : Nat → Int32) (g112_235 : Nat → Int32) (g116_235 : Nat → Int32) (x113_235 : Int32) (x114_235 : Int32) (x115_235 : Int32) (x138_235 : Int32) (x99_235 : Int32) : Option (Int32 × (Nat → Int32) × (Nat → Int32) × (Nat → Int32) × (Nat → Int32) × (Nat → Int32) × (Nat → Int32) × (Nat → Int32) × (Nat → Int32) × (Nat → Int32) × (Nat → Int32) × (Nat → Int32) × (Nat → Int32) × (Nat → Int32) × (Nat → Int32) × Int32 × Int32 × Int32 × Int32 × Int32) := (if l5_235 = 0 then ((sp_vm_again nf l4_235 g116_235 g103_235 g104_235 g105_235 g106_235 g108_235 g107_235 g109_235 g110_235 g111_235 g102_235).bind (fun p1 => (some (0, g100_235, g101_235, p1.1, p1.2.1, p1.2.2.1, p1.2.2.2.1, p1.2.2.2.2.1, p1.2.2.2.2.2.1, p1.2.2.2.2.2.2.1, p1.2.2.2.2.2.2.2.1, p1.2.2.2.2.2.2.2.2.1, p1.2.2.2.2.2.2.2.2.2, g112_235, g116_235, x113_235, x114_235, x115_235, x138_235, x99_235)))) else ((sp_tn_install nf l4_235 x113_235 g101_235 g112_235 g100_235).bind (fun p2 => (some (1, p2.2.1, p2.2.2, g102_235, g103_235, g104_235, g105_235, g106_235, g107_235, g108_235, g109_235, g110_235, g111_235, g112_235, g116_235, x113_235, x114_235, x115_235, 0, 0)))))
def lp_vm_patch_173 (nf n : Nat) (a1 : Int32) (a2 : Int32) (a3 : Int32) (v98 : Int32) (v99 : Int32) (v113 : Int32) (v114 : Int32) (v115 : Int32) (v138 : Int32) (f101 : Nat → Int32) (f112 : Nat → Int32) (f103 : Nat → Int32) (f116 : Nat → Int32) (f104 : Nat → Int32) (f105 : Nat → Int32) (f106 : Nat → Int32) (f108 : Nat → Int32) (f107 : Nat → Int32) (f109 : Nat → Int32) (f110 : Nat → Int32) (f111 : Nat → Int32) (f102 : Nat → Int32) (f100 : Nat → Int32) (nS477 : Nat) (fS477 : Nat → Int32)  (l1_173 : Int32) (l4_173 : Int32) (l5_173 : Int32) (l6_173 : Int32) (l7_173 : Int32) (g100_173 : Nat → Int32) (g101_173 : Nat → Int32) (g102_173 : Nat → Int32) (g103_173 : Nat → Int32) (g104_173 : Nat → Int32) (g105_173 : Nat → Int32) (g106_173 : Nat → Int32) (g107_173 : Nat → Int32) (g108_173 : Nat → Int32) (g109_173 : Nat → Int32) (g110_173 : Nat → Int32) (g111_173 : Nat → Int32) (g112_173 : Nat → Int32) (g116_173 : Nat → Int32) (x113_173 : Int32) (x114_173 : Int32) (x115_173 : Int32) (x138_173 : Int32) (x99_173 : Int32) : Option (Int32 × (Nat → Int32) × (Nat → Int32) × (Nat → Int32) × (Nat → Int32) × (Nat → Int32) × (Nat → Int32) × (Nat → Int32) × (Nat → Int32) × (Nat → Int32) × (Nat → Int32) × (Nat → Int32) × (Nat → Int32) × (Nat → Int32) × (Nat → Int32) × Int32 × Int32 × Int32 × Int32 × Int32) := match n with
  | 0 => none
  | n + 1 => (if (8 + v98) ≤ l7_173 then (jn_vm_patch_235 nf a1 a2 a3 v98 v99 v113 v114 v115 v138 f101 f112 f103 f116 f104 f105 f106 f108 f107 f109 f110 f111 f102 f100 nS477 fS477  l4_173 l5_173 g100_173 g101_173 g102_173 g103_173 g104_173 g105_173 g106_173 g107_173 g108_173 g109_173 g110_173 g111_173 g112_173 g116_173 x113_173 x114_173 x115_173 x138_173 x99_173) else (if l5_173 = 0 then (jn_vm_patch_235 nf a1 a2 a3 v98 v99 v113 v114 v115 v138 f101 f112 f103 f116 f104 f105 f106 f108 f107 f109 f110 f111 f102 f100 nS477 fS477  l4_173 l5_173 g100_173 g101_173 g102_173 g103_173 g104_173 g105_173 g106_173 g107_173 g108_173 g109_173 g110_173 g111_173 g112_173 g116_173 x113_173 x114_173 x115_173 x138_173 x99_173) else (if l7_173 = l1_173 then (lp_vm_patch_173 nf n a1 a2 a3 v98 v99 v113 v114 v115 v138 f101 f112 f103 f116 f104 f105 f106 f108 f107 f109 f110 f111 f102 f100 nS477 fS477 l1_173 l4_173 1 l6_173 (l7_173 + 1) g100_173 g101_173 g102_173 g103_173 g104_173 g105_173 g106_173 g107_173 g108_173 g109_173 g110_173 g111_173 g112_173 g116_173 x113_173 x114_173 x115_173 x138_173 x99_173) else (if (l6_173 + 1) < 0 then none else if 6000 ≤ ((l6_173 + 1) : Int32).toNatClampNeg then none else ((sp_vm_isNamed nf l7_173 (l6_173 + 2) (g112_173 ((l6_173 + 1) : Int32).toNatClampNeg) g104_173 g102_173 g100_173 6000 g112_173 nS477 fS477).bind (fun p1 => (if p1 = 0 then (lp_vm_patch_173 nf n a1 a2 a3 v98 v99 v113 v114 v115 v138 f101 f112 f103 f116 f104 f105 f106 f108 f107 f109 f110 f111 f102 f100 nS477 fS477 l1_173 l4_173 1 l6_173 (l7_173 + 1) g100_173 g101_173 g102_173 g103_173 g104_173 g105_173 g106_173 g107_173 g108_173 g109_173 g110_173 g111_173 g112_173 g116_173 x113_173 x114_173 x115_173 x138_173 x99_173) else (lp_vm_patch_173 nf n a1 a2 a3 v98 v99 v113 v114 v115 v138 f101 f112 f103 f116 f104 f105 f106 f108 f107 f109 f110 f111 f102 f100 nS477 fS477 l1_173 l4_173 0 l6_173 (l7_173 + 1) g100_173 g101_173 g102_173 g103_173 g104_173 g105_173 g106_173 g107_173 g108_173 g109_173 g110_173 g111_173 g112_173 g116_173 x113_173 x114_173 x115_173 x138_173 x99_173))))))))
def jn_vm_patch_123 (nf : Nat) (a1 : Int32) (a2 : Int32) (a3 : Int32) (v98 : Int32) (v99 : Int32) (v113 : Int32) (v114 : Int32) (v115 : Int32) (v138 : Int32) (f101 : Nat → Int32) (f112 : Nat → Int32) (f103 : Nat → Int32) (f116 : Nat → Int32) (f104 : Nat → Int32) (f105 : Nat → Int32) (f106 : Nat → Int32) (f108 : Nat → Int32) (f107 : Nat → Int32) (f109 : Nat → Int32) (f110 : Nat → Int32) (f111 : Nat → Int32) (f102 : Nat → Int32) (f100 : Nat → Int32) (nS477 : Nat) (fS477 : Nat → Int32)  (l1_123 : Int32) (l4_123 : Int32) (s0_123 : Int32) (g100_123 : Nat → Int32) (g101_123 : Nat → Int32) (g102_123 : Nat → Int32) (g103_123 : Nat → Int32) (g104_123 : Nat → Int32) (g105_123 : Nat → Int32) (g106_123 : Nat → Int32) (g107_123 : Nat → Int32) (g108_123 : Nat → Int32) (g109_123 : Nat → Int32) (g110_123 : Nat → Int32) (g111_123 : Nat → Int32) (g112_123 : Nat → Int32) (g116_123 : Nat → Int32) (x113_123 : Int32) (x114_123 : Int32) (x115_123 : Int32) (x138_123 : Int32) (x99_123 : Int32) : Option (Int32 × (Nat → Int32) × (Nat → Int32) × (Nat → Int32) × (Nat → Int32) × (Nat → Int32) × (Nat → Int32) × (Nat → Int32) × (Nat → Int32) × (Nat → Int32) × (Nat → Int32) × (Nat → Int32) × (Nat → Int32) × (Nat → Int32) × (Nat → Int32) × Int32 × Int32 × Int32 × Int32 × Int32) := (if s0_123 = 0 then (jn_vm_patch_235 nf a1 a2 a3 v98 v99 v113 v114 v115 v138 f101 f112 f103 f116 f104 f105 f106 f108 f107 f109 f110 f111 f102 f100 nS477 fS477  l4_123 s0_123 g100_123 g101_123 g102_123 g103_123 g104_123 g105_123 g106_123 g107_123 g108_123 g109_123 g110_123 g111_123 g112_123 g116_123 x113_123 x114_123 x115_123 x138_123 x99_123) else (if l4_123 < 0 then none else if 8 ≤ (l4_123 : Int32).toNatClampNeg then none else (if ((256 * l4_123) + (g104_123 (l4_123 : Int32).toNatClampNeg)) < 0 then none else if 2048 ≤ (((256 * l4_123) + (g104_123 (l4_123 : Int32).toNatClampNeg)) : Int32).toNatClampNeg then none else (if ((g102_123 (((256 * l4_123) + (g104_123 (l4_123 : Int32).toNatClampNeg)) : Int32).toNatClampNeg) + 1) < 0 then none else if 6000 ≤ (((g102_123 (((256 * l4_123) + (g104_123 (l4_123 : Int32).toNatClampNeg)) : Int32).toNatClampNeg) + 1) : Int32).toNatClampNeg then none else (if ((256 * l4_123) + (g112_123 (((g102_123 (((256 * l4_123) + (g104_123 (l4_123 : Int32).toNatClampNeg)) : Int32).toNatClampNeg) + 1) : Int32).toNatClampNeg)) < 0 then none else if 2048 ≤ (((256 * l4_123) + (g112_123 (((g102_123 (((256 * l4_123) + (g104_123 (l4_123 : Int32).toNatClampNeg)) : Int32).toNatClampNeg) + 1) : Int32).toNatClampNeg)) : Int32).toNatClampNeg then none else (lp_vm_patch_173 nf nf a1 a2 a3 v98 v99 v113 v114 v115 v138 f101 f112 f103 f116 f104 f105 f106 f108 f107 f109 f110 f111 f102 f100 nS477 fS477  l1_123 l4_123 s0_123 (g102_123 (((256 * l4_123) + (g112_123 (((g102_123 (((256 * l4_123) + (g104_123 (l4_123 : Int32).toNatClampNeg)) : Int32).toNatClampNeg) + 1) : Int32).toNatClampNeg)) : Int32).toNatClampNeg) 0 g100_123 g101_123 g102_123 g103_123 g104_123 g105_123 g106_123 g107_123 g108_123 g109_123 g110_123 g111_123 g112_123 g116_123 x113_123 x114_123 x115_123 x138_123 x99_123))))))
def lp_vm_patch_51 (nf n : Nat) (a1 : Int32) (a2 : Int32) (a3 : Int32) (v98 : Int32) (v99 : Int32) (v113 : Int32) (v114 : Int32) (v115 : Int32) (v138 : Int32) (f101 : Nat → Int32) (f112 : Nat → Int32) (f103 : Nat → Int32) (f116 : Nat → Int32) (f104 : Nat → Int32) (f105 : Nat → Int32) (f106 : Nat → Int32) (f108 : Nat → Int32) (f107 : Nat → Int32) (f109 : Nat → Int32) (f110 : Nat → Int32) (f111 : Nat → Int32) (f102 : Nat → Int32) (f100 : Nat → Int32) (nS477 : Nat) (fS477 : Nat → Int32)  (l1_51 : Int32) (l2_51 : Int32) (l3_51 : Int32) (l4_51 : Int32) (l5_51 : Int32) (g100_51 : Nat → Int32) (g101_51 : Nat → Int32) (g102_51 : Nat → Int32) (g103_51 : Nat → Int32) (g104_51 : Nat → Int32) (g105_51 : Nat → Int32) (g106_51 : Nat → Int32) (g107_51 : Nat → Int32) (g108_51 : Nat → Int32) (g109_51 : Nat → Int32) (g110_51 : Nat → Int32) (g111_51 : Nat → Int32) (g112_51 : Nat → Int32) (g116_51 : Nat → Int32) (x113_51 : Int32) (x114_51 : Int32) (x115_51 : Int32) (x138_51 : Int32) (x99_51 : Int32) : Option (Int32 × (Nat → Int32) × (Nat → Int32) × (Nat → Int32) × (Nat → Int32) × (Nat → Int32) × (Nat → Int32) × (Nat → Int32) × (Nat → Int32) × (Nat → Int32) × (Nat → Int32) × (Nat → Int32) × (Nat → Int32) × (Nat → Int32) × (Nat → Int32) × Int32 × Int32 × Int32 × Int32 × Int32) := match n with
  | 0 => none
  | n + 1 => (if x113_51 ≤ l5_51 then (if l2_51 < 0 then none else if 6000 ≤ (l2_51 : Int32).toNatClampNeg then none else ((sp_vm_aside nf l4_51 g103_51 g116_51 g104_51 g105_51 g106_51 g108_51 g107_51 g109_51 g110_51 g111_51 g102_51).bind (fun p1 => ((sp_vm_scan nf l4_51 x113_51 g103_51 (upd g112_51 (l2_51 : Int32).toNatClampNeg (l3_51 &&& 255)) g102_51 g104_51 g105_51 g106_51 g107_51 g108_51 g109_51 g110_51 g111_51).bind (fun p2 => (if p2.2.2.2.2.2.2.2.2.2.2.1 = (-1) then (jn_vm_patch_123 nf a1 a2 a3 v98 v99 v113 v114 v115 v138 f101 f112 f103 f116 f104 f105 f106 f108 f107 f109 f110 f111 f102 f100 nS477 fS477  l1_51 l4_51 1 g100_51 g101_51 p2.1 p2.2.1 p2.2.2.1 p2.2.2.2.1 p2.2.2.2.2.1 p2.2.2.2.2.2.1 p2.2.2.2.2.2.2.1 p2.2.2.2.2.2.2.2.1 p2.2.2.2.2.2.2.2.2.1 p2.2.2.2.2.2.2.2.2.2.1 (upd g112_51 (l2_51 : Int32).toNatClampNeg (l3_51 &&& 255)) p1 x113_51 p2.2.2.2.2.2.2.2.2.2.2.1 p2.2.2.2.2.2.2.2.2.2.2.2 x138_51 x99_51) else (jn_vm_patch_123 nf a1 a2 a3 v98 v99 v113 v114 v115 v138 f101 f112 f103 f116 f104 f105 f106 f108 f107 f109 f110 f111 f102 f100 nS477 fS477  l1_51 l4_51 0 g100_51 g101_51 p2.1 p2.2.1 p2.2.2.1 p2.2.2.2.1 p2.2.2.2.2.1 p2.2.2.2.2.2.1 p2.2.2.2.2.2.2.1 p2.2.2.2.2.2.2.2.1 p2.2.2.2.2.2.2.2.2.1 p2.2.2.2.2.2.2.2.2.2.1 (upd g112_51 (l2_51 : Int32).toNatClampNeg (l3_51 &&& 255)) p1 x113_51 p2.2.2.2.2.2.2.2.2.2.2.1 p2.2.2.2.2.2.2.2.2.2.2.2 x138_51 x99_51))))))) else (if ((6000 * l4_51) + l5_51) < 0 then none else if 48000 ≤ (((6000 * l4_51) + l5_51) : Int32).toNatClampNeg then none else (if l5_51 < 0 then none else if 6000 ≤ (l5_51 : Int32).toNatClampNeg then none else (lp_vm_patch_51 nf n a1 a2 a3 v98 v99 v113 v114 v115 v138 f101 f112 f103 f116 f104 f105 f106 f108 f107 f109 f110 f111 f102 f100 nS477 fS477 l1_51 l2_51 l3_51 l4_51 (l5_51 + 1) g100_51 g101_51 g102_51 g103_51 g104_51 g105_51 g106_51 g107_51 g108_51 g109_51 g110_51 g111_51 (upd g112_51 (l5_51 : Int32).toNatClampNeg (g100_51 (((6000 * l4_51) + l5_51) : Int32).toNatClampNeg)) g116_51 x113_51 x114_51 x115_51 x138_51 x99_51))))
def sp_vm_patch (nf : Nat) (a1 : Int32) (a2 : Int32) (a3 : Int32) (v98 : Int32) (v99 : Int32) (v113 : Int32) (v114 : Int32) (v115 : Int32) (v138 : Int32) (f101 : Nat → Int32) (f112 : Nat → Int32) (f103 : Nat → Int32) (f116 : Nat → Int32) (f104 : Nat → Int32) (f105 : Nat → Int32) (f106 : Nat → Int32) (f108 : Nat → Int32) (f107 : Nat → Int32) (f109 : Nat → Int32) (f110 : Nat → Int32) (f111 : Nat → Int32) (f102 : Nat → Int32) (f100 : Nat → Int32) (nS477 : Nat) (fS477 : Nat → Int32) : Option (Int32 × (Nat → Int32) × (Nat → Int32) × (Nat → Int32) × (Nat → Int32) × (Nat → Int32) × (Nat → Int32) × (Nat → Int32) × (Nat → Int32) × (Nat → Int32) × (Nat → Int32) × (Nat → Int32) × (Nat → Int32) × (Nat → Int32) × (Nat → Int32) × Int32 × Int32 × Int32 × Int32 × Int32) := (if (a1 - 8) < 0 then (some (0, f100, f101, f102, f103, f104, f105, f106, f107, f108, f109, f110, f111, f112, f116, v113, v114, v115, v138, v99)) else (if v98 ≤ (a1 - 8) then (some (0, f100, f101, f102, f103, f104, f105, f106, f107, f108, f109, f110, f111, f112, f116, v113, v114, v115, v138, v99)) else (if a2 < 0 then (some (0, f100, f101, f102, f103, f104, f105, f106, f107, f108, f109, f110, f111, f112, f116, v113, v114, v115, v138, v99)) else (if (a1 - 8) < 0 then none else if 8 ≤ ((a1 - 8) : Int32).toNatClampNeg then none else (if a2 < (f101 ((a1 - 8) : Int32).toNatClampNeg) then (if (a1 - 8) < 0 then none else if 8 ≤ ((a1 - 8) : Int32).toNatClampNeg then none else (lp_vm_patch_51 nf nf a1 a2 a3 v98 v99 v113 v114 v115 v138 f101 f112 f103 f116 f104 f105 f106 f108 f107 f109 f110 f111 f102 f100 nS477 fS477  a1 a2 a3 (a1 - 8) 0 f100 f101 f102 f103 f104 f105 f106 f107 f108 f109 f110 f111 f112 f116 (f101 ((a1 - 8) : Int32).toNatClampNeg) v114 v115 v138 v99)) else (some (0, f100, f101, f102, f103, f104, f105, f106, f107, f108, f109, f110, f111, f112, f116, v113, v114, v115, v138, v99)))))))

set_option maxHeartbeats 4000000 in
set_option maxRecDepth 100000 in
/-- ClassMillModel.loaded -/
theorem vm_loaded (l : Launch) (dC : Nat → ClassId) (dI : Nat → Nat → Nat) (sz : Nat) (h0 : Nat) (zs : (List Value)) (v98 : Int32) (v99 : Int32) (qf100 : Nat) (qf101 : Nat) (qf102 : Nat) (qf103 : Nat) (qf104 : Nat) (qf105 : Nat) (qf106 : Nat) (qf107 : Nat) (qf108 : Nat) (qf109 : Nat) (qf110 : Nat) (qf111 : Nat) (qf112 : Nat) (v113 : Int32) (v114 : Int32) (v115 : Int32) (qf116 : Nat) (v138 : Int32) (cf103 : ClassId) (f103 : (Nat → Int32)) (cf112 : ClassId) (f112 : (Nat → Int32)) (cf102 : ClassId) (f102 : (Nat → Int32)) (cf104 : ClassId) (f104 : (Nat → Int32)) (cf105 : ClassId) (f105 : (Nat → Int32)) (cf106 : ClassId) (f106 : (Nat → Int32)) (cf107 : ClassId) (f107 : (Nat → Int32)) (cf108 : ClassId) (f108 : (Nat → Int32)) (cf109 : ClassId) (f109 : (Nat → Int32)) (cf110 : ClassId) (f110 : (Nat → Int32)) (cf111 : ClassId) (f111 : (Nat → Int32)) (cf100 : ClassId) (f100 : (Nat → Int32)) (cf101 : ClassId) (f101 : (Nat → Int32)) (cf116 : ClassId) (f116 : (Nat → Int32)) (nS477 : Nat) (fS477 : (Nat → Int32)) (hS477 : Nat) (qS477 : Nat) (tS477 : String) (nf : Nat) (r0 : Int32) (o100 : (Nat → Int32)) (o101 : (Nat → Int32)) (o102 : (Nat → Int32)) (o103 : (Nat → Int32)) (o104 : (Nat → Int32)) (o105 : (Nat → Int32)) (o106 : (Nat → Int32)) (o107 : (Nat → Int32)) (o108 : (Nat → Int32)) (o109 : (Nat → Int32)) (o110 : (Nat → Int32)) (o111 : (Nat → Int32)) (o116 : (Nat → Int32)) (w114 : Int32) (w115 : Int32) (w138 : Int32) (w98 : Int32) (w99 : Int32) (hlen : zs.length = 155) (hf98 : zs[98]? = some (.int v98)) (hf99 : zs[99]? = some (.int v99)) (hf100 : zs[100]? = some (.ref qf100)) (hf101 : zs[101]? = some (.ref qf101)) (hf102 : zs[102]? = some (.ref qf102)) (hf103 : zs[103]? = some (.ref qf103)) (hf104 : zs[104]? = some (.ref qf104)) (hf105 : zs[105]? = some (.ref qf105)) (hf106 : zs[106]? = some (.ref qf106)) (hf107 : zs[107]? = some (.ref qf107)) (hf108 : zs[108]? = some (.ref qf108)) (hf109 : zs[109]? = some (.ref qf109)) (hf110 : zs[110]? = some (.ref qf110)) (hf111 : zs[111]? = some (.ref qf111)) (hf112 : zs[112]? = some (.ref qf112)) (hf113 : zs[113]? = some (.int v113)) (hf114 : zs[114]? = some (.int v114)) (hf115 : zs[115]? = some (.int v115)) (hf116 : zs[116]? = some (.ref qf116)) (hf138 : zs[138]? = some (.int v138)) (hsp : sp_vm_loaded nf v98 v99 v113 v138 f103 f112 f102 f104 f105 f106 f107 f108 f109 f110 f111 f100 f101 f116 nS477 fS477 = some (r0, o100, o101, o102, o103, o104, o105, o106, o107, o108, o109, o110, o111, o116, w114, w115, w138, w98, w99)) : Met l yX13_loaded (.code yX13_loaded cX13_loaded 3 (some .int) :: VS_h9) ({ frames := 10, cells := 0, slots := 0, locals := 238 }) (va_Pc [.ref h0] (fun U => U.heap.size = sz ∧ va_P (dC, dI) vwCl [(h0, .inr (13, zs)), (qf103, .inl (cf103, 8, .inl f103)), (qf112, .inl (cf112, 6000, .inl f112)), (qf102, .inl (cf102, 2048, .inl f102)), (qf104, .inl (cf104, 8, .inl f104)), (qf105, .inl (cf105, 8, .inl f105)), (qf106, .inl (cf106, 8, .inl f106)), (qf107, .inl (cf107, 96, .inl f107)), (qf108, .inl (cf108, 8, .inl f108)), (qf109, .inl (cf109, 96, .inl f109)), (qf110, .inl (cf110, 96, .inl f110)), (qf111, .inl (cf111, 96, .inl f111)), (qf100, .inl (cf100, 48000, .inl f100)), (qf101, .inl (cf101, 8, .inl f101)), (qf116, .inl (cf116, 309, .inl f116))] U.heap ∧ va_K (dC, dI) vwCl [(cf103, .int), (cf112, .int), (cf102, .int), (cf104, .int), (cf105, .int), (cf106, .int), (cf107, .int), (cf108, .int), (cf109, .int), (cf110, .int), (cf111, .int), (cf100, .int), (cf101, .int), (cf116, .int)] U ∧ va_D (fun _ => True) [(h0, .inr (13, zs)), (qf103, .inl (cf103, 8, .inl f103)), (qf112, .inl (cf112, 6000, .inl f112)), (qf102, .inl (cf102, 2048, .inl f102)), (qf104, .inl (cf104, 8, .inl f104)), (qf105, .inl (cf105, 8, .inl f105)), (qf106, .inl (cf106, 8, .inl f106)), (qf107, .inl (cf107, 96, .inl f107)), (qf108, .inl (cf108, 8, .inl f108)), (qf109, .inl (cf109, 96, .inl f109)), (qf110, .inl (cf110, 96, .inl f110)), (qf111, .inl (cf111, 96, .inl f111)), (qf100, .inl (cf100, 48000, .inl f100)), (qf101, .inl (cf101, 8, .inl f101)), (qf116, .inl (cf116, 309, .inl f116))] ∧ pz_W nS477 fS477 hS477 qS477 (va_A [(h0, .inr (13, zs)), (qf103, .inl (cf103, 8, .inl f103)), (qf112, .inl (cf112, 6000, .inl f112)), (qf102, .inl (cf102, 2048, .inl f102)), (qf104, .inl (cf104, 8, .inl f104)), (qf105, .inl (cf105, 8, .inl f105)), (qf106, .inl (cf106, 8, .inl f106)), (qf107, .inl (cf107, 96, .inl f107)), (qf108, .inl (cf108, 8, .inl f108)), (qf109, .inl (cf109, 96, .inl f109)), (qf110, .inl (cf110, 96, .inl f110)), (qf111, .inl (cf111, 96, .inl f111)), (qf100, .inl (cf100, 48000, .inl f100)), (qf101, .inl (cf101, 8, .inl f101)), (qf116, .inl (cf116, 309, .inl f116))] sz) U U.heap ∧ vk_R RX13 477 tS477 hS477 U)) (va_Qi (fun (r : Int32) (u : (List Value)) => match u with | (zo1) => r0 = r ∧ zo1.length = 155 ∧ (∀ j : Nat, j ≠ 114 → j ≠ 115 → j ≠ 138 → j ≠ 98 → j ≠ 99 → zo1[j]? = zs[j]?) ∧ zo1[114]? = some (.int w114) ∧ zo1[115]? = some (.int w115) ∧ zo1[138]? = some (.int w138) ∧ zo1[98]? = some (.int w98) ∧ zo1[99]? = some (.int w99)) (fun (u : (List Value)) (t : State) => match u with | (zo1) => va_P (dC, dI) vwCl [(h0, .inr (13, zo1)), (qf103, .inl (cf103, 8, .inl o103)), (qf112, .inl (cf112, 6000, .inl f112)), (qf102, .inl (cf102, 2048, .inl o102)), (qf104, .inl (cf104, 8, .inl o104)), (qf105, .inl (cf105, 8, .inl o105)), (qf106, .inl (cf106, 8, .inl o106)), (qf107, .inl (cf107, 96, .inl o107)), (qf108, .inl (cf108, 8, .inl o108)), (qf109, .inl (cf109, 96, .inl o109)), (qf110, .inl (cf110, 96, .inl o110)), (qf111, .inl (cf111, 96, .inl o111)), (qf100, .inl (cf100, 48000, .inl o100)), (qf101, .inl (cf101, 8, .inl o101)), (qf116, .inl (cf116, 309, .inl o116))] t.heap ∧ va_K (dC, dI) vwCl [(cf103, .int), (cf112, .int), (cf102, .int), (cf104, .int), (cf105, .int), (cf106, .int), (cf107, .int), (cf108, .int), (cf109, .int), (cf110, .int), (cf111, .int), (cf100, .int), (cf101, .int), (cf116, .int)] t ∧ va_D (va_A [(h0, .inr (13, zs)), (qf103, .inl (cf103, 8, .inl f103)), (qf112, .inl (cf112, 6000, .inl f112)), (qf102, .inl (cf102, 2048, .inl f102)), (qf104, .inl (cf104, 8, .inl f104)), (qf105, .inl (cf105, 8, .inl f105)), (qf106, .inl (cf106, 8, .inl f106)), (qf107, .inl (cf107, 96, .inl f107)), (qf108, .inl (cf108, 8, .inl f108)), (qf109, .inl (cf109, 96, .inl f109)), (qf110, .inl (cf110, 96, .inl f110)), (qf111, .inl (cf111, 96, .inl f111)), (qf100, .inl (cf100, 48000, .inl f100)), (qf101, .inl (cf101, 8, .inl f101)), (qf116, .inl (cf116, 309, .inl f116))] sz) [(h0, .inr (13, zo1)), (qf103, .inl (cf103, 8, .inl o103)), (qf112, .inl (cf112, 6000, .inl f112)), (qf102, .inl (cf102, 2048, .inl o102)), (qf104, .inl (cf104, 8, .inl o104)), (qf105, .inl (cf105, 8, .inl o105)), (qf106, .inl (cf106, 8, .inl o106)), (qf107, .inl (cf107, 96, .inl o107)), (qf108, .inl (cf108, 8, .inl o108)), (qf109, .inl (cf109, 96, .inl o109)), (qf110, .inl (cf110, 96, .inl o110)), (qf111, .inl (cf111, 96, .inl o111)), (qf100, .inl (cf100, 48000, .inl o100)), (qf101, .inl (cf101, 8, .inl o101)), (qf116, .inl (cf116, 309, .inl o116))]) (va_A [(h0, .inr (13, zs)), (qf103, .inl (cf103, 8, .inl f103)), (qf112, .inl (cf112, 6000, .inl f112)), (qf102, .inl (cf102, 2048, .inl f102)), (qf104, .inl (cf104, 8, .inl f104)), (qf105, .inl (cf105, 8, .inl f105)), (qf106, .inl (cf106, 8, .inl f106)), (qf107, .inl (cf107, 96, .inl f107)), (qf108, .inl (cf108, 8, .inl f108)), (qf109, .inl (cf109, 96, .inl f109)), (qf110, .inl (cf110, 96, .inl f110)), (qf111, .inl (cf111, 96, .inl f111)), (qf100, .inl (cf100, 48000, .inl f100)), (qf101, .inl (cf101, 8, .inl f101)), (qf116, .inl (cf116, 309, .inl f116))] sz)) 0 0 (va_A [(h0, .inr (13, zs)), (qf103, .inl (cf103, 8, .inl f103)), (qf112, .inl (cf112, 6000, .inl f112)), (qf102, .inl (cf102, 2048, .inl f102)), (qf104, .inl (cf104, 8, .inl f104)), (qf105, .inl (cf105, 8, .inl f105)), (qf106, .inl (cf106, 8, .inl f106)), (qf107, .inl (cf107, 96, .inl f107)), (qf108, .inl (cf108, 8, .inl f108)), (qf109, .inl (cf109, 96, .inl f109)), (qf110, .inl (cf110, 96, .inl f110)), (qf111, .inl (cf111, 96, .inl f111)), (qf100, .inl (cf100, 48000, .inl f100)), (qf101, .inl (cf101, 8, .inl f101)), (qf116, .inl (cf116, 309, .inl f116))] sz) := by
  refine Met.ofW (cc := cX13_loaded) (maxL := 3) (ret := (some .int)) (by decide) rfl ?_
  intro p e s m args below meth c s₁ B hml hv
  obtain ⟨rfl, hsz, hP, hK, hD0, hZWS477, hZRS477⟩ := hv
  have hx := B.exec
  have hb := B.bytes
  have hr := B.returns
  have hts := atoms_spec (ws := (.code yX13_loaded cX13_loaded 3 (some .int) :: VS_h9)) B.pre
  replace hts := fun w (h : w ∈ VS_h9) => hts w (List.mem_cons_of_mem _ h)
  have hown : s.vm.findClass RX13 = some m.cls := findClass_of_methodNamed B.named
  have hlocks := B.notSynchronized
  subst hsz
  have hD := hD0.self (sz := s.heap.size)
  generalize hAe : va_A [(h0, .inr (13, zs)), (qf103, .inl (cf103, 8, .inl f103)), (qf112, .inl (cf112, 6000, .inl f112)), (qf102, .inl (cf102, 2048, .inl f102)), (qf104, .inl (cf104, 8, .inl f104)), (qf105, .inl (cf105, 8, .inl f105)), (qf106, .inl (cf106, 8, .inl f106)), (qf107, .inl (cf107, 96, .inl f107)), (qf108, .inl (cf108, 8, .inl f108)), (qf109, .inl (cf109, 96, .inl f109)), (qf110, .inl (cf110, 96, .inl f110)), (qf111, .inl (cf111, 96, .inl f111)), (qf100, .inl (cf100, 48000, .inl f100)), (qf101, .inl (cf101, 8, .inl f101)), (qf116, .inl (cf116, 309, .inl f116))] s.heap.size = A at hD hZWS477 ⊢
  have hA : ∀ q : Nat, s.heap.size ≤ q → A q := fun q h => by rw [← hAe]; exact Or.inr h
  have hP : va_P (dC, dI) vwCl [(h0, .inr (13, zs)), (qf103, .inl (cf103, 8, .inl f103)), (qf112, .inl (cf112, 6000, .inl f112)), (qf102, .inl (cf102, 2048, .inl f102)), (qf104, .inl (cf104, 8, .inl f104)), (qf105, .inl (cf105, 8, .inl f105)), (qf106, .inl (cf106, 8, .inl f106)), (qf107, .inl (cf107, 96, .inl f107)), (qf108, .inl (cf108, 8, .inl f108)), (qf109, .inl (cf109, 96, .inl f109)), (qf110, .inl (cf110, 96, .inl f110)), (qf111, .inl (cf111, 96, .inl f111)), (qf100, .inl (cf100, 48000, .inl f100)), (qf101, .inl (cf101, 8, .inl f101)), (qf116, .inl (cf116, 309, .inl f116))] s.heap := hP
  have hl := lv_entry ([.ref h0]) (n := 3) (Nat.le_of_ble_eq_true rfl)
  rw [lg_entry_eq]
  generalize (lg_sl ([.ref h0]) ++ List.replicate (3 - (lg_sl ([.ref h0])).length) Slot.unset).toArray = ls at hl ⊢
  have hl : lv_has ls 3 [(0, .ref h0)] := hl
  obtain ⟨H, hH⟩ : ∃ H : Heap, s.heap = H := ⟨_, rfl⟩
  rw [hH] at hP ⊢
  have hS : va_S A s.heap H [] := by rw [← hH]; exact va_S.rf
  obtain ⟨locs, hlo⟩ : ∃ locs : List Loc, locs = [] := ⟨_, rfl⟩
  rw [← hlo] at hS ⊢
  have hrs0 : ∀ j : Nat, j ≠ 114 → j ≠ 115 → j ≠ 138 → j ≠ 98 → j ≠ 99 → zs[j]? = zs[j]? := fun _ _ _ _ _ _  => rfl
  unfold sp_vm_loaded at hsp
  refine lv_aload_n hx hb dX13_loaded_0 rfl (lv_at hl 0 rfl) ?_
  refine va_get (D := (dC, dI)) (ci := 13) (v := .int v98) (C := RX13) (T := TX13) (N := 155) hx hb hts uV_h9_X13 hown hK hP 0 rfl rfl 98 (by decide) (hts (.fieldLink RX13 833 "ClassMillModel" "there" "I") mw_h9_276) (fun _ h9 => h9) hf98 dX13_loaded_1 ?_
  refine lv_bipush (v := 8) hx hb dX13_loaded_4 (by decide) ?_
  refine lv_icmp_ne (tgt := 46) hx hb dX13_loaded_6 (by decide) (fun c_1 => ?_) (fun c_1 => ?_)
  · rw [if_neg c_1] at hsp
    refine lv_aload_n hx hb dX13_loaded_46 rfl (lv_at hl 0 rfl) ?_
    refine lv_aload_n hx hb dX13_loaded_47 rfl (lv_at hl 0 rfl) ?_
    refine va_get (D := (dC, dI)) (ci := 13) (v := .int v98) (C := RX13) (T := TX13) (N := 155) hx hb hts uV_h9_X13 hown hK hP 0 rfl rfl 98 (by decide) (hts (.fieldLink RX13 833 "ClassMillModel" "there" "I") mw_h9_276) (fun _ h9 => h9) hf98 dX13_loaded_48 ?_
    obtain ⟨⟨g901_0, g901_1, g901_2, g901_3, g901_4, g901_5, g901_6, g901_7, g901_8, g901_9, u1_10, u1_11⟩, hu_1, hsp⟩ := ox_bind hsp
    try dsimp only at hsp
    have hPc := hP.sub (ws' := [(h0, .inr (13, zs)), (qf103, .inl (cf103, 8, .inl f103)), (qf112, .inl (cf112, 6000, .inl f112)), (qf102, .inl (cf102, 2048, .inl f102)), (qf104, .inl (cf104, 8, .inl f104)), (qf105, .inl (cf105, 8, .inl f105)), (qf106, .inl (cf106, 8, .inl f106)), (qf107, .inl (cf107, 96, .inl f107)), (qf108, .inl (cf108, 8, .inl f108)), (qf109, .inl (cf109, 96, .inl f109)), (qf110, .inl (cf110, 96, .inl f110)), (qf111, .inl (cf111, 96, .inl f111))]) [0, 1, 2, 3, 4, 5, 6, 7, 8, 9, 10, 11] rfl
    have hDc := hD.sub (ws' := [(h0, .inr (13, zs)), (qf103, .inl (cf103, 8, .inl f103)), (qf112, .inl (cf112, 6000, .inl f112)), (qf102, .inl (cf102, 2048, .inl f102)), (qf104, .inl (cf104, 8, .inl f104)), (qf105, .inl (cf105, 8, .inl f105)), (qf106, .inl (cf106, 8, .inl f106)), (qf107, .inl (cf107, 96, .inl f107)), (qf108, .inl (cf108, 8, .inl f108)), (qf109, .inl (cf109, 96, .inl f109)), (qf110, .inl (cf110, 96, .inl f110)), (qf111, .inl (cf111, 96, .inl f111))]) [0, 1, 2, 3, 4, 5, 6, 7, 8, 9, 10, 11] (by decide) rfl
    have hKc := hK.sub (tys' := [(cf103, .int), (cf112, .int), (cf102, .int), (cf104, .int), (cf105, .int), (cf106, .int), (cf107, .int), (cf108, .int), (cf109, .int), (cf110, .int), (cf111, .int)]) [0, 1, 2, 3, 4, 5, 6, 7, 8, 9, 10] rfl
    have hFc := va_free (wc := [(h0, .inr (13, zs)), (qf103, .inl (cf103, 8, .inl f103)), (qf112, .inl (cf112, 6000, .inl f112)), (qf102, .inl (cf102, 2048, .inl f102)), (qf104, .inl (cf104, 8, .inl f104)), (qf105, .inl (cf105, 8, .inl f105)), (qf106, .inl (cf106, 8, .inl f106)), (qf107, .inl (cf107, 96, .inl f107)), (qf108, .inl (cf108, 8, .inl f108)), (qf109, .inl (cf109, 96, .inl f109)), (qf110, .inl (cf110, 96, .inl f110)), (qf111, .inl (cf111, 96, .inl f111))]) hD hS hA [0, 1, 2, 3, 4, 5, 6, 7, 8, 9, 10, 11] rfl
    refine va_callv (va_runV (As := [.int v98]) (rest := []) ⟨hx, hb, hml, hown, hts⟩ (vm_scan l dC dI H.size h0 zs v98 qf102 qf103 qf104 qf105 qf106 qf107 qf108 qf109 qf110 qf111 qf112 v113 v114 v115 cf103 f103 cf112 f112 cf102 f102 cf104 f104 cf105 f105 cf106 f106 cf107 f107 cf108 f108 cf109 f109 cf110 f110 cf111 f111 nf g901_0 g901_1 g901_2 g901_3 g901_4 g901_5 g901_6 g901_7 g901_8 g901_9 u1_10 u1_11 hlen hf102 hf103 hf104 hf105 hf106 hf107 hf108 hf109 hf110 hf111 hf112 hf113 hf114 hf115 hu_1) (cwV 1 hts gv_h9_90 rfl rfl rfl (by decide +kernel) ⟨Nat.le_of_ble_eq_true rfl, Nat.le_of_ble_eq_true rfl⟩) ⟨fun a U g mk q => by obtain ⟨q0, q1, qP, qK, qD⟩ := q; exact ⟨q0, q1, qP, va_K.moved (u := U) (U := U.calling g mk a) (Vm.Alike.refl U.vm) qK, qD⟩, va_recv hKc hPc (ci := 13) (q0 := 0) rfl rfl, fun U hU hW => ⟨rfl, by rw [hU], by rw [hU]; exact hPc, va_K.moved hW.alike hKc, hDc.weaken (fun _ _ _ _ => trivial)⟩⟩ rfl rfl hl.1 rfl (lv_room (Nat.le_of_ble_eq_true rfl)) dX13_loaded_51 ⟨Nat.le_of_ble_eq_true rfl, Nat.le_of_ble_eq_true rfl⟩) hS (fun q _ h => hFc q h) hFc ?_
    clear hS
    intro u t H1 locs ht hvm hw hB hz1 hk1 hS
    obtain ⟨z_1, rfl⟩ : ∃ z, z = u := ⟨_, rfl⟩
    obtain ⟨hP1, hK1, hD1⟩ := hB
    rw [ht] at hP1
    have hK1 := va_K.moved hvm.symm hK1
    try dsimp only at hw
    have hPD := va_join (wr := [(qf100, .inl (cf100, 48000, .inl f100)), (qf101, .inl (cf101, 8, .inl f101)), (qf116, .inl (cf116, 309, .inl f116))]) (w1 := [(h0, .inr (13, z_1)), (qf103, .inl (cf103, 8, .inl g901_1)), (qf112, .inl (cf112, 6000, .inl f112)), (qf102, .inl (cf102, 2048, .inl g901_0)), (qf104, .inl (cf104, 8, .inl g901_2)), (qf105, .inl (cf105, 8, .inl g901_3)), (qf106, .inl (cf106, 8, .inl g901_4)), (qf107, .inl (cf107, 96, .inl g901_5)), (qf108, .inl (cf108, 8, .inl g901_6)), (qf109, .inl (cf109, 96, .inl g901_7)), (qf110, .inl (cf110, 96, .inl g901_8)), (qf111, .inl (cf111, 96, .inl g901_9))]) hP hD [0, 1, 2, 3, 4, 5, 6, 7, 8, 9, 10, 11] [12, 13, 14] rfl rfl (by decide) (by decide) hk1 hFc hP1 hD1
    clear hP hD
    obtain ⟨hP, hD⟩ := hPD
    replace hK := (hK.sub (tys' := [(cf100, .int), (cf101, .int), (cf116, .int)]) [11, 12, 13] rfl).app hK1
    clear hPc hDc hKc hFc hP1 hK1 hD1 hz1 hk1 ht hvm
    generalize H1 = H at hP hS ⊢
    replace hP : va_P (dC, dI) vwCl [(qf100, .inl (cf100, 48000, .inl f100)), (qf101, .inl (cf101, 8, .inl f101)), (qf116, .inl (cf116, 309, .inl f116)), (h0, .inr (13, z_1)), (qf103, .inl (cf103, 8, .inl g901_1)), (qf112, .inl (cf112, 6000, .inl f112)), (qf102, .inl (cf102, 2048, .inl g901_0)), (qf104, .inl (cf104, 8, .inl g901_2)), (qf105, .inl (cf105, 8, .inl g901_3)), (qf106, .inl (cf106, 8, .inl g901_4)), (qf107, .inl (cf107, 96, .inl g901_5)), (qf108, .inl (cf108, 8, .inl g901_6)), (qf109, .inl (cf109, 96, .inl g901_7)), (qf110, .inl (cf110, 96, .inl g901_8)), (qf111, .inl (cf111, 96, .inl g901_9))] H := hP
    replace hD : va_D A [(qf100, .inl (cf100, 48000, .inl f100)), (qf101, .inl (cf101, 8, .inl f101)), (qf116, .inl (cf116, 309, .inl f116)), (h0, .inr (13, z_1)), (qf103, .inl (cf103, 8, .inl g901_1)), (qf112, .inl (cf112, 6000, .inl f112)), (qf102, .inl (cf102, 2048, .inl g901_0)), (qf104, .inl (cf104, 8, .inl g901_2)), (qf105, .inl (cf105, 8, .inl g901_3)), (qf106, .inl (cf106, 8, .inl g901_4)), (qf107, .inl (cf107, 96, .inl g901_5)), (qf108, .inl (cf108, 8, .inl g901_6)), (qf109, .inl (cf109, 96, .inl g901_7)), (qf110, .inl (cf110, 96, .inl g901_8)), (qf111, .inl (cf111, 96, .inl g901_9))] := hD
    replace hK : va_K (dC, dI) vwCl [(cf100, .int), (cf101, .int), (cf116, .int), (cf103, .int), (cf112, .int), (cf102, .int), (cf104, .int), (cf105, .int), (cf106, .int), (cf107, .int), (cf108, .int), (cf109, .int), (cf110, .int), (cf111, .int)] s := hK
    obtain ⟨hwa_1, hln_1, hre_1, hch_1_114, hch_1_115⟩ := hw
    have hfk_1_98 : z_1[98]? = some (.int v98) := (hre_1 98 (by decide) (by decide)).trans (hf98)
    have hfk_1_99 : z_1[99]? = some (.int v99) := (hre_1 99 (by decide) (by decide)).trans (hf99)
    have hfk_1_100 : z_1[100]? = some (.ref qf100) := (hre_1 100 (by decide) (by decide)).trans (hf100)
    have hfk_1_101 : z_1[101]? = some (.ref qf101) := (hre_1 101 (by decide) (by decide)).trans (hf101)
    have hfk_1_102 : z_1[102]? = some (.ref qf102) := (hre_1 102 (by decide) (by decide)).trans (hf102)
    have hfk_1_103 : z_1[103]? = some (.ref qf103) := (hre_1 103 (by decide) (by decide)).trans (hf103)
    have hfk_1_104 : z_1[104]? = some (.ref qf104) := (hre_1 104 (by decide) (by decide)).trans (hf104)
    have hfk_1_105 : z_1[105]? = some (.ref qf105) := (hre_1 105 (by decide) (by decide)).trans (hf105)
    have hfk_1_106 : z_1[106]? = some (.ref qf106) := (hre_1 106 (by decide) (by decide)).trans (hf106)
    have hfk_1_107 : z_1[107]? = some (.ref qf107) := (hre_1 107 (by decide) (by decide)).trans (hf107)
    have hfk_1_108 : z_1[108]? = some (.ref qf108) := (hre_1 108 (by decide) (by decide)).trans (hf108)
    have hfk_1_109 : z_1[109]? = some (.ref qf109) := (hre_1 109 (by decide) (by decide)).trans (hf109)
    have hfk_1_110 : z_1[110]? = some (.ref qf110) := (hre_1 110 (by decide) (by decide)).trans (hf110)
    have hfk_1_111 : z_1[111]? = some (.ref qf111) := (hre_1 111 (by decide) (by decide)).trans (hf111)
    have hfk_1_112 : z_1[112]? = some (.ref qf112) := (hre_1 112 (by decide) (by decide)).trans (hf112)
    have hfk_1_113 : z_1[113]? = some (.int v113) := (hre_1 113 (by decide) (by decide)).trans (hf113)
    have hfk_1_116 : z_1[116]? = some (.ref qf116) := (hre_1 116 (by decide) (by decide)).trans (hf116)
    have hfk_1_138 : z_1[138]? = some (.int v138) := (hre_1 138 (by decide) (by decide)).trans (hf138)
    have hrq_1 : ∀ j : Nat, j ≠ 114 → j ≠ 115 → j ≠ 138 → j ≠ 98 → j ≠ 99 → z_1[j]? = zs[j]? := fun j g114 g115 g138 g98 g99 => (hre_1 j g114 g115).trans (hrs0 j g114 g115 g138 g98 g99)
    refine lv_aload_n hx hb dX13_loaded_54 rfl (lv_at hl 0 rfl) ?_
    refine va_get (D := (dC, dI)) (ci := 13) (v := .int u1_10) (C := RX13) (T := TX13) (N := 155) hx hb hts uV_h9_X13 hown hK hP 3 rfl rfl 114 (by decide) (hts (.fieldLink RX13 764 "ClassMillModel" "form" "I") mw_h9_251) (fun _ h9 => h9) hch_1_114 dX13_loaded_55 ?_
    refine lv_iconst (v := (-1)) hx hb dX13_loaded_58 (by decide) ?_
    refine lv_icmp_eq (tgt := 70) hx hb dX13_loaded_59 (by decide) (fun c_2 => ?_) (fun c_2 => ?_)
    · rw [if_pos c_2] at hsp
      refine lv_aload_n hx hb dX13_loaded_70 rfl (lv_at hl 0 rfl) ?_
      refine va_get (D := (dC, dI)) (ci := 13) (v := .ref qf102) (C := RX13) (T := TX13) (N := 155) hx hb hts uV_h9_X13 hown hK hP 3 rfl rfl 102 (by decide) (hts (.fieldLink RX13 215 "ClassMillModel" "constantAt" "[I") mw_h9_267) (fun _ h9 => h9) hfk_1_102 dX13_loaded_71 ?_
      refine lv_sipush (v := 256) hx hb dX13_loaded_74 (by decide) ?_
      refine lv_aload_n hx hb dX13_loaded_77 rfl (lv_at hl 0 rfl) ?_
      refine va_get (D := (dC, dI)) (ci := 13) (v := .int v98) (C := RX13) (T := TX13) (N := 155) hx hb hts uV_h9_X13 hown hK hP 3 rfl rfl 98 (by decide) (hts (.fieldLink RX13 833 "ClassMillModel" "there" "I") mw_h9_276) (fun _ h9 => h9) hfk_1_98 dX13_loaded_78 ?_
      refine lv_imul hx hb dX13_loaded_81 ?_
      refine lv_aload_n hx hb dX13_loaded_82 rfl (lv_at hl 0 rfl) ?_
      refine va_get (D := (dC, dI)) (ci := 13) (v := .ref qf112) (C := RX13) (T := TX13) (N := 155) hx hb hts uV_h9_X13 hown hK hP 3 rfl rfl 112 (by decide) (hts (.fieldLink RX13 245 "ClassMillModel" "look" "[I") mw_h9_242) (fun _ h9 => h9) hfk_1_112 dX13_loaded_83 ?_
      refine lv_aload_n hx hb dX13_loaded_86 rfl (lv_at hl 0 rfl) ?_
      refine va_get (D := (dC, dI)) (ci := 13) (v := .ref qf102) (C := RX13) (T := TX13) (N := 155) hx hb hts uV_h9_X13 hown hK hP 3 rfl rfl 102 (by decide) (hts (.fieldLink RX13 215 "ClassMillModel" "constantAt" "[I") mw_h9_267) (fun _ h9 => h9) hfk_1_102 dX13_loaded_87 ?_
      refine lv_sipush (v := 256) hx hb dX13_loaded_90 (by decide) ?_
      refine lv_aload_n hx hb dX13_loaded_93 rfl (lv_at hl 0 rfl) ?_
      refine va_get (D := (dC, dI)) (ci := 13) (v := .int v98) (C := RX13) (T := TX13) (N := 155) hx hb hts uV_h9_X13 hown hK hP 3 rfl rfl 98 (by decide) (hts (.fieldLink RX13 833 "ClassMillModel" "there" "I") mw_h9_276) (fun _ h9 => h9) hfk_1_98 dX13_loaded_94 ?_
      refine lv_imul hx hb dX13_loaded_97 ?_
      refine lv_aload_n hx hb dX13_loaded_98 rfl (lv_at hl 0 rfl) ?_
      refine va_get (D := (dC, dI)) (ci := 13) (v := .ref qf104) (C := RX13) (T := TX13) (N := 155) hx hb hts uV_h9_X13 hown hK hP 3 rfl rfl 104 (by decide) (hts (.fieldLink RX13 221 "ClassMillModel" "ownClass" "[I") mw_h9_279) (fun _ h9 => h9) hfk_1_104 dX13_loaded_99 ?_
      refine lv_aload_n hx hb dX13_loaded_102 rfl (lv_at hl 0 rfl) ?_
      refine va_get (D := (dC, dI)) (ci := 13) (v := .int v98) (C := RX13) (T := TX13) (N := 155) hx hb hts uV_h9_X13 hown hK hP 3 rfl rfl 98 (by decide) (hts (.fieldLink RX13 833 "ClassMillModel" "there" "I") mw_h9_276) (fun _ h9 => h9) hfk_1_98 dX13_loaded_103 ?_
      obtain ⟨hi_3, hsp⟩ := ox_in hsp
      refine va_iald hx hb hK hP 7 6 rfl rfl (i := v98) hi_3 dX13_loaded_106 ?_
      refine lv_iadd hx hb dX13_loaded_107 ?_
      obtain ⟨hi_4, hsp⟩ := ox_in hsp
      refine va_iald hx hb hK hP 6 5 rfl rfl (i := ((256 * v98) + (g901_2 (v98 : Int32).toNatClampNeg))) hi_4 dX13_loaded_108 ?_
      refine lv_iconst (v := 1) hx hb dX13_loaded_109 (by decide) ?_
      refine lv_iadd hx hb dX13_loaded_110 ?_
      obtain ⟨hi_5, hsp⟩ := ox_in hsp
      refine va_iald hx hb hK hP 5 4 rfl rfl (i := ((g901_0 (((256 * v98) + (g901_2 (v98 : Int32).toNatClampNeg)) : Int32).toNatClampNeg) + 1)) hi_5 dX13_loaded_111 ?_
      refine lv_iadd hx hb dX13_loaded_112 ?_
      obtain ⟨hi_6, hsp⟩ := ox_in hsp
      refine va_iald hx hb hK hP 6 5 rfl rfl (i := ((256 * v98) + (f112 (((g901_0 (((256 * v98) + (g901_2 (v98 : Int32).toNatClampNeg)) : Int32).toNatClampNeg) + 1) : Int32).toNatClampNeg))) hi_6 dX13_loaded_113 ?_
      refine lv_istore_n (lv' := [(1, .int (g901_0 (((256 * v98) + (f112 (((g901_0 (((256 * v98) + (g901_2 (v98 : Int32).toNatClampNeg)) : Int32).toNatClampNeg) + 1) : Int32).toNatClampNeg)) : Int32).toNatClampNeg)), (0, .ref h0)]) hx hb dX13_loaded_114 rfl hl (by decide) rfl (fun ls hl => ?_)
      refine lv_aload_n hx hb dX13_loaded_115 rfl (lv_at hl 1 rfl) ?_
      refine lv_aload_n hx hb dX13_loaded_116 rfl (lv_at hl 1 rfl) ?_
      refine va_get (D := (dC, dI)) (ci := 13) (v := .ref qf112) (C := RX13) (T := TX13) (N := 155) hx hb hts uV_h9_X13 hown hK hP 3 rfl rfl 112 (by decide) (hts (.fieldLink RX13 245 "ClassMillModel" "look" "[I") mw_h9_242) (fun _ h9 => h9) hfk_1_112 dX13_loaded_117 ?_
      refine lv_iload_n hx hb dX13_loaded_120 rfl (lv_at hl 0 rfl) ?_
      refine lv_iconst (v := 2) hx hb dX13_loaded_121 (by decide) ?_
      refine lv_iadd hx hb dX13_loaded_122 ?_
      refine lv_aload_n hx hb dX13_loaded_123 rfl (lv_at hl 1 rfl) ?_
      refine va_get (D := (dC, dI)) (ci := 13) (v := .ref qf112) (C := RX13) (T := TX13) (N := 155) hx hb hts uV_h9_X13 hown hK hP 3 rfl rfl 112 (by decide) (hts (.fieldLink RX13 245 "ClassMillModel" "look" "[I") mw_h9_242) (fun _ h9 => h9) hfk_1_112 dX13_loaded_124 ?_
      refine lv_iload_n hx hb dX13_loaded_127 rfl (lv_at hl 0 rfl) ?_
      refine lv_iconst (v := 1) hx hb dX13_loaded_128 (by decide) ?_
      refine lv_iadd hx hb dX13_loaded_129 ?_
      obtain ⟨hi_7, hsp⟩ := ox_in hsp
      refine va_iald hx hb hK hP 5 4 rfl rfl (i := ((g901_0 (((256 * v98) + (f112 (((g901_0 (((256 * v98) + (g901_2 (v98 : Int32).toNatClampNeg)) : Int32).toNatClampNeg) + 1) : Int32).toNatClampNeg)) : Int32).toNatClampNeg) + 1)) hi_7 dX13_loaded_130 ?_
      obtain ⟨u2_0, hu_2, hsp⟩ := ox_bind hsp
      try dsimp only at hsp
      have hPc := hP.sub (ws' := [(h0, .inr (13, z_1)), (qf104, .inl (cf104, 8, .inl g901_2)), (qf102, .inl (cf102, 2048, .inl g901_0)), (qf100, .inl (cf100, 48000, .inl f100)), (qf112, .inl (cf112, 6000, .inl f112))]) [3, 7, 6, 0, 5] rfl
      have hDc := hD.sub (ws' := [(h0, .inr (13, z_1)), (qf104, .inl (cf104, 8, .inl g901_2)), (qf102, .inl (cf102, 2048, .inl g901_0)), (qf100, .inl (cf100, 48000, .inl f100)), (qf112, .inl (cf112, 6000, .inl f112))]) [3, 7, 6, 0, 5] (by decide) rfl
      have hKc := hK.sub (tys' := [(cf104, .int), (cf102, .int), (cf100, .int), (cf112, .int)]) [6, 5, 0, 4] rfl
      have hFc := va_free (wc := [(h0, .inr (13, z_1)), (qf104, .inl (cf104, 8, .inl g901_2)), (qf102, .inl (cf102, 2048, .inl g901_0)), (qf100, .inl (cf100, 48000, .inl f100)), (qf112, .inl (cf112, 6000, .inl f112))]) hD hS hA [3, 7, 6, 0, 5] rfl
      refine va_calli (va_runV (As := [.ref qf112, .int ((g901_0 (((256 * v98) + (f112 (((g901_0 (((256 * v98) + (g901_2 (v98 : Int32).toNatClampNeg)) : Int32).toNatClampNeg) + 1) : Int32).toNatClampNeg)) : Int32).toNatClampNeg) + 2), .int (f112 (((g901_0 (((256 * v98) + (f112 (((g901_0 (((256 * v98) + (g901_2 (v98 : Int32).toNatClampNeg)) : Int32).toNatClampNeg) + 1) : Int32).toNatClampNeg)) : Int32).toNatClampNeg) + 1) : Int32).toNatClampNeg)]) (rest := []) ⟨hx, hb, hml, hown, hts⟩ (vm_classNamed l dC dI H.size h0 z_1 qf112 (((g901_0 (((256 * v98) + (f112 (((g901_0 (((256 * v98) + (g901_2 (v98 : Int32).toNatClampNeg)) : Int32).toNatClampNeg) + 1) : Int32).toNatClampNeg)) : Int32).toNatClampNeg) + 2)) ((f112 (((g901_0 (((256 * v98) + (f112 (((g901_0 (((256 * v98) + (g901_2 (v98 : Int32).toNatClampNeg)) : Int32).toNatClampNeg) + 1) : Int32).toNatClampNeg)) : Int32).toNatClampNeg) + 1) : Int32).toNatClampNeg)) v98 qf100 qf102 qf104 cf104 g901_2 cf102 g901_0 cf100 f100 cf112 6000 f112 nS477 fS477 hS477 qS477 tS477 nf u2_0 hln_1 hfk_1_98 hfk_1_100 hfk_1_102 hfk_1_104 hu_2) (cwV 3 hts gv_h9_91 rfl rfl rfl (by decide +kernel) ⟨Nat.le_of_ble_eq_true rfl, Nat.le_of_ble_eq_true rfl⟩) ⟨fun a U g mk q => by obtain ⟨q0, q1, qP, qK, qD, qhZWS477, qhZRS477⟩ := q; exact ⟨q0, q1, qP, va_K.moved (u := U) (U := U.calling g mk a) (Vm.Alike.refl U.vm) qK, qD, pz_W.moved (u := U) (U := U.calling g mk a) (Vm.Alike.refl U.vm) qhZWS477, vk_R.same rfl qhZRS477⟩, va_recv hKc hPc (ci := 13) (q0 := 0) rfl rfl, fun U hU hW => ⟨rfl, by rw [hU], by rw [hU]; exact hPc, va_K.moved hW.alike hKc, hDc.weaken (fun _ _ _ _ => trivial), by rw [hU]; exact ((pz_W.moved hW.alike hZWS477).kept hS.2.1).narrow hFc, vk_R.warm hW hZRS477⟩⟩ rfl rfl hl.1 rfl (lv_room (Nat.le_of_ble_eq_true rfl)) dX13_loaded_131 ⟨Nat.le_of_ble_eq_true rfl, Nat.le_of_ble_eq_true rfl⟩) hS (fun q _ h => hFc q h) hFc ?_
      clear hS
      intro r_8 u t H1 locs ht hvm hw hB hz1 hk1 hS
      obtain ⟨z_2, rfl⟩ : ∃ z, z = u := ⟨_, rfl⟩
      obtain ⟨hP1, hK1, hD1⟩ := hB
      rw [ht] at hP1
      have hK1 := va_K.moved hvm.symm hK1
      try dsimp only at hw
      have hPD := va_join (wr := [(qf101, .inl (cf101, 8, .inl f101)), (qf116, .inl (cf116, 309, .inl f116)), (qf103, .inl (cf103, 8, .inl g901_1)), (qf105, .inl (cf105, 8, .inl g901_3)), (qf106, .inl (cf106, 8, .inl g901_4)), (qf107, .inl (cf107, 96, .inl g901_5)), (qf108, .inl (cf108, 8, .inl g901_6)), (qf109, .inl (cf109, 96, .inl g901_7)), (qf110, .inl (cf110, 96, .inl g901_8)), (qf111, .inl (cf111, 96, .inl g901_9))]) (w1 := [(h0, .inr (13, z_2)), (qf104, .inl (cf104, 8, .inl g901_2)), (qf102, .inl (cf102, 2048, .inl g901_0)), (qf100, .inl (cf100, 48000, .inl f100)), (qf112, .inl (cf112, 6000, .inl f112))]) hP hD [3, 7, 6, 0, 5] [1, 2, 4, 8, 9, 10, 11, 12, 13, 14] rfl rfl (by decide) (by decide) hk1 hFc hP1 hD1
      clear hP hD
      obtain ⟨hP, hD⟩ := hPD
      replace hK := (hK.sub (tys' := [(cf101, .int), (cf116, .int), (cf103, .int), (cf105, .int), (cf106, .int), (cf107, .int), (cf108, .int), (cf109, .int), (cf110, .int), (cf111, .int)]) [1, 2, 3, 7, 8, 9, 10, 11, 12, 13] rfl).app hK1
      clear hPc hDc hKc hFc hP1 hK1 hD1 hz1 hk1 ht hvm
      generalize H1 = H at hP hS ⊢
      replace hP : va_P (dC, dI) vwCl [(qf101, .inl (cf101, 8, .inl f101)), (qf116, .inl (cf116, 309, .inl f116)), (qf103, .inl (cf103, 8, .inl g901_1)), (qf105, .inl (cf105, 8, .inl g901_3)), (qf106, .inl (cf106, 8, .inl g901_4)), (qf107, .inl (cf107, 96, .inl g901_5)), (qf108, .inl (cf108, 8, .inl g901_6)), (qf109, .inl (cf109, 96, .inl g901_7)), (qf110, .inl (cf110, 96, .inl g901_8)), (qf111, .inl (cf111, 96, .inl g901_9)), (h0, .inr (13, z_2)), (qf104, .inl (cf104, 8, .inl g901_2)), (qf102, .inl (cf102, 2048, .inl g901_0)), (qf100, .inl (cf100, 48000, .inl f100)), (qf112, .inl (cf112, 6000, .inl f112))] H := hP
      replace hD : va_D A [(qf101, .inl (cf101, 8, .inl f101)), (qf116, .inl (cf116, 309, .inl f116)), (qf103, .inl (cf103, 8, .inl g901_1)), (qf105, .inl (cf105, 8, .inl g901_3)), (qf106, .inl (cf106, 8, .inl g901_4)), (qf107, .inl (cf107, 96, .inl g901_5)), (qf108, .inl (cf108, 8, .inl g901_6)), (qf109, .inl (cf109, 96, .inl g901_7)), (qf110, .inl (cf110, 96, .inl g901_8)), (qf111, .inl (cf111, 96, .inl g901_9)), (h0, .inr (13, z_2)), (qf104, .inl (cf104, 8, .inl g901_2)), (qf102, .inl (cf102, 2048, .inl g901_0)), (qf100, .inl (cf100, 48000, .inl f100)), (qf112, .inl (cf112, 6000, .inl f112))] := hD
      replace hK : va_K (dC, dI) vwCl [(cf101, .int), (cf116, .int), (cf103, .int), (cf105, .int), (cf106, .int), (cf107, .int), (cf108, .int), (cf109, .int), (cf110, .int), (cf111, .int), (cf104, .int), (cf102, .int), (cf100, .int), (cf112, .int)] s := hK
      obtain ⟨hwa_2, hln_2, hre_2⟩ := hw
      have hfk_2_98 : z_2[98]? = some (.int v98) := (hre_2 98 ).trans (hfk_1_98)
      have hfk_2_99 : z_2[99]? = some (.int v99) := (hre_2 99 ).trans (hfk_1_99)
      have hfk_2_100 : z_2[100]? = some (.ref qf100) := (hre_2 100 ).trans (hfk_1_100)
      have hfk_2_101 : z_2[101]? = some (.ref qf101) := (hre_2 101 ).trans (hfk_1_101)
      have hfk_2_102 : z_2[102]? = some (.ref qf102) := (hre_2 102 ).trans (hfk_1_102)
      have hfk_2_103 : z_2[103]? = some (.ref qf103) := (hre_2 103 ).trans (hfk_1_103)
      have hfk_2_104 : z_2[104]? = some (.ref qf104) := (hre_2 104 ).trans (hfk_1_104)
      have hfk_2_105 : z_2[105]? = some (.ref qf105) := (hre_2 105 ).trans (hfk_1_105)
      have hfk_2_106 : z_2[106]? = some (.ref qf106) := (hre_2 106 ).trans (hfk_1_106)
      have hfk_2_107 : z_2[107]? = some (.ref qf107) := (hre_2 107 ).trans (hfk_1_107)
      have hfk_2_108 : z_2[108]? = some (.ref qf108) := (hre_2 108 ).trans (hfk_1_108)
      have hfk_2_109 : z_2[109]? = some (.ref qf109) := (hre_2 109 ).trans (hfk_1_109)
      have hfk_2_110 : z_2[110]? = some (.ref qf110) := (hre_2 110 ).trans (hfk_1_110)
      have hfk_2_111 : z_2[111]? = some (.ref qf111) := (hre_2 111 ).trans (hfk_1_111)
      have hfk_2_112 : z_2[112]? = some (.ref qf112) := (hre_2 112 ).trans (hfk_1_112)
      have hfk_2_113 : z_2[113]? = some (.int v113) := (hre_2 113 ).trans (hfk_1_113)
      have hfk_2_114 : z_2[114]? = some (.int u1_10) := (hre_2 114 ).trans (hch_1_114)
      have hfk_2_115 : z_2[115]? = some (.int u1_11) := (hre_2 115 ).trans (hch_1_115)
      have hfk_2_116 : z_2[116]? = some (.ref qf116) := (hre_2 116 ).trans (hfk_1_116)
      have hfk_2_138 : z_2[138]? = some (.int v138) := (hre_2 138 ).trans (hfk_1_138)
      have hrq_2 : ∀ j : Nat, j ≠ 114 → j ≠ 115 → j ≠ 138 → j ≠ 98 → j ≠ 99 → z_2[j]? = zs[j]? := fun j g114 g115 g138 g98 g99 => (hre_2 j ).trans (hrq_1 j g114 g115 g138 g98 g99)
      obtain rfl := hwa_2
      refine lv_iconst (v := (-1)) hx hb dX13_loaded_134 (by decide) ?_
      refine lv_icmp_eq (tgt := 140) hx hb dX13_loaded_135 (by decide) (fun c_9 => ?_) (fun c_9 => ?_)
      · rw [if_pos c_9] at hsp
        refine lv_aload_n hx hb dX13_loaded_140 rfl (lv_at hl 1 rfl) ?_
        refine lv_aload_n hx hb dX13_loaded_141 rfl (lv_at hl 1 rfl) ?_
        refine va_get (D := (dC, dI)) (ci := 13) (v := .int v98) (C := RX13) (T := TX13) (N := 155) hx hb hts uV_h9_X13 hown hK hP 10 rfl rfl 98 (by decide) (hts (.fieldLink RX13 833 "ClassMillModel" "there" "I") mw_h9_276) (fun _ h9 => h9) hfk_2_98 dX13_loaded_142 ?_
        obtain ⟨⟨u3_0, g903_1, g903_2⟩, hu_3, hsp⟩ := ox_bind hsp
        try dsimp only at hsp
        have hPc := hP.sub (ws' := [(h0, .inr (13, z_2)), (qf101, .inl (cf101, 8, .inl f101)), (qf112, .inl (cf112, 6000, .inl f112)), (qf100, .inl (cf100, 48000, .inl f100))]) [10, 0, 14, 13] rfl
        have hDc := hD.sub (ws' := [(h0, .inr (13, z_2)), (qf101, .inl (cf101, 8, .inl f101)), (qf112, .inl (cf112, 6000, .inl f112)), (qf100, .inl (cf100, 48000, .inl f100))]) [10, 0, 14, 13] (by decide) rfl
        have hKc := hK.sub (tys' := [(cf101, .int), (cf112, .int), (cf100, .int)]) [0, 13, 12] rfl
        have hFc := va_free (wc := [(h0, .inr (13, z_2)), (qf101, .inl (cf101, 8, .inl f101)), (qf112, .inl (cf112, 6000, .inl f112)), (qf100, .inl (cf100, 48000, .inl f100))]) hD hS hA [10, 0, 14, 13] rfl
        refine va_calli (va_runV (As := [.int v98]) (rest := []) ⟨hx, hb, hml, hown, hts⟩ (tn_install l dC dI H.size h0 z_2 v98 qf100 qf101 qf112 v113 cf101 f101 cf112 f112 cf100 f100 nf u3_0 g903_1 g903_2 hln_2 hfk_2_100 hfk_2_101 hfk_2_112 hfk_2_113 hu_3) (cwV 1 hts gv_h9_92 rfl rfl rfl (by decide +kernel) ⟨Nat.le_of_ble_eq_true rfl, Nat.le_of_ble_eq_true rfl⟩) ⟨fun a U g mk q => by obtain ⟨q0, q1, qP, qK, qD⟩ := q; exact ⟨q0, q1, qP, va_K.moved (u := U) (U := U.calling g mk a) (Vm.Alike.refl U.vm) qK, qD⟩, va_recv hKc hPc (ci := 13) (q0 := 0) rfl rfl, fun U hU hW => ⟨rfl, by rw [hU], by rw [hU]; exact hPc, va_K.moved hW.alike hKc, hDc.weaken (fun _ _ _ _ => trivial)⟩⟩ rfl rfl hl.1 rfl (lv_room (Nat.le_of_ble_eq_true rfl)) dX13_loaded_145 ⟨Nat.le_of_ble_eq_true rfl, Nat.le_of_ble_eq_true rfl⟩) hS (fun q _ h => hFc q h) hFc ?_
        clear hS
        intro r_10 u t H1 locs ht hvm hw hB hz1 hk1 hS
        obtain ⟨z_3, rfl⟩ : ∃ z, z = u := ⟨_, rfl⟩
        obtain ⟨hP1, hK1, hD1⟩ := hB
        rw [ht] at hP1
        have hK1 := va_K.moved hvm.symm hK1
        try dsimp only at hw
        have hPD := va_join (wr := [(qf116, .inl (cf116, 309, .inl f116)), (qf103, .inl (cf103, 8, .inl g901_1)), (qf105, .inl (cf105, 8, .inl g901_3)), (qf106, .inl (cf106, 8, .inl g901_4)), (qf107, .inl (cf107, 96, .inl g901_5)), (qf108, .inl (cf108, 8, .inl g901_6)), (qf109, .inl (cf109, 96, .inl g901_7)), (qf110, .inl (cf110, 96, .inl g901_8)), (qf111, .inl (cf111, 96, .inl g901_9)), (qf104, .inl (cf104, 8, .inl g901_2)), (qf102, .inl (cf102, 2048, .inl g901_0))]) (w1 := [(h0, .inr (13, z_3)), (qf101, .inl (cf101, 8, .inl g903_2)), (qf112, .inl (cf112, 6000, .inl f112)), (qf100, .inl (cf100, 48000, .inl g903_1))]) hP hD [10, 0, 14, 13] [1, 2, 3, 4, 5, 6, 7, 8, 9, 11, 12] rfl rfl (by decide) (by decide) hk1 hFc hP1 hD1
        clear hP hD
        obtain ⟨hP, hD⟩ := hPD
        replace hK := (hK.sub (tys' := [(cf116, .int), (cf103, .int), (cf105, .int), (cf106, .int), (cf107, .int), (cf108, .int), (cf109, .int), (cf110, .int), (cf111, .int), (cf104, .int), (cf102, .int)]) [1, 2, 3, 4, 5, 6, 7, 8, 9, 10, 11] rfl).app hK1
        clear hPc hDc hKc hFc hP1 hK1 hD1 hz1 hk1 ht hvm
        generalize H1 = H at hP hS ⊢
        replace hP : va_P (dC, dI) vwCl [(qf116, .inl (cf116, 309, .inl f116)), (qf103, .inl (cf103, 8, .inl g901_1)), (qf105, .inl (cf105, 8, .inl g901_3)), (qf106, .inl (cf106, 8, .inl g901_4)), (qf107, .inl (cf107, 96, .inl g901_5)), (qf108, .inl (cf108, 8, .inl g901_6)), (qf109, .inl (cf109, 96, .inl g901_7)), (qf110, .inl (cf110, 96, .inl g901_8)), (qf111, .inl (cf111, 96, .inl g901_9)), (qf104, .inl (cf104, 8, .inl g901_2)), (qf102, .inl (cf102, 2048, .inl g901_0)), (h0, .inr (13, z_3)), (qf101, .inl (cf101, 8, .inl g903_2)), (qf112, .inl (cf112, 6000, .inl f112)), (qf100, .inl (cf100, 48000, .inl g903_1))] H := hP
        replace hD : va_D A [(qf116, .inl (cf116, 309, .inl f116)), (qf103, .inl (cf103, 8, .inl g901_1)), (qf105, .inl (cf105, 8, .inl g901_3)), (qf106, .inl (cf106, 8, .inl g901_4)), (qf107, .inl (cf107, 96, .inl g901_5)), (qf108, .inl (cf108, 8, .inl g901_6)), (qf109, .inl (cf109, 96, .inl g901_7)), (qf110, .inl (cf110, 96, .inl g901_8)), (qf111, .inl (cf111, 96, .inl g901_9)), (qf104, .inl (cf104, 8, .inl g901_2)), (qf102, .inl (cf102, 2048, .inl g901_0)), (h0, .inr (13, z_3)), (qf101, .inl (cf101, 8, .inl g903_2)), (qf112, .inl (cf112, 6000, .inl f112)), (qf100, .inl (cf100, 48000, .inl g903_1))] := hD
        replace hK : va_K (dC, dI) vwCl [(cf116, .int), (cf103, .int), (cf105, .int), (cf106, .int), (cf107, .int), (cf108, .int), (cf109, .int), (cf110, .int), (cf111, .int), (cf104, .int), (cf102, .int), (cf101, .int), (cf112, .int), (cf100, .int)] s := hK
        obtain ⟨hwa_3, hln_3, hre_3⟩ := hw
        have hfk_3_98 : z_3[98]? = some (.int v98) := (hre_3 98 ).trans (hfk_2_98)
        have hfk_3_99 : z_3[99]? = some (.int v99) := (hre_3 99 ).trans (hfk_2_99)
        have hfk_3_100 : z_3[100]? = some (.ref qf100) := (hre_3 100 ).trans (hfk_2_100)
        have hfk_3_101 : z_3[101]? = some (.ref qf101) := (hre_3 101 ).trans (hfk_2_101)
        have hfk_3_102 : z_3[102]? = some (.ref qf102) := (hre_3 102 ).trans (hfk_2_102)
        have hfk_3_103 : z_3[103]? = some (.ref qf103) := (hre_3 103 ).trans (hfk_2_103)
        have hfk_3_104 : z_3[104]? = some (.ref qf104) := (hre_3 104 ).trans (hfk_2_104)
        have hfk_3_105 : z_3[105]? = some (.ref qf105) := (hre_3 105 ).trans (hfk_2_105)
        have hfk_3_106 : z_3[106]? = some (.ref qf106) := (hre_3 106 ).trans (hfk_2_106)
        have hfk_3_107 : z_3[107]? = some (.ref qf107) := (hre_3 107 ).trans (hfk_2_107)
        have hfk_3_108 : z_3[108]? = some (.ref qf108) := (hre_3 108 ).trans (hfk_2_108)
        have hfk_3_109 : z_3[109]? = some (.ref qf109) := (hre_3 109 ).trans (hfk_2_109)
        have hfk_3_110 : z_3[110]? = some (.ref qf110) := (hre_3 110 ).trans (hfk_2_110)
        have hfk_3_111 : z_3[111]? = some (.ref qf111) := (hre_3 111 ).trans (hfk_2_111)
        have hfk_3_112 : z_3[112]? = some (.ref qf112) := (hre_3 112 ).trans (hfk_2_112)
        have hfk_3_113 : z_3[113]? = some (.int v113) := (hre_3 113 ).trans (hfk_2_113)
        have hfk_3_114 : z_3[114]? = some (.int u1_10) := (hre_3 114 ).trans (hfk_2_114)
        have hfk_3_115 : z_3[115]? = some (.int u1_11) := (hre_3 115 ).trans (hfk_2_115)
        have hfk_3_116 : z_3[116]? = some (.ref qf116) := (hre_3 116 ).trans (hfk_2_116)
        have hfk_3_138 : z_3[138]? = some (.int v138) := (hre_3 138 ).trans (hfk_2_138)
        have hrq_3 : ∀ j : Nat, j ≠ 114 → j ≠ 115 → j ≠ 138 → j ≠ 98 → j ≠ 99 → z_3[j]? = zs[j]? := fun j g114 g115 g138 g98 g99 => (hre_3 j ).trans (hrq_2 j g114 g115 g138 g98 g99)
        obtain rfl := hwa_3
        refine lv_istore_n (lv' := [(2, .int u3_0), (1, .int (g901_0 (((256 * v98) + (f112 (((g901_0 (((256 * v98) + (g901_2 (v98 : Int32).toNatClampNeg)) : Int32).toNatClampNeg) + 1) : Int32).toNatClampNeg)) : Int32).toNatClampNeg)), (0, .ref h0)]) hx hb dX13_loaded_148 rfl hl (by decide) rfl (fun ls hl => ?_)
        refine lv_aload_n hx hb dX13_loaded_149 rfl (lv_at hl 2 rfl) ?_
        refine lv_dup hx hb dX13_loaded_150 rfl ?_
        refine va_get (D := (dC, dI)) (ci := 13) (v := .int v98) (C := RX13) (T := TX13) (N := 155) hx hb hts uV_h9_X13 hown hK hP 11 rfl rfl 98 (by decide) (hts (.fieldLink RX13 833 "ClassMillModel" "there" "I") mw_h9_276) (fun _ h9 => h9) hfk_3_98 dX13_loaded_151 ?_
        refine lv_iconst (v := 1) hx hb dX13_loaded_154 (by decide) ?_
        refine lv_iadd hx hb dX13_loaded_155 ?_
        refine va_put (D := (dC, dI)) (ci := 13) (v := .int (v98 + 1)) (ty := .int) (C := RX13) (T := TX13) (N := 155) hx hb hts uV_h9_X13 tyX13 tyX13_ok nmX13 hown hK hP hD hS 11 rfl rfl 98 (by decide) (hts (.fieldLink RX13 833 "ClassMillModel" "there" "I") mw_h9_276) (fun _ h9 => h9) rfl (by decide +kernel) rfl rfl (by rw [hln_3]; decide) dX13_loaded_156 ?_
        clear hP hD hS
        intro H locs hP hD hS
        obtain ⟨fs_11, efs_11⟩ : ∃ zf : List Value, zf = z_3.set 98 (.int (v98 + 1)) := ⟨_, rfl⟩
        rw [← efs_11] at hP hD
        have hlfs_11 : fs_11.length = 155 := by rw [efs_11, List.length_set]; exact hln_3
        have hfs_11_99 : fs_11[99]? = some (.int v99) := by rw [efs_11, List.getElem?_set_ne (by decide)]; exact hfk_3_99
        have hfs_11_100 : fs_11[100]? = some (.ref qf100) := by rw [efs_11, List.getElem?_set_ne (by decide)]; exact hfk_3_100
        have hfs_11_101 : fs_11[101]? = some (.ref qf101) := by rw [efs_11, List.getElem?_set_ne (by decide)]; exact hfk_3_101
        have hfs_11_102 : fs_11[102]? = some (.ref qf102) := by rw [efs_11, List.getElem?_set_ne (by decide)]; exact hfk_3_102
        have hfs_11_103 : fs_11[103]? = some (.ref qf103) := by rw [efs_11, List.getElem?_set_ne (by decide)]; exact hfk_3_103
        have hfs_11_104 : fs_11[104]? = some (.ref qf104) := by rw [efs_11, List.getElem?_set_ne (by decide)]; exact hfk_3_104
        have hfs_11_105 : fs_11[105]? = some (.ref qf105) := by rw [efs_11, List.getElem?_set_ne (by decide)]; exact hfk_3_105
        have hfs_11_106 : fs_11[106]? = some (.ref qf106) := by rw [efs_11, List.getElem?_set_ne (by decide)]; exact hfk_3_106
        have hfs_11_107 : fs_11[107]? = some (.ref qf107) := by rw [efs_11, List.getElem?_set_ne (by decide)]; exact hfk_3_107
        have hfs_11_108 : fs_11[108]? = some (.ref qf108) := by rw [efs_11, List.getElem?_set_ne (by decide)]; exact hfk_3_108
        have hfs_11_109 : fs_11[109]? = some (.ref qf109) := by rw [efs_11, List.getElem?_set_ne (by decide)]; exact hfk_3_109
        have hfs_11_110 : fs_11[110]? = some (.ref qf110) := by rw [efs_11, List.getElem?_set_ne (by decide)]; exact hfk_3_110
        have hfs_11_111 : fs_11[111]? = some (.ref qf111) := by rw [efs_11, List.getElem?_set_ne (by decide)]; exact hfk_3_111
        have hfs_11_112 : fs_11[112]? = some (.ref qf112) := by rw [efs_11, List.getElem?_set_ne (by decide)]; exact hfk_3_112
        have hfs_11_113 : fs_11[113]? = some (.int v113) := by rw [efs_11, List.getElem?_set_ne (by decide)]; exact hfk_3_113
        have hfs_11_114 : fs_11[114]? = some (.int u1_10) := by rw [efs_11, List.getElem?_set_ne (by decide)]; exact hfk_3_114
        have hfs_11_115 : fs_11[115]? = some (.int u1_11) := by rw [efs_11, List.getElem?_set_ne (by decide)]; exact hfk_3_115
        have hfs_11_116 : fs_11[116]? = some (.ref qf116) := by rw [efs_11, List.getElem?_set_ne (by decide)]; exact hfk_3_116
        have hfs_11_138 : fs_11[138]? = some (.int v138) := by rw [efs_11, List.getElem?_set_ne (by decide)]; exact hfk_3_138
        have hfs_11_98 : fs_11[98]? = some (.int (v98 + 1)) := by rw [efs_11, List.getElem?_set_self (by rw [hln_3]; decide)]
        replace hP : va_P (dC, dI) vwCl [(qf116, .inl (cf116, 309, .inl f116)), (qf103, .inl (cf103, 8, .inl g901_1)), (qf105, .inl (cf105, 8, .inl g901_3)), (qf106, .inl (cf106, 8, .inl g901_4)), (qf107, .inl (cf107, 96, .inl g901_5)), (qf108, .inl (cf108, 8, .inl g901_6)), (qf109, .inl (cf109, 96, .inl g901_7)), (qf110, .inl (cf110, 96, .inl g901_8)), (qf111, .inl (cf111, 96, .inl g901_9)), (qf104, .inl (cf104, 8, .inl g901_2)), (qf102, .inl (cf102, 2048, .inl g901_0)), (h0, .inr (13, fs_11)), (qf101, .inl (cf101, 8, .inl g903_2)), (qf112, .inl (cf112, 6000, .inl f112)), (qf100, .inl (cf100, 48000, .inl g903_1))] H := hP
        replace hD : va_D A [(qf116, .inl (cf116, 309, .inl f116)), (qf103, .inl (cf103, 8, .inl g901_1)), (qf105, .inl (cf105, 8, .inl g901_3)), (qf106, .inl (cf106, 8, .inl g901_4)), (qf107, .inl (cf107, 96, .inl g901_5)), (qf108, .inl (cf108, 8, .inl g901_6)), (qf109, .inl (cf109, 96, .inl g901_7)), (qf110, .inl (cf110, 96, .inl g901_8)), (qf111, .inl (cf111, 96, .inl g901_9)), (qf104, .inl (cf104, 8, .inl g901_2)), (qf102, .inl (cf102, 2048, .inl g901_0)), (h0, .inr (13, fs_11)), (qf101, .inl (cf101, 8, .inl g903_2)), (qf112, .inl (cf112, 6000, .inl f112)), (qf100, .inl (cf100, 48000, .inl g903_1))] := hD
        have hrs_12 : ∀ j : Nat, j ≠ 114 → j ≠ 115 → j ≠ 138 → j ≠ 98 → j ≠ 99 → fs_11[j]? = zs[j]? := fun j g114 g115 g138 g98 g99 => ((congrArg (fun z : List Value => z[j]?) efs_11).trans (List.getElem?_set_ne (Ne.symm g98))).trans (hrq_3 j g114 g115 g138 g98 g99)
        refine lv_aload_n hx hb dX13_loaded_159 rfl (lv_at hl 2 rfl) ?_
        refine lv_iconst (v := 0) hx hb dX13_loaded_160 (by decide) ?_
        refine va_put (D := (dC, dI)) (ci := 13) (v := .int 0) (ty := .boolean) (C := RX13) (T := TX13) (N := 155) hx hb hts uV_h9_X13 tyX13 tyX13_ok nmX13 hown hK hP hD hS 11 rfl rfl 99 (by decide) (hts (.fieldLink RX13 855 "ClassMillModel" "verified" "Z") mw_h9_363) (fun _ h9 => h9) rfl (by decide +kernel) rfl rfl (by rw [hlfs_11]; decide) dX13_loaded_161 ?_
        clear hP hD hS
        intro H locs hP hD hS
        obtain ⟨fs_13, efs_13⟩ : ∃ zf : List Value, zf = fs_11.set 99 (.int 0) := ⟨_, rfl⟩
        rw [← efs_13] at hP hD
        have hlfs_13 : fs_13.length = 155 := by rw [efs_13, List.length_set]; exact hlfs_11
        have hfs_13_100 : fs_13[100]? = some (.ref qf100) := by rw [efs_13, List.getElem?_set_ne (by decide)]; exact hfs_11_100
        have hfs_13_101 : fs_13[101]? = some (.ref qf101) := by rw [efs_13, List.getElem?_set_ne (by decide)]; exact hfs_11_101
        have hfs_13_102 : fs_13[102]? = some (.ref qf102) := by rw [efs_13, List.getElem?_set_ne (by decide)]; exact hfs_11_102
        have hfs_13_103 : fs_13[103]? = some (.ref qf103) := by rw [efs_13, List.getElem?_set_ne (by decide)]; exact hfs_11_103
        have hfs_13_104 : fs_13[104]? = some (.ref qf104) := by rw [efs_13, List.getElem?_set_ne (by decide)]; exact hfs_11_104
        have hfs_13_105 : fs_13[105]? = some (.ref qf105) := by rw [efs_13, List.getElem?_set_ne (by decide)]; exact hfs_11_105
        have hfs_13_106 : fs_13[106]? = some (.ref qf106) := by rw [efs_13, List.getElem?_set_ne (by decide)]; exact hfs_11_106
        have hfs_13_107 : fs_13[107]? = some (.ref qf107) := by rw [efs_13, List.getElem?_set_ne (by decide)]; exact hfs_11_107
        have hfs_13_108 : fs_13[108]? = some (.ref qf108) := by rw [efs_13, List.getElem?_set_ne (by decide)]; exact hfs_11_108
        have hfs_13_109 : fs_13[109]? = some (.ref qf109) := by rw [efs_13, List.getElem?_set_ne (by decide)]; exact hfs_11_109
        have hfs_13_110 : fs_13[110]? = some (.ref qf110) := by rw [efs_13, List.getElem?_set_ne (by decide)]; exact hfs_11_110
        have hfs_13_111 : fs_13[111]? = some (.ref qf111) := by rw [efs_13, List.getElem?_set_ne (by decide)]; exact hfs_11_111
        have hfs_13_112 : fs_13[112]? = some (.ref qf112) := by rw [efs_13, List.getElem?_set_ne (by decide)]; exact hfs_11_112
        have hfs_13_113 : fs_13[113]? = some (.int v113) := by rw [efs_13, List.getElem?_set_ne (by decide)]; exact hfs_11_113
        have hfs_13_114 : fs_13[114]? = some (.int u1_10) := by rw [efs_13, List.getElem?_set_ne (by decide)]; exact hfs_11_114
        have hfs_13_115 : fs_13[115]? = some (.int u1_11) := by rw [efs_13, List.getElem?_set_ne (by decide)]; exact hfs_11_115
        have hfs_13_116 : fs_13[116]? = some (.ref qf116) := by rw [efs_13, List.getElem?_set_ne (by decide)]; exact hfs_11_116
        have hfs_13_138 : fs_13[138]? = some (.int v138) := by rw [efs_13, List.getElem?_set_ne (by decide)]; exact hfs_11_138
        have hfs_13_98 : fs_13[98]? = some (.int (v98 + 1)) := by rw [efs_13, List.getElem?_set_ne (by decide)]; exact hfs_11_98
        have hfs_13_99 : fs_13[99]? = some (.int 0) := by rw [efs_13, List.getElem?_set_self (by rw [hlfs_11]; decide)]
        replace hP : va_P (dC, dI) vwCl [(qf116, .inl (cf116, 309, .inl f116)), (qf103, .inl (cf103, 8, .inl g901_1)), (qf105, .inl (cf105, 8, .inl g901_3)), (qf106, .inl (cf106, 8, .inl g901_4)), (qf107, .inl (cf107, 96, .inl g901_5)), (qf108, .inl (cf108, 8, .inl g901_6)), (qf109, .inl (cf109, 96, .inl g901_7)), (qf110, .inl (cf110, 96, .inl g901_8)), (qf111, .inl (cf111, 96, .inl g901_9)), (qf104, .inl (cf104, 8, .inl g901_2)), (qf102, .inl (cf102, 2048, .inl g901_0)), (h0, .inr (13, fs_13)), (qf101, .inl (cf101, 8, .inl g903_2)), (qf112, .inl (cf112, 6000, .inl f112)), (qf100, .inl (cf100, 48000, .inl g903_1))] H := hP
        replace hD : va_D A [(qf116, .inl (cf116, 309, .inl f116)), (qf103, .inl (cf103, 8, .inl g901_1)), (qf105, .inl (cf105, 8, .inl g901_3)), (qf106, .inl (cf106, 8, .inl g901_4)), (qf107, .inl (cf107, 96, .inl g901_5)), (qf108, .inl (cf108, 8, .inl g901_6)), (qf109, .inl (cf109, 96, .inl g901_7)), (qf110, .inl (cf110, 96, .inl g901_8)), (qf111, .inl (cf111, 96, .inl g901_9)), (qf104, .inl (cf104, 8, .inl g901_2)), (qf102, .inl (cf102, 2048, .inl g901_0)), (h0, .inr (13, fs_13)), (qf101, .inl (cf101, 8, .inl g903_2)), (qf112, .inl (cf112, 6000, .inl f112)), (qf100, .inl (cf100, 48000, .inl g903_1))] := hD
        have hrs_14 : ∀ j : Nat, j ≠ 114 → j ≠ 115 → j ≠ 138 → j ≠ 98 → j ≠ 99 → fs_13[j]? = zs[j]? := fun j g114 g115 g138 g98 g99 => ((congrArg (fun z : List Value => z[j]?) efs_13).trans (List.getElem?_set_ne (Ne.symm g99))).trans (hrs_12 j g114 g115 g138 g98 g99)
        refine lv_aload_n hx hb dX13_loaded_164 rfl (lv_at hl 2 rfl) ?_
        refine lv_iconst (v := 0) hx hb dX13_loaded_165 (by decide) ?_
        refine va_put (D := (dC, dI)) (ci := 13) (v := .int 0) (ty := .int) (C := RX13) (T := TX13) (N := 155) hx hb hts uV_h9_X13 tyX13 tyX13_ok nmX13 hown hK hP hD hS 11 rfl rfl 138 (by decide) (hts (.fieldLink RX13 858 "ClassMillModel" "state" "I") mw_h9_364) (fun _ h9 => h9) rfl (by decide +kernel) rfl rfl (by rw [hlfs_13]; decide) dX13_loaded_166 ?_
        clear hP hD hS
        intro H locs hP hD hS
        obtain ⟨fs_15, efs_15⟩ : ∃ zf : List Value, zf = fs_13.set 138 (.int 0) := ⟨_, rfl⟩
        rw [← efs_15] at hP hD
        have hlfs_15 : fs_15.length = 155 := by rw [efs_15, List.length_set]; exact hlfs_13
        have hfs_15_100 : fs_15[100]? = some (.ref qf100) := by rw [efs_15, List.getElem?_set_ne (by decide)]; exact hfs_13_100
        have hfs_15_101 : fs_15[101]? = some (.ref qf101) := by rw [efs_15, List.getElem?_set_ne (by decide)]; exact hfs_13_101
        have hfs_15_102 : fs_15[102]? = some (.ref qf102) := by rw [efs_15, List.getElem?_set_ne (by decide)]; exact hfs_13_102
        have hfs_15_103 : fs_15[103]? = some (.ref qf103) := by rw [efs_15, List.getElem?_set_ne (by decide)]; exact hfs_13_103
        have hfs_15_104 : fs_15[104]? = some (.ref qf104) := by rw [efs_15, List.getElem?_set_ne (by decide)]; exact hfs_13_104
        have hfs_15_105 : fs_15[105]? = some (.ref qf105) := by rw [efs_15, List.getElem?_set_ne (by decide)]; exact hfs_13_105
        have hfs_15_106 : fs_15[106]? = some (.ref qf106) := by rw [efs_15, List.getElem?_set_ne (by decide)]; exact hfs_13_106
        have hfs_15_107 : fs_15[107]? = some (.ref qf107) := by rw [efs_15, List.getElem?_set_ne (by decide)]; exact hfs_13_107
        have hfs_15_108 : fs_15[108]? = some (.ref qf108) := by rw [efs_15, List.getElem?_set_ne (by decide)]; exact hfs_13_108
        have hfs_15_109 : fs_15[109]? = some (.ref qf109) := by rw [efs_15, List.getElem?_set_ne (by decide)]; exact hfs_13_109
        have hfs_15_110 : fs_15[110]? = some (.ref qf110) := by rw [efs_15, List.getElem?_set_ne (by decide)]; exact hfs_13_110
        have hfs_15_111 : fs_15[111]? = some (.ref qf111) := by rw [efs_15, List.getElem?_set_ne (by decide)]; exact hfs_13_111
        have hfs_15_112 : fs_15[112]? = some (.ref qf112) := by rw [efs_15, List.getElem?_set_ne (by decide)]; exact hfs_13_112
        have hfs_15_113 : fs_15[113]? = some (.int v113) := by rw [efs_15, List.getElem?_set_ne (by decide)]; exact hfs_13_113
        have hfs_15_114 : fs_15[114]? = some (.int u1_10) := by rw [efs_15, List.getElem?_set_ne (by decide)]; exact hfs_13_114
        have hfs_15_115 : fs_15[115]? = some (.int u1_11) := by rw [efs_15, List.getElem?_set_ne (by decide)]; exact hfs_13_115
        have hfs_15_116 : fs_15[116]? = some (.ref qf116) := by rw [efs_15, List.getElem?_set_ne (by decide)]; exact hfs_13_116
        have hfs_15_98 : fs_15[98]? = some (.int (v98 + 1)) := by rw [efs_15, List.getElem?_set_ne (by decide)]; exact hfs_13_98
        have hfs_15_99 : fs_15[99]? = some (.int 0) := by rw [efs_15, List.getElem?_set_ne (by decide)]; exact hfs_13_99
        have hfs_15_138 : fs_15[138]? = some (.int 0) := by rw [efs_15, List.getElem?_set_self (by rw [hlfs_13]; decide)]
        replace hP : va_P (dC, dI) vwCl [(qf116, .inl (cf116, 309, .inl f116)), (qf103, .inl (cf103, 8, .inl g901_1)), (qf105, .inl (cf105, 8, .inl g901_3)), (qf106, .inl (cf106, 8, .inl g901_4)), (qf107, .inl (cf107, 96, .inl g901_5)), (qf108, .inl (cf108, 8, .inl g901_6)), (qf109, .inl (cf109, 96, .inl g901_7)), (qf110, .inl (cf110, 96, .inl g901_8)), (qf111, .inl (cf111, 96, .inl g901_9)), (qf104, .inl (cf104, 8, .inl g901_2)), (qf102, .inl (cf102, 2048, .inl g901_0)), (h0, .inr (13, fs_15)), (qf101, .inl (cf101, 8, .inl g903_2)), (qf112, .inl (cf112, 6000, .inl f112)), (qf100, .inl (cf100, 48000, .inl g903_1))] H := hP
        replace hD : va_D A [(qf116, .inl (cf116, 309, .inl f116)), (qf103, .inl (cf103, 8, .inl g901_1)), (qf105, .inl (cf105, 8, .inl g901_3)), (qf106, .inl (cf106, 8, .inl g901_4)), (qf107, .inl (cf107, 96, .inl g901_5)), (qf108, .inl (cf108, 8, .inl g901_6)), (qf109, .inl (cf109, 96, .inl g901_7)), (qf110, .inl (cf110, 96, .inl g901_8)), (qf111, .inl (cf111, 96, .inl g901_9)), (qf104, .inl (cf104, 8, .inl g901_2)), (qf102, .inl (cf102, 2048, .inl g901_0)), (h0, .inr (13, fs_15)), (qf101, .inl (cf101, 8, .inl g903_2)), (qf112, .inl (cf112, 6000, .inl f112)), (qf100, .inl (cf100, 48000, .inl g903_1))] := hD
        have hrs_16 : ∀ j : Nat, j ≠ 114 → j ≠ 115 → j ≠ 138 → j ≠ 98 → j ≠ 99 → fs_15[j]? = zs[j]? := fun j g114 g115 g138 g98 g99 => ((congrArg (fun z : List Value => z[j]?) efs_15).trans (List.getElem?_set_ne (Ne.symm g138))).trans (hrs_14 j g114 g115 g138 g98 g99)
        refine lv_iload_n hx hb dX13_loaded_169 rfl (lv_at hl 0 rfl) ?_
        have hr0 := Option.some.inj hsp
        clear hsp
        obtain ⟨hq0, hr1⟩ := Prod.mk.inj hr0
        clear hr0
        obtain ⟨hq1, hr2⟩ := Prod.mk.inj hr1
        clear hr1
        obtain ⟨hq2, hr3⟩ := Prod.mk.inj hr2
        clear hr2
        obtain ⟨hq3, hr4⟩ := Prod.mk.inj hr3
        clear hr3
        obtain ⟨hq4, hr5⟩ := Prod.mk.inj hr4
        clear hr4
        obtain ⟨hq5, hr6⟩ := Prod.mk.inj hr5
        clear hr5
        obtain ⟨hq6, hr7⟩ := Prod.mk.inj hr6
        clear hr6
        obtain ⟨hq7, hr8⟩ := Prod.mk.inj hr7
        clear hr7
        obtain ⟨hq8, hr9⟩ := Prod.mk.inj hr8
        clear hr8
        obtain ⟨hq9, hr10⟩ := Prod.mk.inj hr9
        clear hr9
        obtain ⟨hq10, hr11⟩ := Prod.mk.inj hr10
        clear hr10
        obtain ⟨hq11, hr12⟩ := Prod.mk.inj hr11
        clear hr11
        obtain ⟨hq12, hr13⟩ := Prod.mk.inj hr12
        clear hr12
        obtain ⟨hq13, hr14⟩ := Prod.mk.inj hr13
        clear hr13
        obtain ⟨hq14, hr15⟩ := Prod.mk.inj hr14
        clear hr14
        obtain ⟨hq15, hr16⟩ := Prod.mk.inj hr15
        clear hr15
        obtain ⟨hq16, hr17⟩ := Prod.mk.inj hr16
        clear hr16
        obtain ⟨hq17, hr18⟩ := Prod.mk.inj hr17
        clear hr17
        subst hq0
        subst hq1
        subst hq2
        subst hq3
        subst hq4
        subst hq5
        subst hq6
        subst hq7
        subst hq8
        subst hq9
        subst hq10
        subst hq11
        subst hq12
        subst hq13
        subst hq14
        subst hq15
        subst hq16
        subst hq17
        subst hr18
        have hP9 := hP.sub (ws' := [(h0, .inr (13, fs_15)), (qf103, .inl (cf103, 8, .inl g901_1)), (qf112, .inl (cf112, 6000, .inl f112)), (qf102, .inl (cf102, 2048, .inl g901_0)), (qf104, .inl (cf104, 8, .inl g901_2)), (qf105, .inl (cf105, 8, .inl g901_3)), (qf106, .inl (cf106, 8, .inl g901_4)), (qf107, .inl (cf107, 96, .inl g901_5)), (qf108, .inl (cf108, 8, .inl g901_6)), (qf109, .inl (cf109, 96, .inl g901_7)), (qf110, .inl (cf110, 96, .inl g901_8)), (qf111, .inl (cf111, 96, .inl g901_9)), (qf100, .inl (cf100, 48000, .inl g903_1)), (qf101, .inl (cf101, 8, .inl g903_2)), (qf116, .inl (cf116, 309, .inl f116))]) [11, 1, 13, 10, 9, 2, 3, 4, 5, 6, 7, 8, 14, 12, 0] rfl
        have hD9 := hD.sub (ws' := [(h0, .inr (13, fs_15)), (qf103, .inl (cf103, 8, .inl g901_1)), (qf112, .inl (cf112, 6000, .inl f112)), (qf102, .inl (cf102, 2048, .inl g901_0)), (qf104, .inl (cf104, 8, .inl g901_2)), (qf105, .inl (cf105, 8, .inl g901_3)), (qf106, .inl (cf106, 8, .inl g901_4)), (qf107, .inl (cf107, 96, .inl g901_5)), (qf108, .inl (cf108, 8, .inl g901_6)), (qf109, .inl (cf109, 96, .inl g901_7)), (qf110, .inl (cf110, 96, .inl g901_8)), (qf111, .inl (cf111, 96, .inl g901_9)), (qf100, .inl (cf100, 48000, .inl g903_1)), (qf101, .inl (cf101, 8, .inl g903_2)), (qf116, .inl (cf116, 309, .inl f116))]) [11, 1, 13, 10, 9, 2, 3, 4, 5, 6, 7, 8, 14, 12, 0] (by decide) rfl
        have hK9 := hK.sub (tys' := [(cf103, .int), (cf112, .int), (cf102, .int), (cf104, .int), (cf105, .int), (cf106, .int), (cf107, .int), (cf108, .int), (cf109, .int), (cf110, .int), (cf111, .int), (cf100, .int), (cf101, .int), (cf116, .int)]) [1, 12, 10, 9, 2, 3, 4, 5, 6, 7, 8, 13, 11, 0] rfl
        exact W.iret hx hb hr (fun t ht hW => ⟨⟨(u3_0), (fs_15), rfl, ⟨rfl, hlfs_15, hrs_16, hfs_15_114, hfs_15_115, hfs_15_138, hfs_15_98, hfs_15_99⟩, by rw [ht]; exact hP9, va_K.moved hW.alike hK9, hD9⟩, hS.F ht⟩) hS.2.2 dX13_loaded_170
      · rw [if_neg c_9] at hsp
        refine lv_iconst (v := (-1)) hx hb dX13_loaded_138 (by decide) ?_
        have hr0 := Option.some.inj hsp
        clear hsp
        obtain ⟨hq0, hr1⟩ := Prod.mk.inj hr0
        clear hr0
        obtain ⟨hq1, hr2⟩ := Prod.mk.inj hr1
        clear hr1
        obtain ⟨hq2, hr3⟩ := Prod.mk.inj hr2
        clear hr2
        obtain ⟨hq3, hr4⟩ := Prod.mk.inj hr3
        clear hr3
        obtain ⟨hq4, hr5⟩ := Prod.mk.inj hr4
        clear hr4
        obtain ⟨hq5, hr6⟩ := Prod.mk.inj hr5
        clear hr5
        obtain ⟨hq6, hr7⟩ := Prod.mk.inj hr6
        clear hr6
        obtain ⟨hq7, hr8⟩ := Prod.mk.inj hr7
        clear hr7
        obtain ⟨hq8, hr9⟩ := Prod.mk.inj hr8
        clear hr8
        obtain ⟨hq9, hr10⟩ := Prod.mk.inj hr9
        clear hr9
        obtain ⟨hq10, hr11⟩ := Prod.mk.inj hr10
        clear hr10
        obtain ⟨hq11, hr12⟩ := Prod.mk.inj hr11
        clear hr11
        obtain ⟨hq12, hr13⟩ := Prod.mk.inj hr12
        clear hr12
        obtain ⟨hq13, hr14⟩ := Prod.mk.inj hr13
        clear hr13
        obtain ⟨hq14, hr15⟩ := Prod.mk.inj hr14
        clear hr14
        obtain ⟨hq15, hr16⟩ := Prod.mk.inj hr15
        clear hr15
        obtain ⟨hq16, hr17⟩ := Prod.mk.inj hr16
        clear hr16
        obtain ⟨hq17, hr18⟩ := Prod.mk.inj hr17
        clear hr17
        subst hq0
        subst hq1
        subst hq2
        subst hq3
        subst hq4
        subst hq5
        subst hq6
        subst hq7
        subst hq8
        subst hq9
        subst hq10
        subst hq11
        subst hq12
        subst hq13
        subst hq14
        subst hq15
        subst hq16
        subst hq17
        subst hr18
        have hP9 := hP.sub (ws' := [(h0, .inr (13, z_2)), (qf103, .inl (cf103, 8, .inl g901_1)), (qf112, .inl (cf112, 6000, .inl f112)), (qf102, .inl (cf102, 2048, .inl g901_0)), (qf104, .inl (cf104, 8, .inl g901_2)), (qf105, .inl (cf105, 8, .inl g901_3)), (qf106, .inl (cf106, 8, .inl g901_4)), (qf107, .inl (cf107, 96, .inl g901_5)), (qf108, .inl (cf108, 8, .inl g901_6)), (qf109, .inl (cf109, 96, .inl g901_7)), (qf110, .inl (cf110, 96, .inl g901_8)), (qf111, .inl (cf111, 96, .inl g901_9)), (qf100, .inl (cf100, 48000, .inl f100)), (qf101, .inl (cf101, 8, .inl f101)), (qf116, .inl (cf116, 309, .inl f116))]) [10, 2, 14, 12, 11, 3, 4, 5, 6, 7, 8, 9, 13, 0, 1] rfl
        have hD9 := hD.sub (ws' := [(h0, .inr (13, z_2)), (qf103, .inl (cf103, 8, .inl g901_1)), (qf112, .inl (cf112, 6000, .inl f112)), (qf102, .inl (cf102, 2048, .inl g901_0)), (qf104, .inl (cf104, 8, .inl g901_2)), (qf105, .inl (cf105, 8, .inl g901_3)), (qf106, .inl (cf106, 8, .inl g901_4)), (qf107, .inl (cf107, 96, .inl g901_5)), (qf108, .inl (cf108, 8, .inl g901_6)), (qf109, .inl (cf109, 96, .inl g901_7)), (qf110, .inl (cf110, 96, .inl g901_8)), (qf111, .inl (cf111, 96, .inl g901_9)), (qf100, .inl (cf100, 48000, .inl f100)), (qf101, .inl (cf101, 8, .inl f101)), (qf116, .inl (cf116, 309, .inl f116))]) [10, 2, 14, 12, 11, 3, 4, 5, 6, 7, 8, 9, 13, 0, 1] (by decide) rfl
        have hK9 := hK.sub (tys' := [(cf103, .int), (cf112, .int), (cf102, .int), (cf104, .int), (cf105, .int), (cf106, .int), (cf107, .int), (cf108, .int), (cf109, .int), (cf110, .int), (cf111, .int), (cf100, .int), (cf101, .int), (cf116, .int)]) [2, 13, 11, 10, 3, 4, 5, 6, 7, 8, 9, 12, 0, 1] rfl
        exact W.iret hx hb hr (fun t ht hW => ⟨⟨((-1)), (z_2), rfl, ⟨rfl, hln_2, hrq_2, hfk_2_114, hfk_2_115, hfk_2_138, hfk_2_98, hfk_2_99⟩, by rw [ht]; exact hP9, va_K.moved hW.alike hK9, hD9⟩, hS.F ht⟩) hS.2.2 dX13_loaded_139
    · rw [if_neg c_2] at hsp
      refine lv_bipush (v := (-2)) hx hb dX13_loaded_62 (by decide) ?_
      refine lv_aload_n hx hb dX13_loaded_64 rfl (lv_at hl 0 rfl) ?_
      refine va_get (D := (dC, dI)) (ci := 13) (v := .int u1_10) (C := RX13) (T := TX13) (N := 155) hx hb hts uV_h9_X13 hown hK hP 3 rfl rfl 114 (by decide) (hts (.fieldLink RX13 764 "ClassMillModel" "form" "I") mw_h9_251) (fun _ h9 => h9) hch_1_114 dX13_loaded_65 ?_
      refine lv_isub hx hb dX13_loaded_68 ?_
      have hr0 := Option.some.inj hsp
      clear hsp
      obtain ⟨hq0, hr1⟩ := Prod.mk.inj hr0
      clear hr0
      obtain ⟨hq1, hr2⟩ := Prod.mk.inj hr1
      clear hr1
      obtain ⟨hq2, hr3⟩ := Prod.mk.inj hr2
      clear hr2
      obtain ⟨hq3, hr4⟩ := Prod.mk.inj hr3
      clear hr3
      obtain ⟨hq4, hr5⟩ := Prod.mk.inj hr4
      clear hr4
      obtain ⟨hq5, hr6⟩ := Prod.mk.inj hr5
      clear hr5
      obtain ⟨hq6, hr7⟩ := Prod.mk.inj hr6
      clear hr6
      obtain ⟨hq7, hr8⟩ := Prod.mk.inj hr7
      clear hr7
      obtain ⟨hq8, hr9⟩ := Prod.mk.inj hr8
      clear hr8
      obtain ⟨hq9, hr10⟩ := Prod.mk.inj hr9
      clear hr9
      obtain ⟨hq10, hr11⟩ := Prod.mk.inj hr10
      clear hr10
      obtain ⟨hq11, hr12⟩ := Prod.mk.inj hr11
      clear hr11
      obtain ⟨hq12, hr13⟩ := Prod.mk.inj hr12
      clear hr12
      obtain ⟨hq13, hr14⟩ := Prod.mk.inj hr13
      clear hr13
      obtain ⟨hq14, hr15⟩ := Prod.mk.inj hr14
      clear hr14
      obtain ⟨hq15, hr16⟩ := Prod.mk.inj hr15
      clear hr15
      obtain ⟨hq16, hr17⟩ := Prod.mk.inj hr16
      clear hr16
      obtain ⟨hq17, hr18⟩ := Prod.mk.inj hr17
      clear hr17
      subst hq0
      subst hq1
      subst hq2
      subst hq3
      subst hq4
      subst hq5
      subst hq6
      subst hq7
      subst hq8
      subst hq9
      subst hq10
      subst hq11
      subst hq12
      subst hq13
      subst hq14
      subst hq15
      subst hq16
      subst hq17
      subst hr18
      have hP9 := hP.sub (ws' := [(h0, .inr (13, z_1)), (qf103, .inl (cf103, 8, .inl g901_1)), (qf112, .inl (cf112, 6000, .inl f112)), (qf102, .inl (cf102, 2048, .inl g901_0)), (qf104, .inl (cf104, 8, .inl g901_2)), (qf105, .inl (cf105, 8, .inl g901_3)), (qf106, .inl (cf106, 8, .inl g901_4)), (qf107, .inl (cf107, 96, .inl g901_5)), (qf108, .inl (cf108, 8, .inl g901_6)), (qf109, .inl (cf109, 96, .inl g901_7)), (qf110, .inl (cf110, 96, .inl g901_8)), (qf111, .inl (cf111, 96, .inl g901_9)), (qf100, .inl (cf100, 48000, .inl f100)), (qf101, .inl (cf101, 8, .inl f101)), (qf116, .inl (cf116, 309, .inl f116))]) [3, 4, 5, 6, 7, 8, 9, 10, 11, 12, 13, 14, 0, 1, 2] rfl
      have hD9 := hD.sub (ws' := [(h0, .inr (13, z_1)), (qf103, .inl (cf103, 8, .inl g901_1)), (qf112, .inl (cf112, 6000, .inl f112)), (qf102, .inl (cf102, 2048, .inl g901_0)), (qf104, .inl (cf104, 8, .inl g901_2)), (qf105, .inl (cf105, 8, .inl g901_3)), (qf106, .inl (cf106, 8, .inl g901_4)), (qf107, .inl (cf107, 96, .inl g901_5)), (qf108, .inl (cf108, 8, .inl g901_6)), (qf109, .inl (cf109, 96, .inl g901_7)), (qf110, .inl (cf110, 96, .inl g901_8)), (qf111, .inl (cf111, 96, .inl g901_9)), (qf100, .inl (cf100, 48000, .inl f100)), (qf101, .inl (cf101, 8, .inl f101)), (qf116, .inl (cf116, 309, .inl f116))]) [3, 4, 5, 6, 7, 8, 9, 10, 11, 12, 13, 14, 0, 1, 2] (by decide) rfl
      have hK9 := hK.sub (tys' := [(cf103, .int), (cf112, .int), (cf102, .int), (cf104, .int), (cf105, .int), (cf106, .int), (cf107, .int), (cf108, .int), (cf109, .int), (cf110, .int), (cf111, .int), (cf100, .int), (cf101, .int), (cf116, .int)]) [3, 4, 5, 6, 7, 8, 9, 10, 11, 12, 13, 0, 1, 2] rfl
      exact W.iret hx hb hr (fun t ht hW => ⟨⟨(((-2) - u1_10)), (z_1), rfl, ⟨rfl, hln_1, hrq_1, hch_1_114, hch_1_115, hfk_1_138, hfk_1_98, hfk_1_99⟩, by rw [ht]; exact hP9, va_K.moved hW.alike hK9, hD9⟩, hS.F ht⟩) hS.2.2 dX13_loaded_69
  · rw [if_pos c_1] at hsp
    refine lv_aload_n hx hb dX13_loaded_9 rfl (lv_at hl 0 rfl) ?_
    refine lv_bipush (v := 7) hx hb dX13_loaded_10 (by decide) ?_
    obtain ⟨g904_0, hu_4, hsp⟩ := ox_bind hsp
    try dsimp only at hsp
    have hPc := hP.sub (ws' := [(h0, .inr (13, zs)), (qf103, .inl (cf103, 8, .inl f103)), (qf116, .inl (cf116, 309, .inl f116)), (qf104, .inl (cf104, 8, .inl f104)), (qf105, .inl (cf105, 8, .inl f105)), (qf106, .inl (cf106, 8, .inl f106)), (qf108, .inl (cf108, 8, .inl f108)), (qf107, .inl (cf107, 96, .inl f107)), (qf109, .inl (cf109, 96, .inl f109)), (qf110, .inl (cf110, 96, .inl f110)), (qf111, .inl (cf111, 96, .inl f111)), (qf102, .inl (cf102, 2048, .inl f102))]) [0, 1, 14, 4, 5, 6, 8, 7, 9, 10, 11, 3] rfl
    have hDc := hD.sub (ws' := [(h0, .inr (13, zs)), (qf103, .inl (cf103, 8, .inl f103)), (qf116, .inl (cf116, 309, .inl f116)), (qf104, .inl (cf104, 8, .inl f104)), (qf105, .inl (cf105, 8, .inl f105)), (qf106, .inl (cf106, 8, .inl f106)), (qf108, .inl (cf108, 8, .inl f108)), (qf107, .inl (cf107, 96, .inl f107)), (qf109, .inl (cf109, 96, .inl f109)), (qf110, .inl (cf110, 96, .inl f110)), (qf111, .inl (cf111, 96, .inl f111)), (qf102, .inl (cf102, 2048, .inl f102))]) [0, 1, 14, 4, 5, 6, 8, 7, 9, 10, 11, 3] (by decide) rfl
    have hKc := hK.sub (tys' := [(cf103, .int), (cf116, .int), (cf104, .int), (cf105, .int), (cf106, .int), (cf108, .int), (cf107, .int), (cf109, .int), (cf110, .int), (cf111, .int), (cf102, .int)]) [0, 13, 3, 4, 5, 7, 6, 8, 9, 10, 2] rfl
    have hFc := va_free (wc := [(h0, .inr (13, zs)), (qf103, .inl (cf103, 8, .inl f103)), (qf116, .inl (cf116, 309, .inl f116)), (qf104, .inl (cf104, 8, .inl f104)), (qf105, .inl (cf105, 8, .inl f105)), (qf106, .inl (cf106, 8, .inl f106)), (qf108, .inl (cf108, 8, .inl f108)), (qf107, .inl (cf107, 96, .inl f107)), (qf109, .inl (cf109, 96, .inl f109)), (qf110, .inl (cf110, 96, .inl f110)), (qf111, .inl (cf111, 96, .inl f111)), (qf102, .inl (cf102, 2048, .inl f102))]) hD hS hA [0, 1, 14, 4, 5, 6, 8, 7, 9, 10, 11, 3] rfl
    refine va_callv (va_runV (As := [.int 7]) (rest := []) ⟨hx, hb, hml, hown, hts⟩ (vm_aside l dC dI H.size h0 zs 7 qf102 qf103 qf104 qf105 qf106 qf107 qf108 qf109 qf110 qf111 qf116 cf103 f103 cf116 f116 cf104 f104 cf105 f105 cf106 f106 cf108 f108 cf107 f107 cf109 f109 cf110 f110 cf111 f111 cf102 f102 nf g904_0 hlen hf102 hf103 hf104 hf105 hf106 hf107 hf108 hf109 hf110 hf111 hf116 hu_4) (cwV 1 hts gv_h9_54 rfl rfl rfl (by decide +kernel) ⟨Nat.le_of_ble_eq_true rfl, Nat.le_of_ble_eq_true rfl⟩) ⟨fun a U g mk q => by obtain ⟨q0, q1, qP, qK, qD⟩ := q; exact ⟨q0, q1, qP, va_K.moved (u := U) (U := U.calling g mk a) (Vm.Alike.refl U.vm) qK, qD⟩, va_recv hKc hPc (ci := 13) (q0 := 0) rfl rfl, fun U hU hW => ⟨rfl, by rw [hU], by rw [hU]; exact hPc, va_K.moved hW.alike hKc, hDc.weaken (fun _ _ _ _ => trivial)⟩⟩ rfl rfl hl.1 rfl (lv_room (Nat.le_of_ble_eq_true rfl)) dX13_loaded_12 ⟨Nat.le_of_ble_eq_true rfl, Nat.le_of_ble_eq_true rfl⟩) hS (fun q _ h => hFc q h) hFc ?_
    clear hS
    intro u t H1 locs ht hvm hw hB hz1 hk1 hS
    obtain ⟨z_4, rfl⟩ : ∃ z, z = u := ⟨_, rfl⟩
    obtain ⟨hP1, hK1, hD1⟩ := hB
    rw [ht] at hP1
    have hK1 := va_K.moved hvm.symm hK1
    try dsimp only at hw
    have hPD := va_join (wr := [(qf112, .inl (cf112, 6000, .inl f112)), (qf100, .inl (cf100, 48000, .inl f100)), (qf101, .inl (cf101, 8, .inl f101))]) (w1 := [(h0, .inr (13, z_4)), (qf103, .inl (cf103, 8, .inl f103)), (qf116, .inl (cf116, 309, .inl g904_0)), (qf104, .inl (cf104, 8, .inl f104)), (qf105, .inl (cf105, 8, .inl f105)), (qf106, .inl (cf106, 8, .inl f106)), (qf108, .inl (cf108, 8, .inl f108)), (qf107, .inl (cf107, 96, .inl f107)), (qf109, .inl (cf109, 96, .inl f109)), (qf110, .inl (cf110, 96, .inl f110)), (qf111, .inl (cf111, 96, .inl f111)), (qf102, .inl (cf102, 2048, .inl f102))]) hP hD [0, 1, 14, 4, 5, 6, 8, 7, 9, 10, 11, 3] [2, 12, 13] rfl rfl (by decide) (by decide) hk1 hFc hP1 hD1
    clear hP hD
    obtain ⟨hP, hD⟩ := hPD
    replace hK := (hK.sub (tys' := [(cf112, .int), (cf100, .int), (cf101, .int)]) [1, 11, 12] rfl).app hK1
    clear hPc hDc hKc hFc hP1 hK1 hD1 hz1 hk1 ht hvm
    generalize H1 = H at hP hS ⊢
    replace hP : va_P (dC, dI) vwCl [(qf112, .inl (cf112, 6000, .inl f112)), (qf100, .inl (cf100, 48000, .inl f100)), (qf101, .inl (cf101, 8, .inl f101)), (h0, .inr (13, z_4)), (qf103, .inl (cf103, 8, .inl f103)), (qf116, .inl (cf116, 309, .inl g904_0)), (qf104, .inl (cf104, 8, .inl f104)), (qf105, .inl (cf105, 8, .inl f105)), (qf106, .inl (cf106, 8, .inl f106)), (qf108, .inl (cf108, 8, .inl f108)), (qf107, .inl (cf107, 96, .inl f107)), (qf109, .inl (cf109, 96, .inl f109)), (qf110, .inl (cf110, 96, .inl f110)), (qf111, .inl (cf111, 96, .inl f111)), (qf102, .inl (cf102, 2048, .inl f102))] H := hP
    replace hD : va_D A [(qf112, .inl (cf112, 6000, .inl f112)), (qf100, .inl (cf100, 48000, .inl f100)), (qf101, .inl (cf101, 8, .inl f101)), (h0, .inr (13, z_4)), (qf103, .inl (cf103, 8, .inl f103)), (qf116, .inl (cf116, 309, .inl g904_0)), (qf104, .inl (cf104, 8, .inl f104)), (qf105, .inl (cf105, 8, .inl f105)), (qf106, .inl (cf106, 8, .inl f106)), (qf108, .inl (cf108, 8, .inl f108)), (qf107, .inl (cf107, 96, .inl f107)), (qf109, .inl (cf109, 96, .inl f109)), (qf110, .inl (cf110, 96, .inl f110)), (qf111, .inl (cf111, 96, .inl f111)), (qf102, .inl (cf102, 2048, .inl f102))] := hD
    replace hK : va_K (dC, dI) vwCl [(cf112, .int), (cf100, .int), (cf101, .int), (cf103, .int), (cf116, .int), (cf104, .int), (cf105, .int), (cf106, .int), (cf108, .int), (cf107, .int), (cf109, .int), (cf110, .int), (cf111, .int), (cf102, .int)] s := hK
    obtain ⟨hwa_4, hln_4, hre_4⟩ := hw
    have hfk_4_98 : z_4[98]? = some (.int v98) := (hre_4 98 ).trans (hf98)
    have hfk_4_99 : z_4[99]? = some (.int v99) := (hre_4 99 ).trans (hf99)
    have hfk_4_100 : z_4[100]? = some (.ref qf100) := (hre_4 100 ).trans (hf100)
    have hfk_4_101 : z_4[101]? = some (.ref qf101) := (hre_4 101 ).trans (hf101)
    have hfk_4_102 : z_4[102]? = some (.ref qf102) := (hre_4 102 ).trans (hf102)
    have hfk_4_103 : z_4[103]? = some (.ref qf103) := (hre_4 103 ).trans (hf103)
    have hfk_4_104 : z_4[104]? = some (.ref qf104) := (hre_4 104 ).trans (hf104)
    have hfk_4_105 : z_4[105]? = some (.ref qf105) := (hre_4 105 ).trans (hf105)
    have hfk_4_106 : z_4[106]? = some (.ref qf106) := (hre_4 106 ).trans (hf106)
    have hfk_4_107 : z_4[107]? = some (.ref qf107) := (hre_4 107 ).trans (hf107)
    have hfk_4_108 : z_4[108]? = some (.ref qf108) := (hre_4 108 ).trans (hf108)
    have hfk_4_109 : z_4[109]? = some (.ref qf109) := (hre_4 109 ).trans (hf109)
    have hfk_4_110 : z_4[110]? = some (.ref qf110) := (hre_4 110 ).trans (hf110)
    have hfk_4_111 : z_4[111]? = some (.ref qf111) := (hre_4 111 ).trans (hf111)
    have hfk_4_112 : z_4[112]? = some (.ref qf112) := (hre_4 112 ).trans (hf112)
    have hfk_4_113 : z_4[113]? = some (.int v113) := (hre_4 113 ).trans (hf113)
    have hfk_4_114 : z_4[114]? = some (.int v114) := (hre_4 114 ).trans (hf114)
    have hfk_4_115 : z_4[115]? = some (.int v115) := (hre_4 115 ).trans (hf115)
    have hfk_4_116 : z_4[116]? = some (.ref qf116) := (hre_4 116 ).trans (hf116)
    have hfk_4_138 : z_4[138]? = some (.int v138) := (hre_4 138 ).trans (hf138)
    have hrq_4 : ∀ j : Nat, j ≠ 114 → j ≠ 115 → j ≠ 138 → j ≠ 98 → j ≠ 99 → z_4[j]? = zs[j]? := fun j g114 g115 g138 g98 g99 => (hre_4 j ).trans (hrs0 j g114 g115 g138 g98 g99)
    refine lv_aload_n hx hb dX13_loaded_15 rfl (lv_at hl 0 rfl) ?_
    refine lv_bipush (v := 7) hx hb dX13_loaded_16 (by decide) ?_
    obtain ⟨⟨g905_0, g905_1, g905_2, g905_3, g905_4, g905_5, g905_6, g905_7, g905_8, g905_9, u5_10, u5_11⟩, hu_5, hsp⟩ := ox_bind hsp
    try dsimp only at hsp
    have hPc := hP.sub (ws' := [(h0, .inr (13, z_4)), (qf103, .inl (cf103, 8, .inl f103)), (qf112, .inl (cf112, 6000, .inl f112)), (qf102, .inl (cf102, 2048, .inl f102)), (qf104, .inl (cf104, 8, .inl f104)), (qf105, .inl (cf105, 8, .inl f105)), (qf106, .inl (cf106, 8, .inl f106)), (qf107, .inl (cf107, 96, .inl f107)), (qf108, .inl (cf108, 8, .inl f108)), (qf109, .inl (cf109, 96, .inl f109)), (qf110, .inl (cf110, 96, .inl f110)), (qf111, .inl (cf111, 96, .inl f111))]) [3, 4, 0, 14, 6, 7, 8, 10, 9, 11, 12, 13] rfl
    have hDc := hD.sub (ws' := [(h0, .inr (13, z_4)), (qf103, .inl (cf103, 8, .inl f103)), (qf112, .inl (cf112, 6000, .inl f112)), (qf102, .inl (cf102, 2048, .inl f102)), (qf104, .inl (cf104, 8, .inl f104)), (qf105, .inl (cf105, 8, .inl f105)), (qf106, .inl (cf106, 8, .inl f106)), (qf107, .inl (cf107, 96, .inl f107)), (qf108, .inl (cf108, 8, .inl f108)), (qf109, .inl (cf109, 96, .inl f109)), (qf110, .inl (cf110, 96, .inl f110)), (qf111, .inl (cf111, 96, .inl f111))]) [3, 4, 0, 14, 6, 7, 8, 10, 9, 11, 12, 13] (by decide) rfl
    have hKc := hK.sub (tys' := [(cf103, .int), (cf112, .int), (cf102, .int), (cf104, .int), (cf105, .int), (cf106, .int), (cf107, .int), (cf108, .int), (cf109, .int), (cf110, .int), (cf111, .int)]) [3, 0, 13, 5, 6, 7, 9, 8, 10, 11, 12] rfl
    have hFc := va_free (wc := [(h0, .inr (13, z_4)), (qf103, .inl (cf103, 8, .inl f103)), (qf112, .inl (cf112, 6000, .inl f112)), (qf102, .inl (cf102, 2048, .inl f102)), (qf104, .inl (cf104, 8, .inl f104)), (qf105, .inl (cf105, 8, .inl f105)), (qf106, .inl (cf106, 8, .inl f106)), (qf107, .inl (cf107, 96, .inl f107)), (qf108, .inl (cf108, 8, .inl f108)), (qf109, .inl (cf109, 96, .inl f109)), (qf110, .inl (cf110, 96, .inl f110)), (qf111, .inl (cf111, 96, .inl f111))]) hD hS hA [3, 4, 0, 14, 6, 7, 8, 10, 9, 11, 12, 13] rfl
    refine va_callv (va_runV (As := [.int 7]) (rest := []) ⟨hx, hb, hml, hown, hts⟩ (vm_scan l dC dI H.size h0 z_4 7 qf102 qf103 qf104 qf105 qf106 qf107 qf108 qf109 qf110 qf111 qf112 v113 v114 v115 cf103 f103 cf112 f112 cf102 f102 cf104 f104 cf105 f105 cf106 f106 cf107 f107 cf108 f108 cf109 f109 cf110 f110 cf111 f111 nf g905_0 g905_1 g905_2 g905_3 g905_4 g905_5 g905_6 g905_7 g905_8 g905_9 u5_10 u5_11 hln_4 hfk_4_102 hfk_4_103 hfk_4_104 hfk_4_105 hfk_4_106 hfk_4_107 hfk_4_108 hfk_4_109 hfk_4_110 hfk_4_111 hfk_4_112 hfk_4_113 hfk_4_114 hfk_4_115 hu_5) (cwV 1 hts gv_h9_90 rfl rfl rfl (by decide +kernel) ⟨Nat.le_of_ble_eq_true rfl, Nat.le_of_ble_eq_true rfl⟩) ⟨fun a U g mk q => by obtain ⟨q0, q1, qP, qK, qD⟩ := q; exact ⟨q0, q1, qP, va_K.moved (u := U) (U := U.calling g mk a) (Vm.Alike.refl U.vm) qK, qD⟩, va_recv hKc hPc (ci := 13) (q0 := 0) rfl rfl, fun U hU hW => ⟨rfl, by rw [hU], by rw [hU]; exact hPc, va_K.moved hW.alike hKc, hDc.weaken (fun _ _ _ _ => trivial)⟩⟩ rfl rfl hl.1 rfl (lv_room (Nat.le_of_ble_eq_true rfl)) dX13_loaded_18 ⟨Nat.le_of_ble_eq_true rfl, Nat.le_of_ble_eq_true rfl⟩) hS (fun q _ h => hFc q h) hFc ?_
    clear hS
    intro u t H1 locs ht hvm hw hB hz1 hk1 hS
    obtain ⟨z_5, rfl⟩ : ∃ z, z = u := ⟨_, rfl⟩
    obtain ⟨hP1, hK1, hD1⟩ := hB
    rw [ht] at hP1
    have hK1 := va_K.moved hvm.symm hK1
    try dsimp only at hw
    have hPD := va_join (wr := [(qf100, .inl (cf100, 48000, .inl f100)), (qf101, .inl (cf101, 8, .inl f101)), (qf116, .inl (cf116, 309, .inl g904_0))]) (w1 := [(h0, .inr (13, z_5)), (qf103, .inl (cf103, 8, .inl g905_1)), (qf112, .inl (cf112, 6000, .inl f112)), (qf102, .inl (cf102, 2048, .inl g905_0)), (qf104, .inl (cf104, 8, .inl g905_2)), (qf105, .inl (cf105, 8, .inl g905_3)), (qf106, .inl (cf106, 8, .inl g905_4)), (qf107, .inl (cf107, 96, .inl g905_5)), (qf108, .inl (cf108, 8, .inl g905_6)), (qf109, .inl (cf109, 96, .inl g905_7)), (qf110, .inl (cf110, 96, .inl g905_8)), (qf111, .inl (cf111, 96, .inl g905_9))]) hP hD [3, 4, 0, 14, 6, 7, 8, 10, 9, 11, 12, 13] [1, 2, 5] rfl rfl (by decide) (by decide) hk1 hFc hP1 hD1
    clear hP hD
    obtain ⟨hP, hD⟩ := hPD
    replace hK := (hK.sub (tys' := [(cf100, .int), (cf101, .int), (cf116, .int)]) [1, 2, 4] rfl).app hK1
    clear hPc hDc hKc hFc hP1 hK1 hD1 hz1 hk1 ht hvm
    generalize H1 = H at hP hS ⊢
    replace hP : va_P (dC, dI) vwCl [(qf100, .inl (cf100, 48000, .inl f100)), (qf101, .inl (cf101, 8, .inl f101)), (qf116, .inl (cf116, 309, .inl g904_0)), (h0, .inr (13, z_5)), (qf103, .inl (cf103, 8, .inl g905_1)), (qf112, .inl (cf112, 6000, .inl f112)), (qf102, .inl (cf102, 2048, .inl g905_0)), (qf104, .inl (cf104, 8, .inl g905_2)), (qf105, .inl (cf105, 8, .inl g905_3)), (qf106, .inl (cf106, 8, .inl g905_4)), (qf107, .inl (cf107, 96, .inl g905_5)), (qf108, .inl (cf108, 8, .inl g905_6)), (qf109, .inl (cf109, 96, .inl g905_7)), (qf110, .inl (cf110, 96, .inl g905_8)), (qf111, .inl (cf111, 96, .inl g905_9))] H := hP
    replace hD : va_D A [(qf100, .inl (cf100, 48000, .inl f100)), (qf101, .inl (cf101, 8, .inl f101)), (qf116, .inl (cf116, 309, .inl g904_0)), (h0, .inr (13, z_5)), (qf103, .inl (cf103, 8, .inl g905_1)), (qf112, .inl (cf112, 6000, .inl f112)), (qf102, .inl (cf102, 2048, .inl g905_0)), (qf104, .inl (cf104, 8, .inl g905_2)), (qf105, .inl (cf105, 8, .inl g905_3)), (qf106, .inl (cf106, 8, .inl g905_4)), (qf107, .inl (cf107, 96, .inl g905_5)), (qf108, .inl (cf108, 8, .inl g905_6)), (qf109, .inl (cf109, 96, .inl g905_7)), (qf110, .inl (cf110, 96, .inl g905_8)), (qf111, .inl (cf111, 96, .inl g905_9))] := hD
    replace hK : va_K (dC, dI) vwCl [(cf100, .int), (cf101, .int), (cf116, .int), (cf103, .int), (cf112, .int), (cf102, .int), (cf104, .int), (cf105, .int), (cf106, .int), (cf107, .int), (cf108, .int), (cf109, .int), (cf110, .int), (cf111, .int)] s := hK
    obtain ⟨hwa_5, hln_5, hre_5, hch_5_114, hch_5_115⟩ := hw
    have hfk_5_98 : z_5[98]? = some (.int v98) := (hre_5 98 (by decide) (by decide)).trans (hfk_4_98)
    have hfk_5_99 : z_5[99]? = some (.int v99) := (hre_5 99 (by decide) (by decide)).trans (hfk_4_99)
    have hfk_5_100 : z_5[100]? = some (.ref qf100) := (hre_5 100 (by decide) (by decide)).trans (hfk_4_100)
    have hfk_5_101 : z_5[101]? = some (.ref qf101) := (hre_5 101 (by decide) (by decide)).trans (hfk_4_101)
    have hfk_5_102 : z_5[102]? = some (.ref qf102) := (hre_5 102 (by decide) (by decide)).trans (hfk_4_102)
    have hfk_5_103 : z_5[103]? = some (.ref qf103) := (hre_5 103 (by decide) (by decide)).trans (hfk_4_103)
    have hfk_5_104 : z_5[104]? = some (.ref qf104) := (hre_5 104 (by decide) (by decide)).trans (hfk_4_104)
    have hfk_5_105 : z_5[105]? = some (.ref qf105) := (hre_5 105 (by decide) (by decide)).trans (hfk_4_105)
    have hfk_5_106 : z_5[106]? = some (.ref qf106) := (hre_5 106 (by decide) (by decide)).trans (hfk_4_106)
    have hfk_5_107 : z_5[107]? = some (.ref qf107) := (hre_5 107 (by decide) (by decide)).trans (hfk_4_107)
    have hfk_5_108 : z_5[108]? = some (.ref qf108) := (hre_5 108 (by decide) (by decide)).trans (hfk_4_108)
    have hfk_5_109 : z_5[109]? = some (.ref qf109) := (hre_5 109 (by decide) (by decide)).trans (hfk_4_109)
    have hfk_5_110 : z_5[110]? = some (.ref qf110) := (hre_5 110 (by decide) (by decide)).trans (hfk_4_110)
    have hfk_5_111 : z_5[111]? = some (.ref qf111) := (hre_5 111 (by decide) (by decide)).trans (hfk_4_111)
    have hfk_5_112 : z_5[112]? = some (.ref qf112) := (hre_5 112 (by decide) (by decide)).trans (hfk_4_112)
    have hfk_5_113 : z_5[113]? = some (.int v113) := (hre_5 113 (by decide) (by decide)).trans (hfk_4_113)
    have hfk_5_116 : z_5[116]? = some (.ref qf116) := (hre_5 116 (by decide) (by decide)).trans (hfk_4_116)
    have hfk_5_138 : z_5[138]? = some (.int v138) := (hre_5 138 (by decide) (by decide)).trans (hfk_4_138)
    have hrq_5 : ∀ j : Nat, j ≠ 114 → j ≠ 115 → j ≠ 138 → j ≠ 98 → j ≠ 99 → z_5[j]? = zs[j]? := fun j g114 g115 g138 g98 g99 => (hre_5 j g114 g115).trans (hrq_4 j g114 g115 g138 g98 g99)
    refine lv_aload_n hx hb dX13_loaded_21 rfl (lv_at hl 0 rfl) ?_
    refine va_get (D := (dC, dI)) (ci := 13) (v := .int u5_10) (C := RX13) (T := TX13) (N := 155) hx hb hts uV_h9_X13 hown hK hP 3 rfl rfl 114 (by decide) (hts (.fieldLink RX13 764 "ClassMillModel" "form" "I") mw_h9_251) (fun _ h9 => h9) hch_5_114 dX13_loaded_22 ?_
    refine lv_istore_n (lv' := [(1, .int u5_10), (0, .ref h0)]) hx hb dX13_loaded_25 rfl hl (by decide) rfl (fun ls hl => ?_)
    refine lv_aload_n hx hb dX13_loaded_26 rfl (lv_at hl 1 rfl) ?_
    refine lv_bipush (v := 7) hx hb dX13_loaded_27 (by decide) ?_
    obtain ⟨⟨g906_0, g906_1, g906_2, g906_3, g906_4, g906_5, g906_6, g906_7, g906_8, g906_9⟩, hu_6, hsp⟩ := ox_bind hsp
    try dsimp only at hsp
    have hPc := hP.sub (ws' := [(h0, .inr (13, z_5)), (qf116, .inl (cf116, 309, .inl g904_0)), (qf103, .inl (cf103, 8, .inl g905_1)), (qf104, .inl (cf104, 8, .inl g905_2)), (qf105, .inl (cf105, 8, .inl g905_3)), (qf106, .inl (cf106, 8, .inl g905_4)), (qf108, .inl (cf108, 8, .inl g905_6)), (qf107, .inl (cf107, 96, .inl g905_5)), (qf109, .inl (cf109, 96, .inl g905_7)), (qf110, .inl (cf110, 96, .inl g905_8)), (qf111, .inl (cf111, 96, .inl g905_9)), (qf102, .inl (cf102, 2048, .inl g905_0))]) [3, 2, 4, 7, 8, 9, 11, 10, 12, 13, 14, 6] rfl
    have hDc := hD.sub (ws' := [(h0, .inr (13, z_5)), (qf116, .inl (cf116, 309, .inl g904_0)), (qf103, .inl (cf103, 8, .inl g905_1)), (qf104, .inl (cf104, 8, .inl g905_2)), (qf105, .inl (cf105, 8, .inl g905_3)), (qf106, .inl (cf106, 8, .inl g905_4)), (qf108, .inl (cf108, 8, .inl g905_6)), (qf107, .inl (cf107, 96, .inl g905_5)), (qf109, .inl (cf109, 96, .inl g905_7)), (qf110, .inl (cf110, 96, .inl g905_8)), (qf111, .inl (cf111, 96, .inl g905_9)), (qf102, .inl (cf102, 2048, .inl g905_0))]) [3, 2, 4, 7, 8, 9, 11, 10, 12, 13, 14, 6] (by decide) rfl
    have hKc := hK.sub (tys' := [(cf116, .int), (cf103, .int), (cf104, .int), (cf105, .int), (cf106, .int), (cf108, .int), (cf107, .int), (cf109, .int), (cf110, .int), (cf111, .int), (cf102, .int)]) [2, 3, 6, 7, 8, 10, 9, 11, 12, 13, 5] rfl
    have hFc := va_free (wc := [(h0, .inr (13, z_5)), (qf116, .inl (cf116, 309, .inl g904_0)), (qf103, .inl (cf103, 8, .inl g905_1)), (qf104, .inl (cf104, 8, .inl g905_2)), (qf105, .inl (cf105, 8, .inl g905_3)), (qf106, .inl (cf106, 8, .inl g905_4)), (qf108, .inl (cf108, 8, .inl g905_6)), (qf107, .inl (cf107, 96, .inl g905_5)), (qf109, .inl (cf109, 96, .inl g905_7)), (qf110, .inl (cf110, 96, .inl g905_8)), (qf111, .inl (cf111, 96, .inl g905_9)), (qf102, .inl (cf102, 2048, .inl g905_0))]) hD hS hA [3, 2, 4, 7, 8, 9, 11, 10, 12, 13, 14, 6] rfl
    refine va_callv (va_runV (As := [.int 7]) (rest := []) ⟨hx, hb, hml, hown, hts⟩ (vm_again l dC dI H.size h0 z_5 7 qf102 qf103 qf104 qf105 qf106 qf107 qf108 qf109 qf110 qf111 qf116 cf116 g904_0 cf103 g905_1 cf104 g905_2 cf105 g905_3 cf106 g905_4 cf108 g905_6 cf107 g905_5 cf109 g905_7 cf110 g905_8 cf111 g905_9 cf102 g905_0 nf g906_0 g906_1 g906_2 g906_3 g906_4 g906_5 g906_6 g906_7 g906_8 g906_9 hln_5 hfk_5_102 hfk_5_103 hfk_5_104 hfk_5_105 hfk_5_106 hfk_5_107 hfk_5_108 hfk_5_109 hfk_5_110 hfk_5_111 hfk_5_116 hu_6) (cwV 1 hts gv_h9_93 rfl rfl rfl (by decide +kernel) ⟨Nat.le_of_ble_eq_true rfl, Nat.le_of_ble_eq_true rfl⟩) ⟨fun a U g mk q => by obtain ⟨q0, q1, qP, qK, qD⟩ := q; exact ⟨q0, q1, qP, va_K.moved (u := U) (U := U.calling g mk a) (Vm.Alike.refl U.vm) qK, qD⟩, va_recv hKc hPc (ci := 13) (q0 := 0) rfl rfl, fun U hU hW => ⟨rfl, by rw [hU], by rw [hU]; exact hPc, va_K.moved hW.alike hKc, hDc.weaken (fun _ _ _ _ => trivial)⟩⟩ rfl rfl hl.1 rfl (lv_room (Nat.le_of_ble_eq_true rfl)) dX13_loaded_29 ⟨Nat.le_of_ble_eq_true rfl, Nat.le_of_ble_eq_true rfl⟩) hS (fun q _ h => hFc q h) hFc ?_
    clear hS
    intro u t H1 locs ht hvm hw hB hz1 hk1 hS
    obtain ⟨z_6, rfl⟩ : ∃ z, z = u := ⟨_, rfl⟩
    obtain ⟨hP1, hK1, hD1⟩ := hB
    rw [ht] at hP1
    have hK1 := va_K.moved hvm.symm hK1
    try dsimp only at hw
    have hPD := va_join (wr := [(qf100, .inl (cf100, 48000, .inl f100)), (qf101, .inl (cf101, 8, .inl f101)), (qf112, .inl (cf112, 6000, .inl f112))]) (w1 := [(h0, .inr (13, z_6)), (qf116, .inl (cf116, 309, .inl g904_0)), (qf103, .inl (cf103, 8, .inl g906_1)), (qf104, .inl (cf104, 8, .inl g906_2)), (qf105, .inl (cf105, 8, .inl g906_3)), (qf106, .inl (cf106, 8, .inl g906_4)), (qf108, .inl (cf108, 8, .inl g906_6)), (qf107, .inl (cf107, 96, .inl g906_5)), (qf109, .inl (cf109, 96, .inl g906_7)), (qf110, .inl (cf110, 96, .inl g906_8)), (qf111, .inl (cf111, 96, .inl g906_9)), (qf102, .inl (cf102, 2048, .inl g906_0))]) hP hD [3, 2, 4, 7, 8, 9, 11, 10, 12, 13, 14, 6] [0, 1, 5] rfl rfl (by decide) (by decide) hk1 hFc hP1 hD1
    clear hP hD
    obtain ⟨hP, hD⟩ := hPD
    replace hK := (hK.sub (tys' := [(cf100, .int), (cf101, .int), (cf112, .int)]) [0, 1, 4] rfl).app hK1
    clear hPc hDc hKc hFc hP1 hK1 hD1 hz1 hk1 ht hvm
    generalize H1 = H at hP hS ⊢
    replace hP : va_P (dC, dI) vwCl [(qf100, .inl (cf100, 48000, .inl f100)), (qf101, .inl (cf101, 8, .inl f101)), (qf112, .inl (cf112, 6000, .inl f112)), (h0, .inr (13, z_6)), (qf116, .inl (cf116, 309, .inl g904_0)), (qf103, .inl (cf103, 8, .inl g906_1)), (qf104, .inl (cf104, 8, .inl g906_2)), (qf105, .inl (cf105, 8, .inl g906_3)), (qf106, .inl (cf106, 8, .inl g906_4)), (qf108, .inl (cf108, 8, .inl g906_6)), (qf107, .inl (cf107, 96, .inl g906_5)), (qf109, .inl (cf109, 96, .inl g906_7)), (qf110, .inl (cf110, 96, .inl g906_8)), (qf111, .inl (cf111, 96, .inl g906_9)), (qf102, .inl (cf102, 2048, .inl g906_0))] H := hP
    replace hD : va_D A [(qf100, .inl (cf100, 48000, .inl f100)), (qf101, .inl (cf101, 8, .inl f101)), (qf112, .inl (cf112, 6000, .inl f112)), (h0, .inr (13, z_6)), (qf116, .inl (cf116, 309, .inl g904_0)), (qf103, .inl (cf103, 8, .inl g906_1)), (qf104, .inl (cf104, 8, .inl g906_2)), (qf105, .inl (cf105, 8, .inl g906_3)), (qf106, .inl (cf106, 8, .inl g906_4)), (qf108, .inl (cf108, 8, .inl g906_6)), (qf107, .inl (cf107, 96, .inl g906_5)), (qf109, .inl (cf109, 96, .inl g906_7)), (qf110, .inl (cf110, 96, .inl g906_8)), (qf111, .inl (cf111, 96, .inl g906_9)), (qf102, .inl (cf102, 2048, .inl g906_0))] := hD
    replace hK : va_K (dC, dI) vwCl [(cf100, .int), (cf101, .int), (cf112, .int), (cf116, .int), (cf103, .int), (cf104, .int), (cf105, .int), (cf106, .int), (cf108, .int), (cf107, .int), (cf109, .int), (cf110, .int), (cf111, .int), (cf102, .int)] s := hK
    obtain ⟨hwa_6, hln_6, hre_6⟩ := hw
    have hfk_6_98 : z_6[98]? = some (.int v98) := (hre_6 98 ).trans (hfk_5_98)
    have hfk_6_99 : z_6[99]? = some (.int v99) := (hre_6 99 ).trans (hfk_5_99)
    have hfk_6_100 : z_6[100]? = some (.ref qf100) := (hre_6 100 ).trans (hfk_5_100)
    have hfk_6_101 : z_6[101]? = some (.ref qf101) := (hre_6 101 ).trans (hfk_5_101)
    have hfk_6_102 : z_6[102]? = some (.ref qf102) := (hre_6 102 ).trans (hfk_5_102)
    have hfk_6_103 : z_6[103]? = some (.ref qf103) := (hre_6 103 ).trans (hfk_5_103)
    have hfk_6_104 : z_6[104]? = some (.ref qf104) := (hre_6 104 ).trans (hfk_5_104)
    have hfk_6_105 : z_6[105]? = some (.ref qf105) := (hre_6 105 ).trans (hfk_5_105)
    have hfk_6_106 : z_6[106]? = some (.ref qf106) := (hre_6 106 ).trans (hfk_5_106)
    have hfk_6_107 : z_6[107]? = some (.ref qf107) := (hre_6 107 ).trans (hfk_5_107)
    have hfk_6_108 : z_6[108]? = some (.ref qf108) := (hre_6 108 ).trans (hfk_5_108)
    have hfk_6_109 : z_6[109]? = some (.ref qf109) := (hre_6 109 ).trans (hfk_5_109)
    have hfk_6_110 : z_6[110]? = some (.ref qf110) := (hre_6 110 ).trans (hfk_5_110)
    have hfk_6_111 : z_6[111]? = some (.ref qf111) := (hre_6 111 ).trans (hfk_5_111)
    have hfk_6_112 : z_6[112]? = some (.ref qf112) := (hre_6 112 ).trans (hfk_5_112)
    have hfk_6_113 : z_6[113]? = some (.int v113) := (hre_6 113 ).trans (hfk_5_113)
    have hfk_6_114 : z_6[114]? = some (.int u5_10) := (hre_6 114 ).trans (hch_5_114)
    have hfk_6_115 : z_6[115]? = some (.int u5_11) := (hre_6 115 ).trans (hch_5_115)
    have hfk_6_116 : z_6[116]? = some (.ref qf116) := (hre_6 116 ).trans (hfk_5_116)
    have hfk_6_138 : z_6[138]? = some (.int v138) := (hre_6 138 ).trans (hfk_5_138)
    have hrq_6 : ∀ j : Nat, j ≠ 114 → j ≠ 115 → j ≠ 138 → j ≠ 98 → j ≠ 99 → z_6[j]? = zs[j]? := fun j g114 g115 g138 g98 g99 => (hre_6 j ).trans (hrq_5 j g114 g115 g138 g98 g99)
    refine lv_iload_n hx hb dX13_loaded_32 rfl (lv_at hl 0 rfl) ?_
    refine lv_iconst (v := (-1)) hx hb dX13_loaded_33 (by decide) ?_
    refine lv_icmp_eq (tgt := 44) hx hb dX13_loaded_34 (by decide) (fun c_17 => ?_) (fun c_17 => ?_)
    · rw [if_pos c_17] at hsp
      refine lv_iconst (v := (-1)) hx hb dX13_loaded_44 (by decide) ?_
      have hr0 := Option.some.inj hsp
      clear hsp
      obtain ⟨hq0, hr1⟩ := Prod.mk.inj hr0
      clear hr0
      obtain ⟨hq1, hr2⟩ := Prod.mk.inj hr1
      clear hr1
      obtain ⟨hq2, hr3⟩ := Prod.mk.inj hr2
      clear hr2
      obtain ⟨hq3, hr4⟩ := Prod.mk.inj hr3
      clear hr3
      obtain ⟨hq4, hr5⟩ := Prod.mk.inj hr4
      clear hr4
      obtain ⟨hq5, hr6⟩ := Prod.mk.inj hr5
      clear hr5
      obtain ⟨hq6, hr7⟩ := Prod.mk.inj hr6
      clear hr6
      obtain ⟨hq7, hr8⟩ := Prod.mk.inj hr7
      clear hr7
      obtain ⟨hq8, hr9⟩ := Prod.mk.inj hr8
      clear hr8
      obtain ⟨hq9, hr10⟩ := Prod.mk.inj hr9
      clear hr9
      obtain ⟨hq10, hr11⟩ := Prod.mk.inj hr10
      clear hr10
      obtain ⟨hq11, hr12⟩ := Prod.mk.inj hr11
      clear hr11
      obtain ⟨hq12, hr13⟩ := Prod.mk.inj hr12
      clear hr12
      obtain ⟨hq13, hr14⟩ := Prod.mk.inj hr13
      clear hr13
      obtain ⟨hq14, hr15⟩ := Prod.mk.inj hr14
      clear hr14
      obtain ⟨hq15, hr16⟩ := Prod.mk.inj hr15
      clear hr15
      obtain ⟨hq16, hr17⟩ := Prod.mk.inj hr16
      clear hr16
      obtain ⟨hq17, hr18⟩ := Prod.mk.inj hr17
      clear hr17
      subst hq0
      subst hq1
      subst hq2
      subst hq3
      subst hq4
      subst hq5
      subst hq6
      subst hq7
      subst hq8
      subst hq9
      subst hq10
      subst hq11
      subst hq12
      subst hq13
      subst hq14
      subst hq15
      subst hq16
      subst hq17
      subst hr18
      have hP9 := hP.sub (ws' := [(h0, .inr (13, z_6)), (qf103, .inl (cf103, 8, .inl g906_1)), (qf112, .inl (cf112, 6000, .inl f112)), (qf102, .inl (cf102, 2048, .inl g906_0)), (qf104, .inl (cf104, 8, .inl g906_2)), (qf105, .inl (cf105, 8, .inl g906_3)), (qf106, .inl (cf106, 8, .inl g906_4)), (qf107, .inl (cf107, 96, .inl g906_5)), (qf108, .inl (cf108, 8, .inl g906_6)), (qf109, .inl (cf109, 96, .inl g906_7)), (qf110, .inl (cf110, 96, .inl g906_8)), (qf111, .inl (cf111, 96, .inl g906_9)), (qf100, .inl (cf100, 48000, .inl f100)), (qf101, .inl (cf101, 8, .inl f101)), (qf116, .inl (cf116, 309, .inl g904_0))]) [3, 5, 2, 14, 6, 7, 8, 10, 9, 11, 12, 13, 0, 1, 4] rfl
      have hD9 := hD.sub (ws' := [(h0, .inr (13, z_6)), (qf103, .inl (cf103, 8, .inl g906_1)), (qf112, .inl (cf112, 6000, .inl f112)), (qf102, .inl (cf102, 2048, .inl g906_0)), (qf104, .inl (cf104, 8, .inl g906_2)), (qf105, .inl (cf105, 8, .inl g906_3)), (qf106, .inl (cf106, 8, .inl g906_4)), (qf107, .inl (cf107, 96, .inl g906_5)), (qf108, .inl (cf108, 8, .inl g906_6)), (qf109, .inl (cf109, 96, .inl g906_7)), (qf110, .inl (cf110, 96, .inl g906_8)), (qf111, .inl (cf111, 96, .inl g906_9)), (qf100, .inl (cf100, 48000, .inl f100)), (qf101, .inl (cf101, 8, .inl f101)), (qf116, .inl (cf116, 309, .inl g904_0))]) [3, 5, 2, 14, 6, 7, 8, 10, 9, 11, 12, 13, 0, 1, 4] (by decide) rfl
      have hK9 := hK.sub (tys' := [(cf103, .int), (cf112, .int), (cf102, .int), (cf104, .int), (cf105, .int), (cf106, .int), (cf107, .int), (cf108, .int), (cf109, .int), (cf110, .int), (cf111, .int), (cf100, .int), (cf101, .int), (cf116, .int)]) [4, 2, 13, 5, 6, 7, 9, 8, 10, 11, 12, 0, 1, 3] rfl
      exact W.iret hx hb hr (fun t ht hW => ⟨⟨((-1)), (z_6), rfl, ⟨rfl, hln_6, hrq_6, hfk_6_114, hfk_6_115, hfk_6_138, hfk_6_98, hfk_6_99⟩, by rw [ht]; exact hP9, va_K.moved hW.alike hK9, hD9⟩, hS.F ht⟩) hS.2.2 dX13_loaded_45
    · rw [if_neg c_17] at hsp
      refine lv_bipush (v := (-2)) hx hb dX13_loaded_37 (by decide) ?_
      refine lv_iload_n hx hb dX13_loaded_39 rfl (lv_at hl 0 rfl) ?_
      refine lv_isub hx hb dX13_loaded_40 ?_
      refine lv_goto (tgt := 45) hx hb dX13_loaded_41 (by decide) ?_
      have hr0 := Option.some.inj hsp
      clear hsp
      obtain ⟨hq0, hr1⟩ := Prod.mk.inj hr0
      clear hr0
      obtain ⟨hq1, hr2⟩ := Prod.mk.inj hr1
      clear hr1
      obtain ⟨hq2, hr3⟩ := Prod.mk.inj hr2
      clear hr2
      obtain ⟨hq3, hr4⟩ := Prod.mk.inj hr3
      clear hr3
      obtain ⟨hq4, hr5⟩ := Prod.mk.inj hr4
      clear hr4
      obtain ⟨hq5, hr6⟩ := Prod.mk.inj hr5
      clear hr5
      obtain ⟨hq6, hr7⟩ := Prod.mk.inj hr6
      clear hr6
      obtain ⟨hq7, hr8⟩ := Prod.mk.inj hr7
      clear hr7
      obtain ⟨hq8, hr9⟩ := Prod.mk.inj hr8
      clear hr8
      obtain ⟨hq9, hr10⟩ := Prod.mk.inj hr9
      clear hr9
      obtain ⟨hq10, hr11⟩ := Prod.mk.inj hr10
      clear hr10
      obtain ⟨hq11, hr12⟩ := Prod.mk.inj hr11
      clear hr11
      obtain ⟨hq12, hr13⟩ := Prod.mk.inj hr12
      clear hr12
      obtain ⟨hq13, hr14⟩ := Prod.mk.inj hr13
      clear hr13
      obtain ⟨hq14, hr15⟩ := Prod.mk.inj hr14
      clear hr14
      obtain ⟨hq15, hr16⟩ := Prod.mk.inj hr15
      clear hr15
      obtain ⟨hq16, hr17⟩ := Prod.mk.inj hr16
      clear hr16
      obtain ⟨hq17, hr18⟩ := Prod.mk.inj hr17
      clear hr17
      subst hq0
      subst hq1
      subst hq2
      subst hq3
      subst hq4
      subst hq5
      subst hq6
      subst hq7
      subst hq8
      subst hq9
      subst hq10
      subst hq11
      subst hq12
      subst hq13
      subst hq14
      subst hq15
      subst hq16
      subst hq17
      subst hr18
      have hP9 := hP.sub (ws' := [(h0, .inr (13, z_6)), (qf103, .inl (cf103, 8, .inl g906_1)), (qf112, .inl (cf112, 6000, .inl f112)), (qf102, .inl (cf102, 2048, .inl g906_0)), (qf104, .inl (cf104, 8, .inl g906_2)), (qf105, .inl (cf105, 8, .inl g906_3)), (qf106, .inl (cf106, 8, .inl g906_4)), (qf107, .inl (cf107, 96, .inl g906_5)), (qf108, .inl (cf108, 8, .inl g906_6)), (qf109, .inl (cf109, 96, .inl g906_7)), (qf110, .inl (cf110, 96, .inl g906_8)), (qf111, .inl (cf111, 96, .inl g906_9)), (qf100, .inl (cf100, 48000, .inl f100)), (qf101, .inl (cf101, 8, .inl f101)), (qf116, .inl (cf116, 309, .inl g904_0))]) [3, 5, 2, 14, 6, 7, 8, 10, 9, 11, 12, 13, 0, 1, 4] rfl
      have hD9 := hD.sub (ws' := [(h0, .inr (13, z_6)), (qf103, .inl (cf103, 8, .inl g906_1)), (qf112, .inl (cf112, 6000, .inl f112)), (qf102, .inl (cf102, 2048, .inl g906_0)), (qf104, .inl (cf104, 8, .inl g906_2)), (qf105, .inl (cf105, 8, .inl g906_3)), (qf106, .inl (cf106, 8, .inl g906_4)), (qf107, .inl (cf107, 96, .inl g906_5)), (qf108, .inl (cf108, 8, .inl g906_6)), (qf109, .inl (cf109, 96, .inl g906_7)), (qf110, .inl (cf110, 96, .inl g906_8)), (qf111, .inl (cf111, 96, .inl g906_9)), (qf100, .inl (cf100, 48000, .inl f100)), (qf101, .inl (cf101, 8, .inl f101)), (qf116, .inl (cf116, 309, .inl g904_0))]) [3, 5, 2, 14, 6, 7, 8, 10, 9, 11, 12, 13, 0, 1, 4] (by decide) rfl
      have hK9 := hK.sub (tys' := [(cf103, .int), (cf112, .int), (cf102, .int), (cf104, .int), (cf105, .int), (cf106, .int), (cf107, .int), (cf108, .int), (cf109, .int), (cf110, .int), (cf111, .int), (cf100, .int), (cf101, .int), (cf116, .int)]) [4, 2, 13, 5, 6, 7, 9, 8, 10, 11, 12, 0, 1, 3] rfl
      exact W.iret hx hb hr (fun t ht hW => ⟨⟨(((-2) - u5_10)), (z_6), rfl, ⟨rfl, hln_6, hrq_6, hfk_6_114, hfk_6_115, hfk_6_138, hfk_6_98, hfk_6_99⟩, by rw [ht]; exact hP9, va_K.moved hW.alike hK9, hD9⟩, hS.F ht⟩) hS.2.2 dX13_loaded_45
def lp_vm_load_10 (nf n : Nat) (v1 : Int32) (v98 : Int32) (v99 : Int32) (v114 : Int32) (v115 : Int32) (v138 : Int32) (f103 : Nat → Int32) (f112 : Nat → Int32) (f102 : Nat → Int32) (f104 : Nat → Int32) (f105 : Nat → Int32) (f106 : Nat → Int32) (f107 : Nat → Int32) (f108 : Nat → Int32) (f109 : Nat → Int32) (f110 : Nat → Int32) (f111 : Nat → Int32) (f100 : Nat → Int32) (f101 : Nat → Int32) (f116 : Nat → Int32) (f0 : Nat → Int32) (nS477 : Nat) (fS477 : Nat → Int32)  (l1_10 : Int32) (g100_10 : Nat → Int32) (g101_10 : Nat → Int32) (g102_10 : Nat → Int32) (g103_10 : Nat → Int32) (g104_10 : Nat → Int32) (g105_10 : Nat → Int32) (g106_10 : Nat → Int32) (g107_10 : Nat → Int32) (g108_10 : Nat → Int32) (g109_10 : Nat → Int32) (g110_10 : Nat → Int32) (g111_10 : Nat → Int32) (g112_10 : Nat → Int32) (g116_10 : Nat → Int32) (x1_10 : Int32) (x113_10 : Int32) (x114_10 : Int32) (x115_10 : Int32) (x138_10 : Int32) (x98_10 : Int32) (x99_10 : Int32) : Option (Int32 × (Nat → Int32) × (Nat → Int32) × (Nat → Int32) × (Nat → Int32) × (Nat → Int32) × (Nat → Int32) × (Nat → Int32) × (Nat → Int32) × (Nat → Int32) × (Nat → Int32) × (Nat → Int32) × (Nat → Int32) × (Nat → Int32) × (Nat → Int32) × Int32 × Int32 × Int32 × Int32 × Int32 × Int32 × Int32) := match n with
  | 0 => none
  | n + 1 => (if x1_10 ≤ l1_10 then ((sp_vm_loaded nf x98_10 x99_10 x113_10 x138_10 g103_10 g112_10 g102_10 g104_10 g105_10 g106_10 g107_10 g108_10 g109_10 g110_10 g111_10 g100_10 g101_10 g116_10 nS477 fS477).bind (fun p1 => (some (p1.1, p1.2.1, p1.2.2.1, p1.2.2.2.1, p1.2.2.2.2.1, p1.2.2.2.2.2.1, p1.2.2.2.2.2.2.1, p1.2.2.2.2.2.2.2.1, p1.2.2.2.2.2.2.2.2.1, p1.2.2.2.2.2.2.2.2.2.1, p1.2.2.2.2.2.2.2.2.2.2.1, p1.2.2.2.2.2.2.2.2.2.2.2.1, p1.2.2.2.2.2.2.2.2.2.2.2.2.1, g112_10, p1.2.2.2.2.2.2.2.2.2.2.2.2.2.1, 0, x113_10, p1.2.2.2.2.2.2.2.2.2.2.2.2.2.2.1, p1.2.2.2.2.2.2.2.2.2.2.2.2.2.2.2.1, p1.2.2.2.2.2.2.2.2.2.2.2.2.2.2.2.2.1, p1.2.2.2.2.2.2.2.2.2.2.2.2.2.2.2.2.2.1, p1.2.2.2.2.2.2.2.2.2.2.2.2.2.2.2.2.2.2)))) else (if l1_10 < 0 then none else if 6000 ≤ (l1_10 : Int32).toNatClampNeg then none else (if l1_10 < 0 then none else if 6000 ≤ (l1_10 : Int32).toNatClampNeg then none else (lp_vm_load_10 nf n v1 v98 v99 v114 v115 v138 f103 f112 f102 f104 f105 f106 f107 f108 f109 f110 f111 f100 f101 f116 f0 nS477 fS477 (l1_10 + 1) g100_10 g101_10 g102_10 g103_10 g104_10 g105_10 g106_10 g107_10 g108_10 g109_10 g110_10 g111_10 (upd g112_10 (l1_10 : Int32).toNatClampNeg (f0 (l1_10 : Int32).toNatClampNeg)) g116_10 x1_10 x113_10 x114_10 x115_10 x138_10 x98_10 x99_10))))
def sp_vm_load (nf : Nat) (v1 : Int32) (v98 : Int32) (v99 : Int32) (v114 : Int32) (v115 : Int32) (v138 : Int32) (f103 : Nat → Int32) (f112 : Nat → Int32) (f102 : Nat → Int32) (f104 : Nat → Int32) (f105 : Nat → Int32) (f106 : Nat → Int32) (f107 : Nat → Int32) (f108 : Nat → Int32) (f109 : Nat → Int32) (f110 : Nat → Int32) (f111 : Nat → Int32) (f100 : Nat → Int32) (f101 : Nat → Int32) (f116 : Nat → Int32) (f0 : Nat → Int32) (nS477 : Nat) (fS477 : Nat → Int32) : Option (Int32 × (Nat → Int32) × (Nat → Int32) × (Nat → Int32) × (Nat → Int32) × (Nat → Int32) × (Nat → Int32) × (Nat → Int32) × (Nat → Int32) × (Nat → Int32) × (Nat → Int32) × (Nat → Int32) × (Nat → Int32) × (Nat → Int32) × (Nat → Int32) × Int32 × Int32 × Int32 × Int32 × Int32 × Int32 × Int32) := (lp_vm_load_10 nf nf v1 v98 v99 v114 v115 v138 f103 f112 f102 f104 f105 f106 f107 f108 f109 f110 f111 f100 f101 f116 f0 nS477 fS477  0 f100 f101 f102 f103 f104 f105 f106 f107 f108 f109 f110 f111 f112 f116 v1 v1 v114 v115 v138 v98 v99)

set_option maxHeartbeats 4000000 in
set_option maxRecDepth 100000 in
/-- ClassMillModel.isByClass -/
theorem tn_isByClass (l : Launch) (dC : Nat → ClassId) (dI : Nat → Nat → Nat) (sz : Nat) (h0 : Nat) (zs : (List Value)) (a1 : Int32) (qf2 : Nat) (qf5 : Nat) (qf6 : Nat) (qf11 : Nat) (qf12 : Nat) (qf14 : Nat) (qf21 : Nat) (qf27 : Nat) (v28 : Int32) (qf29 : Nat) (qf30 : Nat) (qf34 : Nat) (qf48 : Nat) (v50 : Int32) (v52 : Int32) (cf14 : ClassId) (f14 : (Nat → Int32)) (cf11 : ClassId) (f11 : (Nat → Int32)) (cf21 : ClassId) (f21 : (Nat → Int32)) (cf12 : ClassId) (f12 : (Nat → Int32)) (cf48 : ClassId) (f48 : (Nat → Int32)) (cf6 : ClassId) (f6 : (Nat → Int32)) (cf5 : ClassId) (f5 : (Nat → Int32)) (cf2 : ClassId) (f2 : (Nat → Int32)) (cf27 : ClassId) (f27 : (Nat → Int32)) (cf29 : ClassId) (f29 : (Nat → Int32)) (cf30 : ClassId) (f30 : (Nat → Int32)) (cf34 : ClassId) (f34 : (Nat → Int32)) (nf : Nat) (r0 : Int32) (hlen : zs.length = 155) (hf2 : zs[2]? = some (.ref qf2)) (hf5 : zs[5]? = some (.ref qf5)) (hf6 : zs[6]? = some (.ref qf6)) (hf11 : zs[11]? = some (.ref qf11)) (hf12 : zs[12]? = some (.ref qf12)) (hf14 : zs[14]? = some (.ref qf14)) (hf21 : zs[21]? = some (.ref qf21)) (hf27 : zs[27]? = some (.ref qf27)) (hf28 : zs[28]? = some (.int v28)) (hf29 : zs[29]? = some (.ref qf29)) (hf30 : zs[30]? = some (.ref qf30)) (hf34 : zs[34]? = some (.ref qf34)) (hf48 : zs[48]? = some (.ref qf48)) (hf50 : zs[50]? = some (.int v50)) (hf52 : zs[52]? = some (.int v52)) (hsp : sp_tn_isByClass nf a1 v28 v50 v52 f14 f11 f21 f12 f48 f6 f5 f2 f27 f29 f30 f34 = some r0) : Met l yX13_isByClass (.code yX13_isByClass cX13_isByClass 3 (some .boolean) :: VS_h6) ({ frames := 2, cells := 0, slots := 0, locals := 49 }) (va_Pc [.ref h0, .int a1] (fun U => U.heap.size = sz ∧ va_P (dC, dI) vwCl [(h0, .inr (13, zs)), (qf14, .inl (cf14, 9000, .inl f14)), (qf11, .inl (cf11, 9000, .inl f11)), (qf21, .inl (cf21, 9000, .inl f21)), (qf12, .inl (cf12, 9000, .inl f12)), (qf48, .inl (cf48, 3000, .inl f48)), (qf6, .inl (cf6, 3002, .inl f6)), (qf5, .inl (cf5, 3002, .inl f5)), (qf2, .inl (cf2, 3000, .inl f2)), (qf27, .inl (cf27, 400, .inl f27)), (qf29, .inl (cf29, 800, .inl f29)), (qf30, .inl (cf30, 800, .inl f30)), (qf34, .inl (cf34, 800, .inl f34))] U.heap ∧ va_K (dC, dI) vwCl [(cf14, .int), (cf11, .int), (cf21, .boolean), (cf12, .int), (cf48, .int), (cf6, .int), (cf5, .int), (cf2, .int), (cf27, .int), (cf29, .int), (cf30, .int), (cf34, .int)] U ∧ va_D (fun _ => True) [(h0, .inr (13, zs)), (qf14, .inl (cf14, 9000, .inl f14)), (qf11, .inl (cf11, 9000, .inl f11)), (qf21, .inl (cf21, 9000, .inl f21)), (qf12, .inl (cf12, 9000, .inl f12)), (qf48, .inl (cf48, 3000, .inl f48)), (qf6, .inl (cf6, 3002, .inl f6)), (qf5, .inl (cf5, 3002, .inl f5)), (qf2, .inl (cf2, 3000, .inl f2)), (qf27, .inl (cf27, 400, .inl f27)), (qf29, .inl (cf29, 800, .inl f29)), (qf30, .inl (cf30, 800, .inl f30)), (qf34, .inl (cf34, 800, .inl f34))])) (va_Qi (fun (r : Int32) (u : (List Value)) => match u with | (zo1) => (r0 = r ∧ (r0 = 0 ∨ r0 = 1)) ∧ zo1.length = 155 ∧ (∀ j : Nat, zo1[j]? = zs[j]?)) (fun (u : (List Value)) (t : State) => match u with | (zo1) => va_P (dC, dI) vwCl [(h0, .inr (13, zo1)), (qf14, .inl (cf14, 9000, .inl f14)), (qf11, .inl (cf11, 9000, .inl f11)), (qf21, .inl (cf21, 9000, .inl f21)), (qf12, .inl (cf12, 9000, .inl f12)), (qf48, .inl (cf48, 3000, .inl f48)), (qf6, .inl (cf6, 3002, .inl f6)), (qf5, .inl (cf5, 3002, .inl f5)), (qf2, .inl (cf2, 3000, .inl f2)), (qf27, .inl (cf27, 400, .inl f27)), (qf29, .inl (cf29, 800, .inl f29)), (qf30, .inl (cf30, 800, .inl f30)), (qf34, .inl (cf34, 800, .inl f34))] t.heap ∧ va_K (dC, dI) vwCl [(cf14, .int), (cf11, .int), (cf21, .boolean), (cf12, .int), (cf48, .int), (cf6, .int), (cf5, .int), (cf2, .int), (cf27, .int), (cf29, .int), (cf30, .int), (cf34, .int)] t ∧ va_D (va_A [(h0, .inr (13, zs)), (qf14, .inl (cf14, 9000, .inl f14)), (qf11, .inl (cf11, 9000, .inl f11)), (qf21, .inl (cf21, 9000, .inl f21)), (qf12, .inl (cf12, 9000, .inl f12)), (qf48, .inl (cf48, 3000, .inl f48)), (qf6, .inl (cf6, 3002, .inl f6)), (qf5, .inl (cf5, 3002, .inl f5)), (qf2, .inl (cf2, 3000, .inl f2)), (qf27, .inl (cf27, 400, .inl f27)), (qf29, .inl (cf29, 800, .inl f29)), (qf30, .inl (cf30, 800, .inl f30)), (qf34, .inl (cf34, 800, .inl f34))] sz) [(h0, .inr (13, zo1)), (qf14, .inl (cf14, 9000, .inl f14)), (qf11, .inl (cf11, 9000, .inl f11)), (qf21, .inl (cf21, 9000, .inl f21)), (qf12, .inl (cf12, 9000, .inl f12)), (qf48, .inl (cf48, 3000, .inl f48)), (qf6, .inl (cf6, 3002, .inl f6)), (qf5, .inl (cf5, 3002, .inl f5)), (qf2, .inl (cf2, 3000, .inl f2)), (qf27, .inl (cf27, 400, .inl f27)), (qf29, .inl (cf29, 800, .inl f29)), (qf30, .inl (cf30, 800, .inl f30)), (qf34, .inl (cf34, 800, .inl f34))]) (va_A [(h0, .inr (13, zs)), (qf14, .inl (cf14, 9000, .inl f14)), (qf11, .inl (cf11, 9000, .inl f11)), (qf21, .inl (cf21, 9000, .inl f21)), (qf12, .inl (cf12, 9000, .inl f12)), (qf48, .inl (cf48, 3000, .inl f48)), (qf6, .inl (cf6, 3002, .inl f6)), (qf5, .inl (cf5, 3002, .inl f5)), (qf2, .inl (cf2, 3000, .inl f2)), (qf27, .inl (cf27, 400, .inl f27)), (qf29, .inl (cf29, 800, .inl f29)), (qf30, .inl (cf30, 800, .inl f30)), (qf34, .inl (cf34, 800, .inl f34))] sz)) 0 0 (va_A [(h0, .inr (13, zs)), (qf14, .inl (cf14, 9000, .inl f14)), (qf11, .inl (cf11, 9000, .inl f11)), (qf21, .inl (cf21, 9000, .inl f21)), (qf12, .inl (cf12, 9000, .inl f12)), (qf48, .inl (cf48, 3000, .inl f48)), (qf6, .inl (cf6, 3002, .inl f6)), (qf5, .inl (cf5, 3002, .inl f5)), (qf2, .inl (cf2, 3000, .inl f2)), (qf27, .inl (cf27, 400, .inl f27)), (qf29, .inl (cf29, 800, .inl f29)), (qf30, .inl (cf30, 800, .inl f30)), (qf34, .inl (cf34, 800, .inl f34))] sz) := by
  refine Met.ofW (cc := cX13_isByClass) (maxL := 3) (ret := (some .boolean)) (by decide) rfl ?_
  intro p e s m args below meth c s₁ B hml hv
  obtain ⟨rfl, hsz, hP, hK, hD0⟩ := hv
  have hx := B.exec
  have hb := B.bytes
  have hr := B.returns
  have hts := atoms_spec (ws := (.code yX13_isByClass cX13_isByClass 3 (some .boolean) :: VS_h6)) B.pre
  replace hts := fun w (h : w ∈ VS_h6) => hts w (List.mem_cons_of_mem _ h)
  have hown : s.vm.findClass RX13 = some m.cls := findClass_of_methodNamed B.named
  have hlocks := B.notSynchronized
  subst hsz
  have hD := hD0.self (sz := s.heap.size)
  generalize hAe : va_A [(h0, .inr (13, zs)), (qf14, .inl (cf14, 9000, .inl f14)), (qf11, .inl (cf11, 9000, .inl f11)), (qf21, .inl (cf21, 9000, .inl f21)), (qf12, .inl (cf12, 9000, .inl f12)), (qf48, .inl (cf48, 3000, .inl f48)), (qf6, .inl (cf6, 3002, .inl f6)), (qf5, .inl (cf5, 3002, .inl f5)), (qf2, .inl (cf2, 3000, .inl f2)), (qf27, .inl (cf27, 400, .inl f27)), (qf29, .inl (cf29, 800, .inl f29)), (qf30, .inl (cf30, 800, .inl f30)), (qf34, .inl (cf34, 800, .inl f34))] s.heap.size = A at hD  ⊢
  have hA : ∀ q : Nat, s.heap.size ≤ q → A q := fun q h => by rw [← hAe]; exact Or.inr h
  have hP : va_P (dC, dI) vwCl [(h0, .inr (13, zs)), (qf14, .inl (cf14, 9000, .inl f14)), (qf11, .inl (cf11, 9000, .inl f11)), (qf21, .inl (cf21, 9000, .inl f21)), (qf12, .inl (cf12, 9000, .inl f12)), (qf48, .inl (cf48, 3000, .inl f48)), (qf6, .inl (cf6, 3002, .inl f6)), (qf5, .inl (cf5, 3002, .inl f5)), (qf2, .inl (cf2, 3000, .inl f2)), (qf27, .inl (cf27, 400, .inl f27)), (qf29, .inl (cf29, 800, .inl f29)), (qf30, .inl (cf30, 800, .inl f30)), (qf34, .inl (cf34, 800, .inl f34))] s.heap := hP
  have hl := lv_entry ([.ref h0, .int a1]) (n := 3) (Nat.le_of_ble_eq_true rfl)
  rw [lg_entry_eq]
  generalize (lg_sl ([.ref h0, .int a1]) ++ List.replicate (3 - (lg_sl ([.ref h0, .int a1])).length) Slot.unset).toArray = ls at hl ⊢
  have hl : lv_has ls 3 [(0, .ref h0), (1, .int a1)] := hl
  obtain ⟨H, hH⟩ : ∃ H : Heap, s.heap = H := ⟨_, rfl⟩
  rw [hH] at hP ⊢
  have hS : va_S A s.heap H [] := by rw [← hH]; exact va_S.rf
  obtain ⟨locs, hlo⟩ : ∃ locs : List Loc, locs = [] := ⟨_, rfl⟩
  rw [← hlo] at hS ⊢
  have hrs0 : ∀ j : Nat, zs[j]? = zs[j]? := fun _  => rfl
  unfold sp_tn_isByClass at hsp
  refine lv_aload_n hx hb dX13_isByClass_0 rfl (lv_at hl 0 rfl) ?_
  refine va_get (D := (dC, dI)) (ci := 13) (v := .ref qf14) (C := RX13) (T := TX13) (N := 155) hx hb hts uV_h6_X13 hown hK hP 0 rfl rfl 14 (by decide) (hts (.fieldLink RX13 37 "ClassMillModel" "one" "[I") mw_h6_53) (fun _ h9 => h9) hf14 dX13_isByClass_1 ?_
  refine lv_iload_n hx hb dX13_isByClass_4 rfl (lv_at hl 1 rfl) ?_
  obtain ⟨hi_1, hsp⟩ := ox_in hsp
  refine va_iald hx hb hK hP 1 0 rfl rfl (i := a1) hi_1 dX13_isByClass_5 ?_
  refine lv_istore_n (lv' := [(2, .int (f14 (a1 : Int32).toNatClampNeg)), (0, .ref h0), (1, .int a1)]) hx hb dX13_isByClass_6 rfl hl (by decide) rfl (fun ls hl => ?_)
  refine lv_aload_n hx hb dX13_isByClass_7 rfl (lv_at hl 1 rfl) ?_
  refine va_get (D := (dC, dI)) (ci := 13) (v := .ref qf11) (C := RX13) (T := TX13) (N := 155) hx hb hts uV_h6_X13 hown hK hP 0 rfl rfl 11 (by decide) (hts (.fieldLink RX13 28 "ClassMillModel" "node" "[I") mw_h6_54) (fun _ h9 => h9) hf11 dX13_isByClass_8 ?_
  refine lv_iload_n hx hb dX13_isByClass_11 rfl (lv_at hl 0 rfl) ?_
  obtain ⟨hi_2, hsp⟩ := ox_in hsp
  refine va_iald hx hb hK hP 2 1 rfl rfl (i := (f14 (a1 : Int32).toNatClampNeg)) hi_2 dX13_isByClass_12 ?_
  refine lv_bipush (v := 25) hx hb dX13_isByClass_13 (by decide) ?_
  refine lv_icmp_ne (tgt := 64) hx hb dX13_isByClass_15 (by decide) (fun c_3 => ?_) (fun c_3 => ?_)
  · rw [if_neg c_3] at hsp
    refine lv_iconst (v := 0) hx hb dX13_isByClass_64 (by decide) ?_
    have hr0 := Option.some.inj hsp
    clear hsp
    subst hr0
    have hP9 := hP.sub (ws' := [(h0, .inr (13, zs)), (qf14, .inl (cf14, 9000, .inl f14)), (qf11, .inl (cf11, 9000, .inl f11)), (qf21, .inl (cf21, 9000, .inl f21)), (qf12, .inl (cf12, 9000, .inl f12)), (qf48, .inl (cf48, 3000, .inl f48)), (qf6, .inl (cf6, 3002, .inl f6)), (qf5, .inl (cf5, 3002, .inl f5)), (qf2, .inl (cf2, 3000, .inl f2)), (qf27, .inl (cf27, 400, .inl f27)), (qf29, .inl (cf29, 800, .inl f29)), (qf30, .inl (cf30, 800, .inl f30)), (qf34, .inl (cf34, 800, .inl f34))]) [0, 1, 2, 3, 4, 5, 6, 7, 8, 9, 10, 11, 12] rfl
    have hD9 := hD.sub (ws' := [(h0, .inr (13, zs)), (qf14, .inl (cf14, 9000, .inl f14)), (qf11, .inl (cf11, 9000, .inl f11)), (qf21, .inl (cf21, 9000, .inl f21)), (qf12, .inl (cf12, 9000, .inl f12)), (qf48, .inl (cf48, 3000, .inl f48)), (qf6, .inl (cf6, 3002, .inl f6)), (qf5, .inl (cf5, 3002, .inl f5)), (qf2, .inl (cf2, 3000, .inl f2)), (qf27, .inl (cf27, 400, .inl f27)), (qf29, .inl (cf29, 800, .inl f29)), (qf30, .inl (cf30, 800, .inl f30)), (qf34, .inl (cf34, 800, .inl f34))]) [0, 1, 2, 3, 4, 5, 6, 7, 8, 9, 10, 11, 12] (by decide) rfl
    have hK9 := hK.sub (tys' := [(cf14, .int), (cf11, .int), (cf21, .boolean), (cf12, .int), (cf48, .int), (cf6, .int), (cf5, .int), (cf2, .int), (cf27, .int), (cf29, .int), (cf30, .int), (cf34, .int)]) [0, 1, 2, 3, 4, 5, 6, 7, 8, 9, 10, 11] rfl
    exact W.zret hx hb hr (by decide) (fun t ht hW => ⟨⟨(0), (zs), rfl, ⟨⟨rfl, Or.inl rfl⟩, hlen, hrs0⟩, by rw [ht]; exact hP9, va_K.moved hW.alike hK9, hD9⟩, hS.F ht⟩) hS.2.2 dX13_isByClass_65
  · rw [if_pos c_3] at hsp
    refine lv_aload_n hx hb dX13_isByClass_18 rfl (lv_at hl 1 rfl) ?_
    refine va_get (D := (dC, dI)) (ci := 13) (v := .ref qf21) (C := RX13) (T := TX13) (N := 155) hx hb hts uV_h6_X13 hown hK hP 0 rfl rfl 21 (by decide) (hts (.fieldLink RX13 58 "ClassMillModel" "inBrackets" "[Z") mw_h6_55) (fun _ h9 => h9) hf21 dX13_isByClass_19 ?_
    refine lv_iload_n hx hb dX13_isByClass_22 rfl (lv_at hl 0 rfl) ?_
    obtain ⟨hi_4, hsp⟩ := ox_in hsp
    refine va_zald hx hb hK hP 3 2 rfl rfl (i := (f14 (a1 : Int32).toNatClampNeg)) hi_4 dX13_isByClass_23 ?_
    refine lv_if_ne (tgt := 64) hx hb dX13_isByClass_24 (by decide) (fun c_5 => ?_) (fun c_5 => ?_)
    · rw [if_neg c_5] at hsp
      refine lv_iconst (v := 0) hx hb dX13_isByClass_64 (by decide) ?_
      have hr0 := Option.some.inj hsp
      clear hsp
      subst hr0
      have hP9 := hP.sub (ws' := [(h0, .inr (13, zs)), (qf14, .inl (cf14, 9000, .inl f14)), (qf11, .inl (cf11, 9000, .inl f11)), (qf21, .inl (cf21, 9000, .inl f21)), (qf12, .inl (cf12, 9000, .inl f12)), (qf48, .inl (cf48, 3000, .inl f48)), (qf6, .inl (cf6, 3002, .inl f6)), (qf5, .inl (cf5, 3002, .inl f5)), (qf2, .inl (cf2, 3000, .inl f2)), (qf27, .inl (cf27, 400, .inl f27)), (qf29, .inl (cf29, 800, .inl f29)), (qf30, .inl (cf30, 800, .inl f30)), (qf34, .inl (cf34, 800, .inl f34))]) [0, 1, 2, 3, 4, 5, 6, 7, 8, 9, 10, 11, 12] rfl
      have hD9 := hD.sub (ws' := [(h0, .inr (13, zs)), (qf14, .inl (cf14, 9000, .inl f14)), (qf11, .inl (cf11, 9000, .inl f11)), (qf21, .inl (cf21, 9000, .inl f21)), (qf12, .inl (cf12, 9000, .inl f12)), (qf48, .inl (cf48, 3000, .inl f48)), (qf6, .inl (cf6, 3002, .inl f6)), (qf5, .inl (cf5, 3002, .inl f5)), (qf2, .inl (cf2, 3000, .inl f2)), (qf27, .inl (cf27, 400, .inl f27)), (qf29, .inl (cf29, 800, .inl f29)), (qf30, .inl (cf30, 800, .inl f30)), (qf34, .inl (cf34, 800, .inl f34))]) [0, 1, 2, 3, 4, 5, 6, 7, 8, 9, 10, 11, 12] (by decide) rfl
      have hK9 := hK.sub (tys' := [(cf14, .int), (cf11, .int), (cf21, .boolean), (cf12, .int), (cf48, .int), (cf6, .int), (cf5, .int), (cf2, .int), (cf27, .int), (cf29, .int), (cf30, .int), (cf34, .int)]) [0, 1, 2, 3, 4, 5, 6, 7, 8, 9, 10, 11] rfl
      exact W.zret hx hb hr (by decide) (fun t ht hW => ⟨⟨(0), (zs), rfl, ⟨⟨rfl, Or.inl rfl⟩, hlen, hrs0⟩, by rw [ht]; exact hP9, va_K.moved hW.alike hK9, hD9⟩, hS.F ht⟩) hS.2.2 dX13_isByClass_65
    · rw [if_pos c_5] at hsp
      refine lv_aload_n hx hb dX13_isByClass_27 rfl (lv_at hl 1 rfl) ?_
      refine lv_aload_n hx hb dX13_isByClass_28 rfl (lv_at hl 1 rfl) ?_
      refine va_get (D := (dC, dI)) (ci := 13) (v := .ref qf12) (C := RX13) (T := TX13) (N := 155) hx hb hts uV_h6_X13 hown hK hP 0 rfl rfl 12 (by decide) (hts (.fieldLink RX13 31 "ClassMillModel" "tok" "[I") mw_h6_56) (fun _ h9 => h9) hf12 dX13_isByClass_29 ?_
      refine lv_iload_n hx hb dX13_isByClass_32 rfl (lv_at hl 0 rfl) ?_
      obtain ⟨hi_6, hsp⟩ := ox_in hsp
      refine va_iald hx hb hK hP 4 3 rfl rfl (i := (f14 (a1 : Int32).toNatClampNeg)) hi_6 dX13_isByClass_33 ?_
      obtain ⟨u1_0, hu_1, hsp⟩ := ox_bind hsp
      try dsimp only at hsp
      have hPc := hP.sub (ws' := [(h0, .inr (13, zs)), (qf48, .inl (cf48, 3000, .inl f48)), (qf6, .inl (cf6, 3002, .inl f6)), (qf5, .inl (cf5, 3002, .inl f5)), (qf2, .inl (cf2, 3000, .inl f2))]) [0, 5, 6, 7, 8] rfl
      have hDc := hD.sub (ws' := [(h0, .inr (13, zs)), (qf48, .inl (cf48, 3000, .inl f48)), (qf6, .inl (cf6, 3002, .inl f6)), (qf5, .inl (cf5, 3002, .inl f5)), (qf2, .inl (cf2, 3000, .inl f2))]) [0, 5, 6, 7, 8] (by decide) rfl
      have hKc := hK.sub (tys' := [(cf48, .int), (cf6, .int), (cf5, .int), (cf2, .int)]) [4, 5, 6, 7] rfl
      have hFc := va_free (wc := [(h0, .inr (13, zs)), (qf48, .inl (cf48, 3000, .inl f48)), (qf6, .inl (cf6, 3002, .inl f6)), (qf5, .inl (cf5, 3002, .inl f5)), (qf2, .inl (cf2, 3000, .inl f2))]) hD hS hA [0, 5, 6, 7, 8] rfl
      refine va_calli (va_runV (As := [.int (f12 ((f14 (a1 : Int32).toNatClampNeg) : Int32).toNatClampNeg)]) (rest := []) ⟨hx, hb, hml, hown, hts⟩ (tn_sightOf l dC dI H.size h0 zs ((f12 ((f14 (a1 : Int32).toNatClampNeg) : Int32).toNatClampNeg)) qf2 qf5 qf6 qf48 v50 cf48 f48 cf6 f6 cf5 f5 cf2 f2 nf u1_0 hlen hf2 hf5 hf6 hf48 hf50 hu_1) (cwV 1 hts gv_h6_8 rfl rfl rfl (by decide +kernel) ⟨Nat.le_of_ble_eq_true rfl, Nat.le_of_ble_eq_true rfl⟩) ⟨fun a U g mk q => by obtain ⟨q0, q1, qP, qK, qD⟩ := q; exact ⟨q0, q1, qP, va_K.moved (u := U) (U := U.calling g mk a) (Vm.Alike.refl U.vm) qK, qD⟩, va_recv hKc hPc (ci := 13) (q0 := 0) rfl rfl, fun U hU hW => ⟨rfl, by rw [hU], by rw [hU]; exact hPc, va_K.moved hW.alike hKc, hDc.weaken (fun _ _ _ _ => trivial)⟩⟩ rfl rfl hl.1 rfl (lv_room (Nat.le_of_ble_eq_true rfl)) dX13_isByClass_34 ⟨Nat.le_of_ble_eq_true rfl, Nat.le_of_ble_eq_true rfl⟩) hS (fun q _ h => hFc q h) hFc ?_
      clear hS
      intro r_7 u t H1 locs ht hvm hw hB hz1 hk1 hS
      obtain ⟨z_1, rfl⟩ : ∃ z, z = u := ⟨_, rfl⟩
      obtain ⟨hP1, hK1, hD1⟩ := hB
      rw [ht] at hP1
      have hK1 := va_K.moved hvm.symm hK1
      try dsimp only at hw
      have hPD := va_join (wr := [(qf14, .inl (cf14, 9000, .inl f14)), (qf11, .inl (cf11, 9000, .inl f11)), (qf21, .inl (cf21, 9000, .inl f21)), (qf12, .inl (cf12, 9000, .inl f12)), (qf27, .inl (cf27, 400, .inl f27)), (qf29, .inl (cf29, 800, .inl f29)), (qf30, .inl (cf30, 800, .inl f30)), (qf34, .inl (cf34, 800, .inl f34))]) (w1 := [(h0, .inr (13, z_1)), (qf48, .inl (cf48, 3000, .inl f48)), (qf6, .inl (cf6, 3002, .inl f6)), (qf5, .inl (cf5, 3002, .inl f5)), (qf2, .inl (cf2, 3000, .inl f2))]) hP hD [0, 5, 6, 7, 8] [1, 2, 3, 4, 9, 10, 11, 12] rfl rfl (by decide) (by decide) hk1 hFc hP1 hD1
      clear hP hD
      obtain ⟨hP, hD⟩ := hPD
      replace hK := (hK.sub (tys' := [(cf14, .int), (cf11, .int), (cf21, .boolean), (cf12, .int), (cf27, .int), (cf29, .int), (cf30, .int), (cf34, .int)]) [0, 1, 2, 3, 8, 9, 10, 11] rfl).app hK1
      clear hPc hDc hKc hFc hP1 hK1 hD1 hz1 hk1 ht hvm
      generalize H1 = H at hP hS ⊢
      replace hP : va_P (dC, dI) vwCl [(qf14, .inl (cf14, 9000, .inl f14)), (qf11, .inl (cf11, 9000, .inl f11)), (qf21, .inl (cf21, 9000, .inl f21)), (qf12, .inl (cf12, 9000, .inl f12)), (qf27, .inl (cf27, 400, .inl f27)), (qf29, .inl (cf29, 800, .inl f29)), (qf30, .inl (cf30, 800, .inl f30)), (qf34, .inl (cf34, 800, .inl f34)), (h0, .inr (13, z_1)), (qf48, .inl (cf48, 3000, .inl f48)), (qf6, .inl (cf6, 3002, .inl f6)), (qf5, .inl (cf5, 3002, .inl f5)), (qf2, .inl (cf2, 3000, .inl f2))] H := hP
      replace hD : va_D A [(qf14, .inl (cf14, 9000, .inl f14)), (qf11, .inl (cf11, 9000, .inl f11)), (qf21, .inl (cf21, 9000, .inl f21)), (qf12, .inl (cf12, 9000, .inl f12)), (qf27, .inl (cf27, 400, .inl f27)), (qf29, .inl (cf29, 800, .inl f29)), (qf30, .inl (cf30, 800, .inl f30)), (qf34, .inl (cf34, 800, .inl f34)), (h0, .inr (13, z_1)), (qf48, .inl (cf48, 3000, .inl f48)), (qf6, .inl (cf6, 3002, .inl f6)), (qf5, .inl (cf5, 3002, .inl f5)), (qf2, .inl (cf2, 3000, .inl f2))] := hD
      replace hK : va_K (dC, dI) vwCl [(cf14, .int), (cf11, .int), (cf21, .boolean), (cf12, .int), (cf27, .int), (cf29, .int), (cf30, .int), (cf34, .int), (cf48, .int), (cf6, .int), (cf5, .int), (cf2, .int)] s := hK
      obtain ⟨hwa_1, hln_1, hre_1⟩ := hw
      have hfk_1_2 : z_1[2]? = some (.ref qf2) := (hre_1 2 ).trans (hf2)
      have hfk_1_5 : z_1[5]? = some (.ref qf5) := (hre_1 5 ).trans (hf5)
      have hfk_1_6 : z_1[6]? = some (.ref qf6) := (hre_1 6 ).trans (hf6)
      have hfk_1_11 : z_1[11]? = some (.ref qf11) := (hre_1 11 ).trans (hf11)
      have hfk_1_12 : z_1[12]? = some (.ref qf12) := (hre_1 12 ).trans (hf12)
      have hfk_1_14 : z_1[14]? = some (.ref qf14) := (hre_1 14 ).trans (hf14)
      have hfk_1_21 : z_1[21]? = some (.ref qf21) := (hre_1 21 ).trans (hf21)
      have hfk_1_27 : z_1[27]? = some (.ref qf27) := (hre_1 27 ).trans (hf27)
      have hfk_1_28 : z_1[28]? = some (.int v28) := (hre_1 28 ).trans (hf28)
      have hfk_1_29 : z_1[29]? = some (.ref qf29) := (hre_1 29 ).trans (hf29)
      have hfk_1_30 : z_1[30]? = some (.ref qf30) := (hre_1 30 ).trans (hf30)
      have hfk_1_34 : z_1[34]? = some (.ref qf34) := (hre_1 34 ).trans (hf34)
      have hfk_1_48 : z_1[48]? = some (.ref qf48) := (hre_1 48 ).trans (hf48)
      have hfk_1_50 : z_1[50]? = some (.int v50) := (hre_1 50 ).trans (hf50)
      have hfk_1_52 : z_1[52]? = some (.int v52) := (hre_1 52 ).trans (hf52)
      have hrq_1 : ∀ j : Nat, z_1[j]? = zs[j]? := fun j  => (hre_1 j ).trans (hrs0 j )
      obtain rfl := hwa_1
      refine lv_iconst (v := (-1)) hx hb dX13_isByClass_37 (by decide) ?_
      refine lv_icmp_ne (tgt := 64) hx hb dX13_isByClass_38 (by decide) (fun c_8 => ?_) (fun c_8 => ?_)
      · rw [if_neg c_8] at hsp
        refine lv_iconst (v := 0) hx hb dX13_isByClass_64 (by decide) ?_
        have hr0 := Option.some.inj hsp
        clear hsp
        subst hr0
        have hP9 := hP.sub (ws' := [(h0, .inr (13, z_1)), (qf14, .inl (cf14, 9000, .inl f14)), (qf11, .inl (cf11, 9000, .inl f11)), (qf21, .inl (cf21, 9000, .inl f21)), (qf12, .inl (cf12, 9000, .inl f12)), (qf48, .inl (cf48, 3000, .inl f48)), (qf6, .inl (cf6, 3002, .inl f6)), (qf5, .inl (cf5, 3002, .inl f5)), (qf2, .inl (cf2, 3000, .inl f2)), (qf27, .inl (cf27, 400, .inl f27)), (qf29, .inl (cf29, 800, .inl f29)), (qf30, .inl (cf30, 800, .inl f30)), (qf34, .inl (cf34, 800, .inl f34))]) [8, 0, 1, 2, 3, 9, 10, 11, 12, 4, 5, 6, 7] rfl
        have hD9 := hD.sub (ws' := [(h0, .inr (13, z_1)), (qf14, .inl (cf14, 9000, .inl f14)), (qf11, .inl (cf11, 9000, .inl f11)), (qf21, .inl (cf21, 9000, .inl f21)), (qf12, .inl (cf12, 9000, .inl f12)), (qf48, .inl (cf48, 3000, .inl f48)), (qf6, .inl (cf6, 3002, .inl f6)), (qf5, .inl (cf5, 3002, .inl f5)), (qf2, .inl (cf2, 3000, .inl f2)), (qf27, .inl (cf27, 400, .inl f27)), (qf29, .inl (cf29, 800, .inl f29)), (qf30, .inl (cf30, 800, .inl f30)), (qf34, .inl (cf34, 800, .inl f34))]) [8, 0, 1, 2, 3, 9, 10, 11, 12, 4, 5, 6, 7] (by decide) rfl
        have hK9 := hK.sub (tys' := [(cf14, .int), (cf11, .int), (cf21, .boolean), (cf12, .int), (cf48, .int), (cf6, .int), (cf5, .int), (cf2, .int), (cf27, .int), (cf29, .int), (cf30, .int), (cf34, .int)]) [0, 1, 2, 3, 8, 9, 10, 11, 4, 5, 6, 7] rfl
        exact W.zret hx hb hr (by decide) (fun t ht hW => ⟨⟨(0), (z_1), rfl, ⟨⟨rfl, Or.inl rfl⟩, hln_1, hrq_1⟩, by rw [ht]; exact hP9, va_K.moved hW.alike hK9, hD9⟩, hS.F ht⟩) hS.2.2 dX13_isByClass_65
      · rw [if_pos c_8] at hsp
        refine lv_aload_n hx hb dX13_isByClass_41 rfl (lv_at hl 1 rfl) ?_
        refine lv_aload_n hx hb dX13_isByClass_42 rfl (lv_at hl 1 rfl) ?_
        refine va_get (D := (dC, dI)) (ci := 13) (v := .int v52) (C := RX13) (T := TX13) (N := 155) hx hb hts uV_h6_X13 hown hK hP 8 rfl rfl 52 (by decide) (hts (.fieldLink RX13 519 "ClassMillModel" "owner" "I") mw_h6_57) (fun _ h9 => h9) hfk_1_52 dX13_isByClass_43 ?_
        refine lv_aload_n hx hb dX13_isByClass_46 rfl (lv_at hl 1 rfl) ?_
        refine va_get (D := (dC, dI)) (ci := 13) (v := .ref qf12) (C := RX13) (T := TX13) (N := 155) hx hb hts uV_h6_X13 hown hK hP 8 rfl rfl 12 (by decide) (hts (.fieldLink RX13 31 "ClassMillModel" "tok" "[I") mw_h6_56) (fun _ h9 => h9) hfk_1_12 dX13_isByClass_47 ?_
        refine lv_iload_n hx hb dX13_isByClass_50 rfl (lv_at hl 0 rfl) ?_
        obtain ⟨hi_9, hsp⟩ := ox_in hsp
        refine va_iald hx hb hK hP 3 3 rfl rfl (i := (f14 (a1 : Int32).toNatClampNeg)) hi_9 dX13_isByClass_51 ?_
        refine lv_iconst (v := 0) hx hb dX13_isByClass_52 (by decide) ?_
        obtain ⟨u2_0, hu_2, hsp⟩ := ox_bind hsp
        try dsimp only at hsp
        have hPc := hP.sub (ws' := [(h0, .inr (13, z_1)), (qf27, .inl (cf27, 400, .inl f27)), (qf29, .inl (cf29, 800, .inl f29)), (qf30, .inl (cf30, 800, .inl f30)), (qf34, .inl (cf34, 800, .inl f34)), (qf6, .inl (cf6, 3002, .inl f6)), (qf5, .inl (cf5, 3002, .inl f5)), (qf2, .inl (cf2, 3000, .inl f2))]) [8, 4, 5, 6, 7, 10, 11, 12] rfl
        have hDc := hD.sub (ws' := [(h0, .inr (13, z_1)), (qf27, .inl (cf27, 400, .inl f27)), (qf29, .inl (cf29, 800, .inl f29)), (qf30, .inl (cf30, 800, .inl f30)), (qf34, .inl (cf34, 800, .inl f34)), (qf6, .inl (cf6, 3002, .inl f6)), (qf5, .inl (cf5, 3002, .inl f5)), (qf2, .inl (cf2, 3000, .inl f2))]) [8, 4, 5, 6, 7, 10, 11, 12] (by decide) rfl
        have hKc := hK.sub (tys' := [(cf27, .int), (cf29, .int), (cf30, .int), (cf34, .int), (cf6, .int), (cf5, .int), (cf2, .int)]) [4, 5, 6, 7, 9, 10, 11] rfl
        have hFc := va_free (wc := [(h0, .inr (13, z_1)), (qf27, .inl (cf27, 400, .inl f27)), (qf29, .inl (cf29, 800, .inl f29)), (qf30, .inl (cf30, 800, .inl f30)), (qf34, .inl (cf34, 800, .inl f34)), (qf6, .inl (cf6, 3002, .inl f6)), (qf5, .inl (cf5, 3002, .inl f5)), (qf2, .inl (cf2, 3000, .inl f2))]) hD hS hA [8, 4, 5, 6, 7, 10, 11, 12] rfl
        refine va_calli (va_runV (As := [.int v52, .int (f12 ((f14 (a1 : Int32).toNatClampNeg) : Int32).toNatClampNeg), .int 0]) (rest := []) ⟨hx, hb, hml, hown, hts⟩ (tn_memberOf l dC dI H.size h0 z_1 v52 ((f12 ((f14 (a1 : Int32).toNatClampNeg) : Int32).toNatClampNeg)) 0 qf2 qf5 qf6 qf27 v28 qf29 qf30 qf34 cf27 f27 cf29 f29 cf30 f30 cf34 f34 cf6 f6 cf5 f5 cf2 f2 nf u2_0 hln_1 hfk_1_2 hfk_1_5 hfk_1_6 hfk_1_27 hfk_1_28 hfk_1_29 hfk_1_30 hfk_1_34 hu_2) (cwV 3 hts gv_h6_9 rfl rfl rfl (by decide +kernel) ⟨Nat.le_of_ble_eq_true rfl, Nat.le_of_ble_eq_true rfl⟩) ⟨fun a U g mk q => by obtain ⟨q0, q1, qP, qK, qD⟩ := q; exact ⟨q0, q1, qP, va_K.moved (u := U) (U := U.calling g mk a) (Vm.Alike.refl U.vm) qK, qD⟩, va_recv hKc hPc (ci := 13) (q0 := 0) rfl rfl, fun U hU hW => ⟨rfl, by rw [hU], by rw [hU]; exact hPc, va_K.moved hW.alike hKc, hDc.weaken (fun _ _ _ _ => trivial)⟩⟩ rfl rfl hl.1 rfl (lv_room (Nat.le_of_ble_eq_true rfl)) dX13_isByClass_53 ⟨Nat.le_of_ble_eq_true rfl, Nat.le_of_ble_eq_true rfl⟩) hS (fun q _ h => hFc q h) hFc ?_
        clear hS
        intro r_10 u t H1 locs ht hvm hw hB hz1 hk1 hS
        obtain ⟨z_2, rfl⟩ : ∃ z, z = u := ⟨_, rfl⟩
        obtain ⟨hP1, hK1, hD1⟩ := hB
        rw [ht] at hP1
        have hK1 := va_K.moved hvm.symm hK1
        try dsimp only at hw
        have hPD := va_join (wr := [(qf14, .inl (cf14, 9000, .inl f14)), (qf11, .inl (cf11, 9000, .inl f11)), (qf21, .inl (cf21, 9000, .inl f21)), (qf12, .inl (cf12, 9000, .inl f12)), (qf48, .inl (cf48, 3000, .inl f48))]) (w1 := [(h0, .inr (13, z_2)), (qf27, .inl (cf27, 400, .inl f27)), (qf29, .inl (cf29, 800, .inl f29)), (qf30, .inl (cf30, 800, .inl f30)), (qf34, .inl (cf34, 800, .inl f34)), (qf6, .inl (cf6, 3002, .inl f6)), (qf5, .inl (cf5, 3002, .inl f5)), (qf2, .inl (cf2, 3000, .inl f2))]) hP hD [8, 4, 5, 6, 7, 10, 11, 12] [0, 1, 2, 3, 9] rfl rfl (by decide) (by decide) hk1 hFc hP1 hD1
        clear hP hD
        obtain ⟨hP, hD⟩ := hPD
        replace hK := (hK.sub (tys' := [(cf14, .int), (cf11, .int), (cf21, .boolean), (cf12, .int), (cf48, .int)]) [0, 1, 2, 3, 8] rfl).app hK1
        clear hPc hDc hKc hFc hP1 hK1 hD1 hz1 hk1 ht hvm
        generalize H1 = H at hP hS ⊢
        replace hP : va_P (dC, dI) vwCl [(qf14, .inl (cf14, 9000, .inl f14)), (qf11, .inl (cf11, 9000, .inl f11)), (qf21, .inl (cf21, 9000, .inl f21)), (qf12, .inl (cf12, 9000, .inl f12)), (qf48, .inl (cf48, 3000, .inl f48)), (h0, .inr (13, z_2)), (qf27, .inl (cf27, 400, .inl f27)), (qf29, .inl (cf29, 800, .inl f29)), (qf30, .inl (cf30, 800, .inl f30)), (qf34, .inl (cf34, 800, .inl f34)), (qf6, .inl (cf6, 3002, .inl f6)), (qf5, .inl (cf5, 3002, .inl f5)), (qf2, .inl (cf2, 3000, .inl f2))] H := hP
        replace hD : va_D A [(qf14, .inl (cf14, 9000, .inl f14)), (qf11, .inl (cf11, 9000, .inl f11)), (qf21, .inl (cf21, 9000, .inl f21)), (qf12, .inl (cf12, 9000, .inl f12)), (qf48, .inl (cf48, 3000, .inl f48)), (h0, .inr (13, z_2)), (qf27, .inl (cf27, 400, .inl f27)), (qf29, .inl (cf29, 800, .inl f29)), (qf30, .inl (cf30, 800, .inl f30)), (qf34, .inl (cf34, 800, .inl f34)), (qf6, .inl (cf6, 3002, .inl f6)), (qf5, .inl (cf5, 3002, .inl f5)), (qf2, .inl (cf2, 3000, .inl f2))] := hD
        replace hK : va_K (dC, dI) vwCl [(cf14, .int), (cf11, .int), (cf21, .boolean), (cf12, .int), (cf48, .int), (cf27, .int), (cf29, .int), (cf30, .int), (cf34, .int), (cf6, .int), (cf5, .int), (cf2, .int)] s := hK
        obtain ⟨hwa_2, hln_2, hre_2⟩ := hw
        have hfk_2_2 : z_2[2]? = some (.ref qf2) := (hre_2 2 ).trans (hfk_1_2)
        have hfk_2_5 : z_2[5]? = some (.ref qf5) := (hre_2 5 ).trans (hfk_1_5)
        have hfk_2_6 : z_2[6]? = some (.ref qf6) := (hre_2 6 ).trans (hfk_1_6)
        have hfk_2_11 : z_2[11]? = some (.ref qf11) := (hre_2 11 ).trans (hfk_1_11)
        have hfk_2_12 : z_2[12]? = some (.ref qf12) := (hre_2 12 ).trans (hfk_1_12)
        have hfk_2_14 : z_2[14]? = some (.ref qf14) := (hre_2 14 ).trans (hfk_1_14)
        have hfk_2_21 : z_2[21]? = some (.ref qf21) := (hre_2 21 ).trans (hfk_1_21)
        have hfk_2_27 : z_2[27]? = some (.ref qf27) := (hre_2 27 ).trans (hfk_1_27)
        have hfk_2_28 : z_2[28]? = some (.int v28) := (hre_2 28 ).trans (hfk_1_28)
        have hfk_2_29 : z_2[29]? = some (.ref qf29) := (hre_2 29 ).trans (hfk_1_29)
        have hfk_2_30 : z_2[30]? = some (.ref qf30) := (hre_2 30 ).trans (hfk_1_30)
        have hfk_2_34 : z_2[34]? = some (.ref qf34) := (hre_2 34 ).trans (hfk_1_34)
        have hfk_2_48 : z_2[48]? = some (.ref qf48) := (hre_2 48 ).trans (hfk_1_48)
        have hfk_2_50 : z_2[50]? = some (.int v50) := (hre_2 50 ).trans (hfk_1_50)
        have hfk_2_52 : z_2[52]? = some (.int v52) := (hre_2 52 ).trans (hfk_1_52)
        have hrq_2 : ∀ j : Nat, z_2[j]? = zs[j]? := fun j  => (hre_2 j ).trans (hrq_1 j )
        obtain rfl := hwa_2
        refine lv_iconst (v := (-1)) hx hb dX13_isByClass_56 (by decide) ?_
        refine lv_icmp_ne (tgt := 64) hx hb dX13_isByClass_57 (by decide) (fun c_11 => ?_) (fun c_11 => ?_)
        · rw [if_neg c_11] at hsp
          refine lv_iconst (v := 0) hx hb dX13_isByClass_64 (by decide) ?_
          have hr0 := Option.some.inj hsp
          clear hsp
          subst hr0
          have hP9 := hP.sub (ws' := [(h0, .inr (13, z_2)), (qf14, .inl (cf14, 9000, .inl f14)), (qf11, .inl (cf11, 9000, .inl f11)), (qf21, .inl (cf21, 9000, .inl f21)), (qf12, .inl (cf12, 9000, .inl f12)), (qf48, .inl (cf48, 3000, .inl f48)), (qf6, .inl (cf6, 3002, .inl f6)), (qf5, .inl (cf5, 3002, .inl f5)), (qf2, .inl (cf2, 3000, .inl f2)), (qf27, .inl (cf27, 400, .inl f27)), (qf29, .inl (cf29, 800, .inl f29)), (qf30, .inl (cf30, 800, .inl f30)), (qf34, .inl (cf34, 800, .inl f34))]) [5, 0, 1, 2, 3, 4, 10, 11, 12, 6, 7, 8, 9] rfl
          have hD9 := hD.sub (ws' := [(h0, .inr (13, z_2)), (qf14, .inl (cf14, 9000, .inl f14)), (qf11, .inl (cf11, 9000, .inl f11)), (qf21, .inl (cf21, 9000, .inl f21)), (qf12, .inl (cf12, 9000, .inl f12)), (qf48, .inl (cf48, 3000, .inl f48)), (qf6, .inl (cf6, 3002, .inl f6)), (qf5, .inl (cf5, 3002, .inl f5)), (qf2, .inl (cf2, 3000, .inl f2)), (qf27, .inl (cf27, 400, .inl f27)), (qf29, .inl (cf29, 800, .inl f29)), (qf30, .inl (cf30, 800, .inl f30)), (qf34, .inl (cf34, 800, .inl f34))]) [5, 0, 1, 2, 3, 4, 10, 11, 12, 6, 7, 8, 9] (by decide) rfl
          have hK9 := hK.sub (tys' := [(cf14, .int), (cf11, .int), (cf21, .boolean), (cf12, .int), (cf48, .int), (cf6, .int), (cf5, .int), (cf2, .int), (cf27, .int), (cf29, .int), (cf30, .int), (cf34, .int)]) [0, 1, 2, 3, 4, 9, 10, 11, 5, 6, 7, 8] rfl
          exact W.zret hx hb hr (by decide) (fun t ht hW => ⟨⟨(0), (z_2), rfl, ⟨⟨rfl, Or.inl rfl⟩, hln_2, hrq_2⟩, by rw [ht]; exact hP9, va_K.moved hW.alike hK9, hD9⟩, hS.F ht⟩) hS.2.2 dX13_isByClass_65
        · rw [if_pos c_11] at hsp
          refine lv_iconst (v := 1) hx hb dX13_isByClass_60 (by decide) ?_
          refine lv_goto (tgt := 65) hx hb dX13_isByClass_61 (by decide) ?_
          have hr0 := Option.some.inj hsp
          clear hsp
          subst hr0
          have hP9 := hP.sub (ws' := [(h0, .inr (13, z_2)), (qf14, .inl (cf14, 9000, .inl f14)), (qf11, .inl (cf11, 9000, .inl f11)), (qf21, .inl (cf21, 9000, .inl f21)), (qf12, .inl (cf12, 9000, .inl f12)), (qf48, .inl (cf48, 3000, .inl f48)), (qf6, .inl (cf6, 3002, .inl f6)), (qf5, .inl (cf5, 3002, .inl f5)), (qf2, .inl (cf2, 3000, .inl f2)), (qf27, .inl (cf27, 400, .inl f27)), (qf29, .inl (cf29, 800, .inl f29)), (qf30, .inl (cf30, 800, .inl f30)), (qf34, .inl (cf34, 800, .inl f34))]) [5, 0, 1, 2, 3, 4, 10, 11, 12, 6, 7, 8, 9] rfl
          have hD9 := hD.sub (ws' := [(h0, .inr (13, z_2)), (qf14, .inl (cf14, 9000, .inl f14)), (qf11, .inl (cf11, 9000, .inl f11)), (qf21, .inl (cf21, 9000, .inl f21)), (qf12, .inl (cf12, 9000, .inl f12)), (qf48, .inl (cf48, 3000, .inl f48)), (qf6, .inl (cf6, 3002, .inl f6)), (qf5, .inl (cf5, 3002, .inl f5)), (qf2, .inl (cf2, 3000, .inl f2)), (qf27, .inl (cf27, 400, .inl f27)), (qf29, .inl (cf29, 800, .inl f29)), (qf30, .inl (cf30, 800, .inl f30)), (qf34, .inl (cf34, 800, .inl f34))]) [5, 0, 1, 2, 3, 4, 10, 11, 12, 6, 7, 8, 9] (by decide) rfl
          have hK9 := hK.sub (tys' := [(cf14, .int), (cf11, .int), (cf21, .boolean), (cf12, .int), (cf48, .int), (cf6, .int), (cf5, .int), (cf2, .int), (cf27, .int), (cf29, .int), (cf30, .int), (cf34, .int)]) [0, 1, 2, 3, 4, 9, 10, 11, 5, 6, 7, 8] rfl
          exact W.zret hx hb hr (by decide) (fun t ht hW => ⟨⟨(1), (z_2), rfl, ⟨⟨rfl, Or.inr rfl⟩, hln_2, hrq_2⟩, by rw [ht]; exact hP9, va_K.moved hW.alike hK9, hD9⟩, hS.F ht⟩) hS.2.2 dX13_isByClass_65
def lp_tn_spellToken_2 (nf n : Nat) (a1 : Int32) (v66 : Int32) (f6 : Nat → Int32) (f5 : Nat → Int32) (f2 : Nat → Int32) (f65 : Nat → Int32)  (l1_2 : Int32) (l2_2 : Int32) (g65_2 : Nat → Int32) (x66_2 : Int32) : Option ((Nat → Int32) × Int32) := match n with
  | 0 => none
  | n + 1 => (if l1_2 < 0 then none else if 3002 ≤ (l1_2 : Int32).toNatClampNeg then none else (if (f6 (l1_2 : Int32).toNatClampNeg) ≤ l2_2 then (some (g65_2, x66_2)) else (if l1_2 < 0 then none else if 3002 ≤ (l1_2 : Int32).toNatClampNeg then none else (if ((f5 (l1_2 : Int32).toNatClampNeg) + l2_2) < 0 then none else if 3000 ≤ (((f5 (l1_2 : Int32).toNatClampNeg) + l2_2) : Int32).toNatClampNeg then none else ((sp_tm_spell nf (f2 (((f5 (l1_2 : Int32).toNatClampNeg) + l2_2) : Int32).toNatClampNeg) x66_2 g65_2).bind (fun p1 => (lp_tn_spellToken_2 nf n a1 v66 f6 f5 f2 f65 l1_2 (l2_2 + 1) p1.1 p1.2)))))))
def sp_tn_spellToken (nf : Nat) (a1 : Int32) (v66 : Int32) (f6 : Nat → Int32) (f5 : Nat → Int32) (f2 : Nat → Int32) (f65 : Nat → Int32) : Option ((Nat → Int32) × Int32) := (lp_tn_spellToken_2 nf nf a1 v66 f6 f5 f2 f65 a1 0 f65 v66)
set_option maxHeartbeats 4000000 in
set_option maxRecDepth 100000 in
/-- ClassMillModel.spellToken -/
theorem tn_spellToken (l : Launch) (dC : Nat → ClassId) (dI : Nat → Nat → Nat) (sz : Nat) (h0 : Nat) (zs : (List Value)) (a1 : Int32) (qf2 : Nat) (qf5 : Nat) (qf6 : Nat) (qf65 : Nat) (v66 : Int32) (cf6 : ClassId) (f6 : (Nat → Int32)) (cf5 : ClassId) (f5 : (Nat → Int32)) (cf2 : ClassId) (f2 : (Nat → Int32)) (cf65 : ClassId) (f65 : (Nat → Int32)) (nf : Nat) (o65 : (Nat → Int32)) (w66 : Int32) (hlen : zs.length = 155) (hf2 : zs[2]? = some (.ref qf2)) (hf5 : zs[5]? = some (.ref qf5)) (hf6 : zs[6]? = some (.ref qf6)) (hf65 : zs[65]? = some (.ref qf65)) (hf66 : zs[66]? = some (.int v66)) (hsp : sp_tn_spellToken nf a1 v66 f6 f5 f2 f65 = some (o65, w66)) : Met l yX13_spellToken (.code yX13_spellToken cX13_spellToken 3 none :: VS_h6) ({ frames := 1, cells := 0, slots := 0, locals := 21 }) (va_Pc [.ref h0, .int a1] (fun U => U.heap.size = sz ∧ va_P (dC, dI) vwCl [(h0, .inr (13, zs)), (qf6, .inl (cf6, 3002, .inl f6)), (qf5, .inl (cf5, 3002, .inl f5)), (qf2, .inl (cf2, 3000, .inl f2)), (qf65, .inl (cf65, 200, .inl f65))] U.heap ∧ va_K (dC, dI) vwCl [(cf6, .int), (cf5, .int), (cf2, .int), (cf65, .int)] U ∧ va_D (fun _ => True) [(h0, .inr (13, zs)), (qf6, .inl (cf6, 3002, .inl f6)), (qf5, .inl (cf5, 3002, .inl f5)), (qf2, .inl (cf2, 3000, .inl f2)), (qf65, .inl (cf65, 200, .inl f65))])) (va_Qv (fun (u : (List Value)) => match u with | (zo1) => True ∧ zo1.length = 155 ∧ (∀ j : Nat, j ≠ 66 → zo1[j]? = zs[j]?) ∧ zo1[66]? = some (.int w66)) (fun (u : (List Value)) (t : State) => match u with | (zo1) => va_P (dC, dI) vwCl [(h0, .inr (13, zo1)), (qf6, .inl (cf6, 3002, .inl f6)), (qf5, .inl (cf5, 3002, .inl f5)), (qf2, .inl (cf2, 3000, .inl f2)), (qf65, .inl (cf65, 200, .inl o65))] t.heap ∧ va_K (dC, dI) vwCl [(cf6, .int), (cf5, .int), (cf2, .int), (cf65, .int)] t ∧ va_D (va_A [(h0, .inr (13, zs)), (qf6, .inl (cf6, 3002, .inl f6)), (qf5, .inl (cf5, 3002, .inl f5)), (qf2, .inl (cf2, 3000, .inl f2)), (qf65, .inl (cf65, 200, .inl f65))] sz) [(h0, .inr (13, zo1)), (qf6, .inl (cf6, 3002, .inl f6)), (qf5, .inl (cf5, 3002, .inl f5)), (qf2, .inl (cf2, 3000, .inl f2)), (qf65, .inl (cf65, 200, .inl o65))]) (va_A [(h0, .inr (13, zs)), (qf6, .inl (cf6, 3002, .inl f6)), (qf5, .inl (cf5, 3002, .inl f5)), (qf2, .inl (cf2, 3000, .inl f2)), (qf65, .inl (cf65, 200, .inl f65))] sz)) 0 0 (va_A [(h0, .inr (13, zs)), (qf6, .inl (cf6, 3002, .inl f6)), (qf5, .inl (cf5, 3002, .inl f5)), (qf2, .inl (cf2, 3000, .inl f2)), (qf65, .inl (cf65, 200, .inl f65))] sz) := by
  refine Met.ofW (cc := cX13_spellToken) (maxL := 3) (ret := none) (by decide) rfl ?_
  intro p e s m args below meth c s₁ B hml hv
  obtain ⟨rfl, hsz, hP, hK, hD0⟩ := hv
  have hx := B.exec
  have hb := B.bytes
  have hr := B.returns
  have hts := atoms_spec (ws := (.code yX13_spellToken cX13_spellToken 3 none :: VS_h6)) B.pre
  replace hts := fun w (h : w ∈ VS_h6) => hts w (List.mem_cons_of_mem _ h)
  have hown : s.vm.findClass RX13 = some m.cls := findClass_of_methodNamed B.named
  have hlocks := B.notSynchronized
  subst hsz
  have hD := hD0.self (sz := s.heap.size)
  generalize hAe : va_A [(h0, .inr (13, zs)), (qf6, .inl (cf6, 3002, .inl f6)), (qf5, .inl (cf5, 3002, .inl f5)), (qf2, .inl (cf2, 3000, .inl f2)), (qf65, .inl (cf65, 200, .inl f65))] s.heap.size = A at hD  ⊢
  have hA : ∀ q : Nat, s.heap.size ≤ q → A q := fun q h => by rw [← hAe]; exact Or.inr h
  have hP : va_P (dC, dI) vwCl [(h0, .inr (13, zs)), (qf6, .inl (cf6, 3002, .inl f6)), (qf5, .inl (cf5, 3002, .inl f5)), (qf2, .inl (cf2, 3000, .inl f2)), (qf65, .inl (cf65, 200, .inl f65))] s.heap := hP
  have hl := lv_entry ([.ref h0, .int a1]) (n := 3) (Nat.le_of_ble_eq_true rfl)
  rw [lg_entry_eq]
  generalize (lg_sl ([.ref h0, .int a1]) ++ List.replicate (3 - (lg_sl ([.ref h0, .int a1])).length) Slot.unset).toArray = ls at hl ⊢
  have hl : lv_has ls 3 [(0, .ref h0), (1, .int a1)] := hl
  obtain ⟨H, hH⟩ : ∃ H : Heap, s.heap = H := ⟨_, rfl⟩
  rw [hH] at hP ⊢
  have hS : va_S A s.heap H [] := by rw [← hH]; exact va_S.rf
  obtain ⟨locs, hlo⟩ : ∃ locs : List Loc, locs = [] := ⟨_, rfl⟩
  rw [← hlo] at hS ⊢
  have hrs0 : ∀ j : Nat, j ≠ 66 → zs[j]? = zs[j]? := fun _ _  => rfl
  unfold sp_tn_spellToken at hsp
  refine lv_iconst (v := 0) hx hb dX13_spellToken_0 (by decide) ?_
  refine lv_istore_n (lv' := [(2, .int 0), (0, .ref h0), (1, .int a1)]) hx hb dX13_spellToken_1 rfl hl (by decide) rfl (fun ls hl => ?_)
  replace hP := hP.sub (ws' := [(h0, .inr (13, zs)), (qf6, .inl (cf6, 3002, .inl f6)), (qf5, .inl (cf5, 3002, .inl f5)), (qf2, .inl (cf2, 3000, .inl f2)), (qf65, .inl (cf65, 200, .inl f65))]) [0, 1, 2, 3, 4] rfl
  replace hD := hD.sub (ws' := [(h0, .inr (13, zs)), (qf6, .inl (cf6, 3002, .inl f6)), (qf5, .inl (cf5, 3002, .inl f5)), (qf2, .inl (cf2, 3000, .inl f2)), (qf65, .inl (cf65, 200, .inl f65))]) [0, 1, 2, 3, 4] (by decide) rfl
  replace hK := hK.sub (tys' := [(cf6, .int), (cf5, .int), (cf2, .int), (cf65, .int)]) [0, 1, 2, 3] rfl
  obtain ⟨n_2, hn_2⟩ : ∃ z : Nat, z = nf := ⟨_, rfl⟩
  obtain ⟨z2, ez2⟩ : ∃ z : List Value, z = zs := ⟨_, rfl⟩
  obtain ⟨l1_2, el1_2⟩ : ∃ z : Int32, z = a1 := ⟨_, rfl⟩
  obtain ⟨l2_2, el2_2⟩ : ∃ z : Int32, z = 0 := ⟨_, rfl⟩
  obtain ⟨g65_2, eg65_2⟩ : ∃ z : Nat → Int32, z = f65 := ⟨_, rfl⟩
  obtain ⟨x66_2, ex66_2⟩ : ∃ z : Int32, z = v66 := ⟨_, rfl⟩
  replace hsp : lp_tn_spellToken_2 nf n_2 a1 v66 f6 f5 f2 f65 l1_2 l2_2 g65_2 x66_2 = some (o65, w66) := by rw [hn_2, el1_2, el2_2, eg65_2, ex66_2]; exact hsp
  replace hl : lv_has ls 3 [(2, .int l2_2), (0, .ref h0), (1, .int l1_2)] := by rw [el1_2, el2_2]; exact hl
  have hfh_2_2 : z2[2]? = some (.ref qf2) := by rw [ez2]; exact hf2
  have hfh_2_5 : z2[5]? = some (.ref qf5) := by rw [ez2]; exact hf5
  have hfh_2_6 : z2[6]? = some (.ref qf6) := by rw [ez2]; exact hf6
  have hfh_2_65 : z2[65]? = some (.ref qf65) := by rw [ez2]; exact hf65
  have hfh_2_66 : z2[66]? = some (.int x66_2) := by rw [ez2, ex66_2]; exact hf66
  have hlh_2 : z2.length = 155 := by rw [ez2]; exact hlen
  have hrh_2 : ∀ j : Nat, j ≠ 66 → z2[j]? = zs[j]? := by rw [ez2]; exact hrs0
  replace hP : va_P (dC, dI) vwCl [(h0, .inr (13, z2)), (qf6, .inl (cf6, 3002, .inl f6)), (qf5, .inl (cf5, 3002, .inl f5)), (qf2, .inl (cf2, 3000, .inl f2)), (qf65, .inl (cf65, 200, .inl g65_2))] H := by rw [ez2, eg65_2]; exact hP
  replace hD : va_D A [(h0, .inr (13, z2)), (qf6, .inl (cf6, 3002, .inl f6)), (qf5, .inl (cf5, 3002, .inl f5)), (qf2, .inl (cf2, 3000, .inl f2)), (qf65, .inl (cf65, 200, .inl g65_2))] := by rw [ez2, eg65_2]; exact hD
  clear hn_2 ez2 el1_2 el2_2 eg65_2 ex66_2
  try clear hlo
  try clear hH
  revert hsp
  revert hP
  revert hD
  revert hS
  revert hl
  revert hrh_2
  revert hlh_2
  revert hfh_2_66
  revert hfh_2_65
  revert hfh_2_6
  revert hfh_2_5
  revert hfh_2_2
  revert x66_2
  revert g65_2
  revert l2_2
  revert l1_2
  revert z2
  revert ls
  revert locs
  revert H
  induction n_2 with
  | zero => intro H locs ls z2 l1_2 l2_2 g65_2 x66_2 hfh_2_2 hfh_2_5 hfh_2_6 hfh_2_65 hfh_2_66 hlh_2 hrh_2 hl hS hD hP hsp; unfold lp_tn_spellToken_2 at hsp; cases hsp
  | succ n_2 ih_2 =>
    intro H locs ls z2 l1_2 l2_2 g65_2 x66_2 hfh_2_2 hfh_2_5 hfh_2_6 hfh_2_65 hfh_2_66 hlh_2 hrh_2 hl hS hD hP hsp
    unfold lp_tn_spellToken_2 at hsp
    try dsimp only at hsp
    refine lv_iload_n hx hb dX13_spellToken_2 rfl (lv_at hl 0 rfl) ?_
    refine lv_aload_n hx hb dX13_spellToken_3 rfl (lv_at hl 1 rfl) ?_
    refine va_get (D := (dC, dI)) (ci := 13) (v := .ref qf6) (C := RX13) (T := TX13) (N := 155) hx hb hts uV_h6_X13 hown hK hP 0 rfl rfl 6 (by decide) (hts (.fieldLink RX13 22 "ClassMillModel" "wide" "[I") mw_h6_17) (fun _ h9 => h9) hfh_2_6 dX13_spellToken_4 ?_
    refine lv_iload_n hx hb dX13_spellToken_7 rfl (lv_at hl 2 rfl) ?_
    obtain ⟨hi_1, hsp⟩ := ox_in hsp
    refine va_iald hx hb hK hP 1 0 rfl rfl (i := l1_2) hi_1 dX13_spellToken_8 ?_
    refine lv_icmp_ge (tgt := 35) hx hb dX13_spellToken_9 (by decide) (fun c_2 => ?_) (fun c_2 => ?_)
    · rw [if_pos c_2] at hsp
      have hr0 := Option.some.inj hsp
      clear hsp
      obtain ⟨hq0, hr1⟩ := Prod.mk.inj hr0
      clear hr0
      subst hq0
      subst hr1
      have hP9 := hP.sub (ws' := [(h0, .inr (13, z2)), (qf6, .inl (cf6, 3002, .inl f6)), (qf5, .inl (cf5, 3002, .inl f5)), (qf2, .inl (cf2, 3000, .inl f2)), (qf65, .inl (cf65, 200, .inl g65_2))]) [0, 1, 2, 3, 4] rfl
      have hD9 := hD.sub (ws' := [(h0, .inr (13, z2)), (qf6, .inl (cf6, 3002, .inl f6)), (qf5, .inl (cf5, 3002, .inl f5)), (qf2, .inl (cf2, 3000, .inl f2)), (qf65, .inl (cf65, 200, .inl g65_2))]) [0, 1, 2, 3, 4] (by decide) rfl
      have hK9 := hK.sub (tys' := [(cf6, .int), (cf5, .int), (cf2, .int), (cf65, .int)]) [0, 1, 2, 3] rfl
      exact W.vret hx hb hr (fun t ht hW => ⟨⟨(z2), rfl, ⟨trivial, hlh_2, hrh_2, hfh_2_66⟩, by rw [ht]; exact hP9, va_K.moved hW.alike hK9, hD9⟩, hS.F ht⟩) hS.2.2 dX13_spellToken_35
    · rw [if_neg c_2] at hsp
      refine lv_aload_n hx hb dX13_spellToken_12 rfl (lv_at hl 1 rfl) ?_
      refine lv_aload_n hx hb dX13_spellToken_13 rfl (lv_at hl 1 rfl) ?_
      refine va_get (D := (dC, dI)) (ci := 13) (v := .ref qf2) (C := RX13) (T := TX13) (N := 155) hx hb hts uV_h6_X13 hown hK hP 0 rfl rfl 2 (by decide) (hts (.fieldLink RX13 13 "ClassMillModel" "text" "[I") mw_h6_18) (fun _ h9 => h9) hfh_2_2 dX13_spellToken_14 ?_
      refine lv_aload_n hx hb dX13_spellToken_17 rfl (lv_at hl 1 rfl) ?_
      refine va_get (D := (dC, dI)) (ci := 13) (v := .ref qf5) (C := RX13) (T := TX13) (N := 155) hx hb hts uV_h6_X13 hown hK hP 0 rfl rfl 5 (by decide) (hts (.fieldLink RX13 19 "ClassMillModel" "from" "[I") mw_h6_19) (fun _ h9 => h9) hfh_2_5 dX13_spellToken_18 ?_
      refine lv_iload_n hx hb dX13_spellToken_21 rfl (lv_at hl 2 rfl) ?_
      obtain ⟨hi_3, hsp⟩ := ox_in hsp
      refine va_iald hx hb hK hP 2 1 rfl rfl (i := l1_2) hi_3 dX13_spellToken_22 ?_
      refine lv_iload_n hx hb dX13_spellToken_23 rfl (lv_at hl 0 rfl) ?_
      refine lv_iadd hx hb dX13_spellToken_24 ?_
      obtain ⟨hi_4, hsp⟩ := ox_in hsp
      refine va_iald hx hb hK hP 3 2 rfl rfl (i := ((f5 (l1_2 : Int32).toNatClampNeg) + l2_2)) hi_4 dX13_spellToken_25 ?_
      obtain ⟨⟨g901_0, u1_1⟩, hu_1, hsp⟩ := ox_bind hsp
      try dsimp only at hsp
      have hPc := hP.sub (ws' := [(h0, .inr (13, z2)), (qf65, .inl (cf65, 200, .inl g65_2))]) [0, 4] rfl
      have hDc := hD.sub (ws' := [(h0, .inr (13, z2)), (qf65, .inl (cf65, 200, .inl g65_2))]) [0, 4] (by decide) rfl
      have hKc := hK.sub (tys' := [(cf65, .int)]) [3] rfl
      have hFc := va_free (wc := [(h0, .inr (13, z2)), (qf65, .inl (cf65, 200, .inl g65_2))]) hD hS hA [0, 4] rfl
      refine va_callv (va_runV (As := [.int (f2 (((f5 (l1_2 : Int32).toNatClampNeg) + l2_2) : Int32).toNatClampNeg)]) (rest := []) ⟨hx, hb, hml, hown, hts⟩ (tm_spell l dC dI H.size h0 z2 ((f2 (((f5 (l1_2 : Int32).toNatClampNeg) + l2_2) : Int32).toNatClampNeg)) qf65 x66_2 cf65 g65_2 nf g901_0 u1_1 hlh_2 hfh_2_65 hfh_2_66 hu_1) (cwV 1 hts gv_h6_10 rfl rfl rfl (by decide +kernel) ⟨Nat.le_of_ble_eq_true rfl, Nat.le_of_ble_eq_true rfl⟩) ⟨fun a U g mk q => by obtain ⟨q0, q1, qP, qK, qD⟩ := q; exact ⟨q0, q1, qP, va_K.moved (u := U) (U := U.calling g mk a) (Vm.Alike.refl U.vm) qK, qD⟩, va_recv hKc hPc (ci := 13) (q0 := 0) rfl rfl, fun U hU hW => ⟨rfl, by rw [hU], by rw [hU]; exact hPc, va_K.moved hW.alike hKc, hDc.weaken (fun _ _ _ _ => trivial)⟩⟩ rfl rfl hl.1 rfl (lv_room (Nat.le_of_ble_eq_true rfl)) dX13_spellToken_26 ⟨Nat.le_of_ble_eq_true rfl, Nat.le_of_ble_eq_true rfl⟩) hS (fun q _ h => hFc q h) hFc ?_
      clear hS
      intro u t H1 locs ht hvm hw hB hz1 hk1 hS
      obtain ⟨z_1, rfl⟩ : ∃ z, z = u := ⟨_, rfl⟩
      obtain ⟨hP1, hK1, hD1⟩ := hB
      rw [ht] at hP1
      have hK1 := va_K.moved hvm.symm hK1
      try dsimp only at hw
      have hPD := va_join (wr := [(qf6, .inl (cf6, 3002, .inl f6)), (qf5, .inl (cf5, 3002, .inl f5)), (qf2, .inl (cf2, 3000, .inl f2))]) (w1 := [(h0, .inr (13, z_1)), (qf65, .inl (cf65, 200, .inl g901_0))]) hP hD [0, 4] [1, 2, 3] rfl rfl (by decide) (by decide) hk1 hFc hP1 hD1
      clear hP hD
      obtain ⟨hP, hD⟩ := hPD
      replace hK := (hK.sub (tys' := [(cf6, .int), (cf5, .int), (cf2, .int)]) [0, 1, 2] rfl).app hK1
      clear hPc hDc hKc hFc hP1 hK1 hD1 hz1 hk1 ht hvm
      generalize H1 = H at hP hS ⊢
      replace hP : va_P (dC, dI) vwCl [(qf6, .inl (cf6, 3002, .inl f6)), (qf5, .inl (cf5, 3002, .inl f5)), (qf2, .inl (cf2, 3000, .inl f2)), (h0, .inr (13, z_1)), (qf65, .inl (cf65, 200, .inl g901_0))] H := hP
      replace hD : va_D A [(qf6, .inl (cf6, 3002, .inl f6)), (qf5, .inl (cf5, 3002, .inl f5)), (qf2, .inl (cf2, 3000, .inl f2)), (h0, .inr (13, z_1)), (qf65, .inl (cf65, 200, .inl g901_0))] := hD
      replace hK : va_K (dC, dI) vwCl [(cf6, .int), (cf5, .int), (cf2, .int), (cf65, .int)] s := hK
      obtain ⟨hwa_1, hln_1, hre_1, hch_1_66⟩ := hw
      have hfk_1_2 : z_1[2]? = some (.ref qf2) := (hre_1 2 (by decide)).trans (hfh_2_2)
      have hfk_1_5 : z_1[5]? = some (.ref qf5) := (hre_1 5 (by decide)).trans (hfh_2_5)
      have hfk_1_6 : z_1[6]? = some (.ref qf6) := (hre_1 6 (by decide)).trans (hfh_2_6)
      have hfk_1_65 : z_1[65]? = some (.ref qf65) := (hre_1 65 (by decide)).trans (hfh_2_65)
      have hrq_1 : ∀ j : Nat, j ≠ 66 → z_1[j]? = zs[j]? := fun j g66 => (hre_1 j g66).trans (hrh_2 j g66)
      refine lv_iinc (v := (l2_2 + 1)) (lv' := [(2, .int (l2_2 + 1)), (0, .ref h0), (1, .int l1_2)]) hx hb dX13_spellToken_29 hl (k := 0) rfl rfl (by decide) rfl (fun ls hl => ?_)
      refine lv_goto (tgt := 2) hx hb dX13_spellToken_32 (by decide) ?_
      exact ih_2 H locs ls z_1 l1_2 (l2_2 + 1) g901_0 u1_1 (hfk_1_2) (hfk_1_5) (hfk_1_6) (hfk_1_65) (hch_1_66) hln_1 hrq_1 (lv_sub hl [0, 1, 2] rfl) hS (hD.sub (ws' := [(h0, .inr (13, z_1)), (qf6, .inl (cf6, 3002, .inl f6)), (qf5, .inl (cf5, 3002, .inl f5)), (qf2, .inl (cf2, 3000, .inl f2)), (qf65, .inl (cf65, 200, .inl g901_0))]) [3, 0, 1, 2, 4] (by decide) rfl) (hP.sub (ws' := [(h0, .inr (13, z_1)), (qf6, .inl (cf6, 3002, .inl f6)), (qf5, .inl (cf5, 3002, .inl f5)), (qf2, .inl (cf2, 3000, .inl f2)), (qf65, .inl (cf65, 200, .inl g901_0))]) [3, 0, 1, 2, 4] rfl) hsp
def sp_tn_operation (nf : Nat) (a1 : Int32) : Option (Int32) := (if a1 = 43 then (some 96) else (if a1 = 45 then (some 100) else (if a1 = 42 then (some 104) else (if a1 = 47 then (some 108) else (if a1 = 37 then (some 112) else (if a1 = 38 then (some 126) else (if a1 = 124 then (some 128) else (if a1 = 94 then (some 130) else ((sp_tm_sign nf 0 60 60).bind (fun p1 => (if a1 = p1 then (some 120) else ((sp_tm_sign nf 0 62 62).bind (fun p2 => (if a1 = p2 then (some 122) else (some 124)))))))))))))))
set_option maxHeartbeats 4000000 in
set_option maxRecDepth 100000 in
/-- ClassMillModel.operation -/
theorem tn_operation (l : Launch) (dC : Nat → ClassId) (dI : Nat → Nat → Nat) (sz : Nat) (a1 : Int32) (nf : Nat) (r0 : Int32) (hsp : sp_tn_operation nf a1 = some r0) : Met l yX13_operation (.code yX13_operation cX13_operation 1 (some .int) :: VS_h6) ({ frames := 1, cells := 0, slots := 0, locals := 22 }) (va_Pc [.int a1] (fun U => U.heap.size = sz ∧ va_P (dC, dI) vwCl [] U.heap ∧ va_K (dC, dI) vwCl [] U ∧ va_D (fun _ => True) [])) (va_Qi (fun (r : Int32) (u : Unit) => match u with | () => r0 = r) (fun (u : Unit) (t : State) => match u with | () => va_P (dC, dI) vwCl [] t.heap ∧ va_K (dC, dI) vwCl [] t ∧ va_D (va_A [] sz) []) (va_A [] sz)) 0 0 (va_A [] sz) := by
  refine Met.ofW (cc := cX13_operation) (maxL := 1) (ret := (some .int)) (by decide) rfl ?_
  intro p e s m args below meth c s₁ B hml hv
  obtain ⟨rfl, hsz, hP, hK, hD0⟩ := hv
  have hx := B.exec
  have hb := B.bytes
  have hr := B.returns
  have hts := atoms_spec (ws := (.code yX13_operation cX13_operation 1 (some .int) :: VS_h6)) B.pre
  replace hts := fun w (h : w ∈ VS_h6) => hts w (List.mem_cons_of_mem _ h)
  have hown : s.vm.findClass RX13 = some m.cls := findClass_of_methodNamed B.named
  have hlocks := B.notSynchronized
  subst hsz
  have hD := hD0.self (sz := s.heap.size)
  generalize hAe : va_A [] s.heap.size = A at hD  ⊢
  have hA : ∀ q : Nat, s.heap.size ≤ q → A q := fun q h => by rw [← hAe]; exact Or.inr h
  have hP : va_P (dC, dI) vwCl [] s.heap := hP
  have hl := lv_entry ([.int a1]) (n := 1) (Nat.le_of_ble_eq_true rfl)
  rw [lg_entry_eq]
  generalize (lg_sl ([.int a1]) ++ List.replicate (1 - (lg_sl ([.int a1])).length) Slot.unset).toArray = ls at hl ⊢
  have hl : lv_has ls 1 [(0, .int a1)] := hl
  obtain ⟨H, hH⟩ : ∃ H : Heap, s.heap = H := ⟨_, rfl⟩
  rw [hH] at hP ⊢
  have hS : va_S A s.heap H [] := by rw [← hH]; exact va_S.rf
  obtain ⟨locs, hlo⟩ : ∃ locs : List Loc, locs = [] := ⟨_, rfl⟩
  rw [← hlo] at hS ⊢
  unfold sp_tn_operation at hsp
  refine lv_iload_n hx hb dX13_operation_0 rfl (lv_at hl 0 rfl) ?_
  refine lv_bipush (v := 43) hx hb dX13_operation_1 (by decide) ?_
  refine lv_icmp_ne (tgt := 9) hx hb dX13_operation_3 (by decide) (fun c_1 => ?_) (fun c_1 => ?_)
  · rw [if_neg c_1] at hsp
    refine lv_iload_n hx hb dX13_operation_9 rfl (lv_at hl 0 rfl) ?_
    refine lv_bipush (v := 45) hx hb dX13_operation_10 (by decide) ?_
    refine lv_icmp_ne (tgt := 18) hx hb dX13_operation_12 (by decide) (fun c_2 => ?_) (fun c_2 => ?_)
    · rw [if_neg c_2] at hsp
      refine lv_iload_n hx hb dX13_operation_18 rfl (lv_at hl 0 rfl) ?_
      refine lv_bipush (v := 42) hx hb dX13_operation_19 (by decide) ?_
      refine lv_icmp_ne (tgt := 27) hx hb dX13_operation_21 (by decide) (fun c_3 => ?_) (fun c_3 => ?_)
      · rw [if_neg c_3] at hsp
        refine lv_iload_n hx hb dX13_operation_27 rfl (lv_at hl 0 rfl) ?_
        refine lv_bipush (v := 47) hx hb dX13_operation_28 (by decide) ?_
        refine lv_icmp_ne (tgt := 36) hx hb dX13_operation_30 (by decide) (fun c_4 => ?_) (fun c_4 => ?_)
        · rw [if_neg c_4] at hsp
          refine lv_iload_n hx hb dX13_operation_36 rfl (lv_at hl 0 rfl) ?_
          refine lv_bipush (v := 37) hx hb dX13_operation_37 (by decide) ?_
          refine lv_icmp_ne (tgt := 45) hx hb dX13_operation_39 (by decide) (fun c_5 => ?_) (fun c_5 => ?_)
          · rw [if_neg c_5] at hsp
            refine lv_iload_n hx hb dX13_operation_45 rfl (lv_at hl 0 rfl) ?_
            refine lv_bipush (v := 38) hx hb dX13_operation_46 (by decide) ?_
            refine lv_icmp_ne (tgt := 54) hx hb dX13_operation_48 (by decide) (fun c_6 => ?_) (fun c_6 => ?_)
            · rw [if_neg c_6] at hsp
              refine lv_iload_n hx hb dX13_operation_54 rfl (lv_at hl 0 rfl) ?_
              refine lv_bipush (v := 124) hx hb dX13_operation_55 (by decide) ?_
              refine lv_icmp_ne (tgt := 64) hx hb dX13_operation_57 (by decide) (fun c_7 => ?_) (fun c_7 => ?_)
              · rw [if_neg c_7] at hsp
                refine lv_iload_n hx hb dX13_operation_64 rfl (lv_at hl 0 rfl) ?_
                refine lv_bipush (v := 94) hx hb dX13_operation_65 (by decide) ?_
                refine lv_icmp_ne (tgt := 74) hx hb dX13_operation_67 (by decide) (fun c_8 => ?_) (fun c_8 => ?_)
                · rw [if_neg c_8] at hsp
                  refine lv_iload_n hx hb dX13_operation_74 rfl (lv_at hl 0 rfl) ?_
                  refine lv_iconst (v := 0) hx hb dX13_operation_75 (by decide) ?_
                  refine lv_bipush (v := 60) hx hb dX13_operation_76 (by decide) ?_
                  refine lv_bipush (v := 60) hx hb dX13_operation_78 (by decide) ?_
                  obtain ⟨u1_0, hu_1, hsp⟩ := ox_bind hsp
                  try dsimp only at hsp
                  have hPc := hP.sub (ws' := []) [] rfl
                  have hDc := hD.sub (ws' := []) [] (by decide) rfl
                  have hKc := hK.sub (tys' := []) [] rfl
                  have hFc := va_free (wc := []) hD hS hA [] rfl
                  refine va_calli (va_runS (As := [.int 0, .int 60, .int 60]) (rest := [.int a1]) ⟨hx, hb, hml, hown, hts⟩ (tm_sign l dC dI H.size 0 60 60 nf u1_0 hu_1) (va_cwS 3 hts gv_h6_17 rfl rfl rfl (by decide +kernel) ⟨Nat.le_of_ble_eq_true rfl, Nat.le_of_ble_eq_true rfl⟩) ⟨fun a U g mk q => by obtain ⟨q0, q1, qP, qK, qD⟩ := q; exact ⟨q0, q1, qP, va_K.moved (u := U) (U := U.calling g mk a) (Vm.Alike.refl U.vm) qK, qD⟩, fun U hU hW => ⟨rfl, by rw [hU], by rw [hU]; exact hPc, va_K.moved hW.alike hKc, hDc.weaken (fun _ _ _ _ => trivial)⟩⟩ rfl rfl hl.1 rfl (lv_room (Nat.le_of_ble_eq_true rfl)) dX13_operation_80 ⟨Nat.le_of_ble_eq_true rfl, Nat.le_of_ble_eq_true rfl⟩) hS (fun q _ h => hFc q h) hFc ?_
                  clear hS
                  intro r_9 u t H1 locs ht hvm hw hB hz1 hk1 hS
                  obtain ⟨⟩ := u
                  obtain ⟨hP1, hK1, hD1⟩ := hB
                  rw [ht] at hP1
                  have hK1 := va_K.moved hvm.symm hK1
                  try dsimp only at hw
                  have hPD := va_join (wr := []) (w1 := []) hP hD [] [] rfl rfl (by decide) (by decide) hk1 hFc hP1 hD1
                  clear hP hD
                  obtain ⟨hP, hD⟩ := hPD
                  replace hK := (hK.sub (tys' := []) [] rfl).app hK1
                  clear hPc hDc hKc hFc hP1 hK1 hD1 hz1 hk1 ht hvm
                  generalize H1 = H at hP hS ⊢
                  replace hP : va_P (dC, dI) vwCl [] H := hP
                  replace hD : va_D A [] := hD
                  replace hK : va_K (dC, dI) vwCl [] s := hK
                  obtain rfl := hw
                  refine lv_icmp_ne (tgt := 91) hx hb dX13_operation_83 (by decide) (fun c_10 => ?_) (fun c_10 => ?_)
                  · rw [if_neg c_10] at hsp
                    refine lv_iload_n hx hb dX13_operation_91 rfl (lv_at hl 0 rfl) ?_
                    refine lv_iconst (v := 0) hx hb dX13_operation_92 (by decide) ?_
                    refine lv_bipush (v := 62) hx hb dX13_operation_93 (by decide) ?_
                    refine lv_bipush (v := 62) hx hb dX13_operation_95 (by decide) ?_
                    obtain ⟨u2_0, hu_2, hsp⟩ := ox_bind hsp
                    try dsimp only at hsp
                    have hPc := hP.sub (ws' := []) [] rfl
                    have hDc := hD.sub (ws' := []) [] (by decide) rfl
                    have hKc := hK.sub (tys' := []) [] rfl
                    have hFc := va_free (wc := []) hD hS hA [] rfl
                    refine va_calli (va_runS (As := [.int 0, .int 62, .int 62]) (rest := [.int a1]) ⟨hx, hb, hml, hown, hts⟩ (tm_sign l dC dI H.size 0 62 62 nf u2_0 hu_2) (va_cwS 3 hts gv_h6_17 rfl rfl rfl (by decide +kernel) ⟨Nat.le_of_ble_eq_true rfl, Nat.le_of_ble_eq_true rfl⟩) ⟨fun a U g mk q => by obtain ⟨q0, q1, qP, qK, qD⟩ := q; exact ⟨q0, q1, qP, va_K.moved (u := U) (U := U.calling g mk a) (Vm.Alike.refl U.vm) qK, qD⟩, fun U hU hW => ⟨rfl, by rw [hU], by rw [hU]; exact hPc, va_K.moved hW.alike hKc, hDc.weaken (fun _ _ _ _ => trivial)⟩⟩ rfl rfl hl.1 rfl (lv_room (Nat.le_of_ble_eq_true rfl)) dX13_operation_97 ⟨Nat.le_of_ble_eq_true rfl, Nat.le_of_ble_eq_true rfl⟩) hS (fun q _ h => hFc q h) hFc ?_
                    clear hS
                    intro r_11 u t H1 locs ht hvm hw hB hz1 hk1 hS
                    obtain ⟨⟩ := u
                    obtain ⟨hP1, hK1, hD1⟩ := hB
                    rw [ht] at hP1
                    have hK1 := va_K.moved hvm.symm hK1
                    try dsimp only at hw
                    have hPD := va_join (wr := []) (w1 := []) hP hD [] [] rfl rfl (by decide) (by decide) hk1 hFc hP1 hD1
                    clear hP hD
                    obtain ⟨hP, hD⟩ := hPD
                    replace hK := (hK.sub (tys' := []) [] rfl).app hK1
                    clear hPc hDc hKc hFc hP1 hK1 hD1 hz1 hk1 ht hvm
                    generalize H1 = H at hP hS ⊢
                    replace hP : va_P (dC, dI) vwCl [] H := hP
                    replace hD : va_D A [] := hD
                    replace hK : va_K (dC, dI) vwCl [] s := hK
                    obtain rfl := hw
                    refine lv_icmp_ne (tgt := 108) hx hb dX13_operation_100 (by decide) (fun c_12 => ?_) (fun c_12 => ?_)
                    · rw [if_neg c_12] at hsp
                      refine lv_bipush (v := 124) hx hb dX13_operation_108 (by decide) ?_
                      have hr0 := Option.some.inj hsp
                      clear hsp
                      subst hr0
                      have hP9 := hP.sub (ws' := []) [] rfl
                      have hD9 := hD.sub (ws' := []) [] (by decide) rfl
                      have hK9 := hK.sub (tys' := []) [] rfl
                      exact W.iret hx hb hr (fun t ht hW => ⟨⟨(124), (), rfl, rfl, by rw [ht]; exact hP9, va_K.moved hW.alike hK9, hD9⟩, hS.F ht⟩) hS.2.2 dX13_operation_110
                    · rw [if_pos c_12] at hsp
                      refine lv_bipush (v := 122) hx hb dX13_operation_103 (by decide) ?_
                      refine lv_goto (tgt := 110) hx hb dX13_operation_105 (by decide) ?_
                      have hr0 := Option.some.inj hsp
                      clear hsp
                      subst hr0
                      have hP9 := hP.sub (ws' := []) [] rfl
                      have hD9 := hD.sub (ws' := []) [] (by decide) rfl
                      have hK9 := hK.sub (tys' := []) [] rfl
                      exact W.iret hx hb hr (fun t ht hW => ⟨⟨(122), (), rfl, rfl, by rw [ht]; exact hP9, va_K.moved hW.alike hK9, hD9⟩, hS.F ht⟩) hS.2.2 dX13_operation_110
                  · rw [if_pos c_10] at hsp
                    refine lv_bipush (v := 120) hx hb dX13_operation_86 (by decide) ?_
                    refine lv_goto (tgt := 110) hx hb dX13_operation_88 (by decide) ?_
                    have hr0 := Option.some.inj hsp
                    clear hsp
                    subst hr0
                    have hP9 := hP.sub (ws' := []) [] rfl
                    have hD9 := hD.sub (ws' := []) [] (by decide) rfl
                    have hK9 := hK.sub (tys' := []) [] rfl
                    exact W.iret hx hb hr (fun t ht hW => ⟨⟨(120), (), rfl, rfl, by rw [ht]; exact hP9, va_K.moved hW.alike hK9, hD9⟩, hS.F ht⟩) hS.2.2 dX13_operation_110
                · rw [if_pos c_8] at hsp
                  refine lv_sipush (v := 130) hx hb dX13_operation_70 (by decide) ?_
                  have hr0 := Option.some.inj hsp
                  clear hsp
                  subst hr0
                  have hP9 := hP.sub (ws' := []) [] rfl
                  have hD9 := hD.sub (ws' := []) [] (by decide) rfl
                  have hK9 := hK.sub (tys' := []) [] rfl
                  exact W.iret hx hb hr (fun t ht hW => ⟨⟨(130), (), rfl, rfl, by rw [ht]; exact hP9, va_K.moved hW.alike hK9, hD9⟩, hS.F ht⟩) hS.2.2 dX13_operation_73
              · rw [if_pos c_7] at hsp
                refine lv_sipush (v := 128) hx hb dX13_operation_60 (by decide) ?_
                have hr0 := Option.some.inj hsp
                clear hsp
                subst hr0
                have hP9 := hP.sub (ws' := []) [] rfl
                have hD9 := hD.sub (ws' := []) [] (by decide) rfl
                have hK9 := hK.sub (tys' := []) [] rfl
                exact W.iret hx hb hr (fun t ht hW => ⟨⟨(128), (), rfl, rfl, by rw [ht]; exact hP9, va_K.moved hW.alike hK9, hD9⟩, hS.F ht⟩) hS.2.2 dX13_operation_63
            · rw [if_pos c_6] at hsp
              refine lv_bipush (v := 126) hx hb dX13_operation_51 (by decide) ?_
              have hr0 := Option.some.inj hsp
              clear hsp
              subst hr0
              have hP9 := hP.sub (ws' := []) [] rfl
              have hD9 := hD.sub (ws' := []) [] (by decide) rfl
              have hK9 := hK.sub (tys' := []) [] rfl
              exact W.iret hx hb hr (fun t ht hW => ⟨⟨(126), (), rfl, rfl, by rw [ht]; exact hP9, va_K.moved hW.alike hK9, hD9⟩, hS.F ht⟩) hS.2.2 dX13_operation_53
          · rw [if_pos c_5] at hsp
            refine lv_bipush (v := 112) hx hb dX13_operation_42 (by decide) ?_
            have hr0 := Option.some.inj hsp
            clear hsp
            subst hr0
            have hP9 := hP.sub (ws' := []) [] rfl
            have hD9 := hD.sub (ws' := []) [] (by decide) rfl
            have hK9 := hK.sub (tys' := []) [] rfl
            exact W.iret hx hb hr (fun t ht hW => ⟨⟨(112), (), rfl, rfl, by rw [ht]; exact hP9, va_K.moved hW.alike hK9, hD9⟩, hS.F ht⟩) hS.2.2 dX13_operation_44
        · rw [if_pos c_4] at hsp
          refine lv_bipush (v := 108) hx hb dX13_operation_33 (by decide) ?_
          have hr0 := Option.some.inj hsp
          clear hsp
          subst hr0
          have hP9 := hP.sub (ws' := []) [] rfl
          have hD9 := hD.sub (ws' := []) [] (by decide) rfl
          have hK9 := hK.sub (tys' := []) [] rfl
          exact W.iret hx hb hr (fun t ht hW => ⟨⟨(108), (), rfl, rfl, by rw [ht]; exact hP9, va_K.moved hW.alike hK9, hD9⟩, hS.F ht⟩) hS.2.2 dX13_operation_35
      · rw [if_pos c_3] at hsp
        refine lv_bipush (v := 104) hx hb dX13_operation_24 (by decide) ?_
        have hr0 := Option.some.inj hsp
        clear hsp
        subst hr0
        have hP9 := hP.sub (ws' := []) [] rfl
        have hD9 := hD.sub (ws' := []) [] (by decide) rfl
        have hK9 := hK.sub (tys' := []) [] rfl
        exact W.iret hx hb hr (fun t ht hW => ⟨⟨(104), (), rfl, rfl, by rw [ht]; exact hP9, va_K.moved hW.alike hK9, hD9⟩, hS.F ht⟩) hS.2.2 dX13_operation_26
    · rw [if_pos c_2] at hsp
      refine lv_bipush (v := 100) hx hb dX13_operation_15 (by decide) ?_
      have hr0 := Option.some.inj hsp
      clear hsp
      subst hr0
      have hP9 := hP.sub (ws' := []) [] rfl
      have hD9 := hD.sub (ws' := []) [] (by decide) rfl
      have hK9 := hK.sub (tys' := []) [] rfl
      exact W.iret hx hb hr (fun t ht hW => ⟨⟨(100), (), rfl, rfl, by rw [ht]; exact hP9, va_K.moved hW.alike hK9, hD9⟩, hS.F ht⟩) hS.2.2 dX13_operation_17
  · rw [if_pos c_1] at hsp
    refine lv_bipush (v := 96) hx hb dX13_operation_6 (by decide) ?_
    have hr0 := Option.some.inj hsp
    clear hsp
    subst hr0
    have hP9 := hP.sub (ws' := []) [] rfl
    have hD9 := hD.sub (ws' := []) [] (by decide) rfl
    have hK9 := hK.sub (tys' := []) [] rfl
    exact W.iret hx hb hr (fun t ht hW => ⟨⟨(96), (), rfl, rfl, by rw [ht]; exact hP9, va_K.moved hW.alike hK9, hD9⟩, hS.F ht⟩) hS.2.2 dX13_operation_8
def sp_tn_isClassConstant (nf : Nat) (a1 : Int32) (a2 : Int32) (v115 : Int32) (f103 : Nat → Int32) (f102 : Nat → Int32) (f112 : Nat → Int32) : Option (Int32) := ((sp_tm_constantOf nf v115 a1 f103 f102).bind (fun p1 => (if p1 < 0 then (some 0) else (if p1 < 0 then none else if 6000 ≤ (p1 : Int32).toNatClampNeg then none else (if (f112 (p1 : Int32).toNatClampNeg) = 3 then (if (p1 + 1) < 0 then none else if 6000 ≤ ((p1 + 1) : Int32).toNatClampNeg then none else ((sp_tm_constantOf nf v115 (f112 ((p1 + 1) : Int32).toNatClampNeg) f103 f102).bind (fun p2 => (if a2 = 0 then (if p2 < 0 then (some 0) else (if p2 < 0 then none else if 6000 ≤ (p2 : Int32).toNatClampNeg then none else (if (f112 (p2 : Int32).toNatClampNeg) = 1 then (if (p2 + 2) < 0 then none else if 6000 ≤ ((p2 + 2) : Int32).toNatClampNeg then none else (if (f112 ((p2 + 2) : Int32).toNatClampNeg) = 91 then (some 0) else (some 1))) else (some 0)))) else (some 1))))) else (some 0))))))
set_option maxHeartbeats 4000000 in
set_option maxRecDepth 100000 in
/-- ClassMillModel.isClassConstant -/
theorem tn_isClassConstant (l : Launch) (dC : Nat → ClassId) (dI : Nat → Nat → Nat) (sz : Nat) (h0 : Nat) (zs : (List Value)) (a1 : Int32) (a2 : Int32) (qf102 : Nat) (qf103 : Nat) (qf112 : Nat) (v115 : Int32) (cf103 : ClassId) (f103 : (Nat → Int32)) (cf102 : ClassId) (f102 : (Nat → Int32)) (cf112 : ClassId) (f112 : (Nat → Int32)) (nf : Nat) (r0 : Int32) (hlen : zs.length = 155) (hf102 : zs[102]? = some (.ref qf102)) (hf103 : zs[103]? = some (.ref qf103)) (hf112 : zs[112]? = some (.ref qf112)) (hf115 : zs[115]? = some (.int v115)) (hsp : sp_tn_isClassConstant nf a1 a2 v115 f103 f102 f112 = some r0) : Met l yX13_isClassConstant (.code yX13_isClassConstant cX13_isClassConstant 5 (some .boolean) :: VS_h6) ({ frames := 1, cells := 0, slots := 0, locals := 22 }) (va_Pc [.ref h0, .int a1, .int a2] (fun U => U.heap.size = sz ∧ va_P (dC, dI) vwCl [(h0, .inr (13, zs)), (qf103, .inl (cf103, 8, .inl f103)), (qf102, .inl (cf102, 2048, .inl f102)), (qf112, .inl (cf112, 6000, .inl f112))] U.heap ∧ va_K (dC, dI) vwCl [(cf103, .int), (cf102, .int), (cf112, .int)] U ∧ va_D (fun _ => True) [(h0, .inr (13, zs)), (qf103, .inl (cf103, 8, .inl f103)), (qf102, .inl (cf102, 2048, .inl f102)), (qf112, .inl (cf112, 6000, .inl f112))])) (va_Qi (fun (r : Int32) (u : (List Value)) => match u with | (zo1) => (r0 = r ∧ (r0 = 0 ∨ r0 = 1)) ∧ zo1.length = 155 ∧ (∀ j : Nat, zo1[j]? = zs[j]?)) (fun (u : (List Value)) (t : State) => match u with | (zo1) => va_P (dC, dI) vwCl [(h0, .inr (13, zo1)), (qf103, .inl (cf103, 8, .inl f103)), (qf102, .inl (cf102, 2048, .inl f102)), (qf112, .inl (cf112, 6000, .inl f112))] t.heap ∧ va_K (dC, dI) vwCl [(cf103, .int), (cf102, .int), (cf112, .int)] t ∧ va_D (va_A [(h0, .inr (13, zs)), (qf103, .inl (cf103, 8, .inl f103)), (qf102, .inl (cf102, 2048, .inl f102)), (qf112, .inl (cf112, 6000, .inl f112))] sz) [(h0, .inr (13, zo1)), (qf103, .inl (cf103, 8, .inl f103)), (qf102, .inl (cf102, 2048, .inl f102)), (qf112, .inl (cf112, 6000, .inl f112))]) (va_A [(h0, .inr (13, zs)), (qf103, .inl (cf103, 8, .inl f103)), (qf102, .inl (cf102, 2048, .inl f102)), (qf112, .inl (cf112, 6000, .inl f112))] sz)) 0 0 (va_A [(h0, .inr (13, zs)), (qf103, .inl (cf103, 8, .inl f103)), (qf102, .inl (cf102, 2048, .inl f102)), (qf112, .inl (cf112, 6000, .inl f112))] sz) := by
  refine Met.ofW (cc := cX13_isClassConstant) (maxL := 5) (ret := (some .boolean)) (by decide) rfl ?_
  intro p e s m args below meth c s₁ B hml hv
  obtain ⟨rfl, hsz, hP, hK, hD0⟩ := hv
  have hx := B.exec
  have hb := B.bytes
  have hr := B.returns
  have hts := atoms_spec (ws := (.code yX13_isClassConstant cX13_isClassConstant 5 (some .boolean) :: VS_h6)) B.pre
  replace hts := fun w (h : w ∈ VS_h6) => hts w (List.mem_cons_of_mem _ h)
  have hown : s.vm.findClass RX13 = some m.cls := findClass_of_methodNamed B.named
  have hlocks := B.notSynchronized
  subst hsz
  have hD := hD0.self (sz := s.heap.size)
  generalize hAe : va_A [(h0, .inr (13, zs)), (qf103, .inl (cf103, 8, .inl f103)), (qf102, .inl (cf102, 2048, .inl f102)), (qf112, .inl (cf112, 6000, .inl f112))] s.heap.size = A at hD  ⊢
  have hA : ∀ q : Nat, s.heap.size ≤ q → A q := fun q h => by rw [← hAe]; exact Or.inr h
  have hP : va_P (dC, dI) vwCl [(h0, .inr (13, zs)), (qf103, .inl (cf103, 8, .inl f103)), (qf102, .inl (cf102, 2048, .inl f102)), (qf112, .inl (cf112, 6000, .inl f112))] s.heap := hP
  have hl := lv_entry ([.ref h0, .int a1, .int a2]) (n := 5) (Nat.le_of_ble_eq_true rfl)
  rw [lg_entry_eq]
  generalize (lg_sl ([.ref h0, .int a1, .int a2]) ++ List.replicate (5 - (lg_sl ([.ref h0, .int a1, .int a2])).length) Slot.unset).toArray = ls at hl ⊢
  have hl : lv_has ls 5 [(0, .ref h0), (1, .int a1), (2, .int a2)] := hl
  obtain ⟨H, hH⟩ : ∃ H : Heap, s.heap = H := ⟨_, rfl⟩
  rw [hH] at hP ⊢
  have hS : va_S A s.heap H [] := by rw [← hH]; exact va_S.rf
  obtain ⟨locs, hlo⟩ : ∃ locs : List Loc, locs = [] := ⟨_, rfl⟩
  rw [← hlo] at hS ⊢
  have hrs0 : ∀ j : Nat, zs[j]? = zs[j]? := fun _  => rfl
  unfold sp_tn_isClassConstant at hsp
  refine lv_aload_n hx hb dX13_isClassConstant_0 rfl (lv_at hl 0 rfl) ?_
  refine lv_aload_n hx hb dX13_isClassConstant_1 rfl (lv_at hl 0 rfl) ?_
  refine va_get (D := (dC, dI)) (ci := 13) (v := .int v115) (C := RX13) (T := TX13) (N := 155) hx hb hts uV_h6_X13 hown hK hP 0 rfl rfl 115 (by decide) (hts (.fieldLink RX13 788 "ClassMillModel" "into" "I") mw_h6_100) (fun _ h9 => h9) hf115 dX13_isClassConstant_2 ?_
  refine lv_iload_n hx hb dX13_isClassConstant_5 rfl (lv_at hl 1 rfl) ?_
  obtain ⟨u1_0, hu_1, hsp⟩ := ox_bind hsp
  try dsimp only at hsp
  have hPc := hP.sub (ws' := [(h0, .inr (13, zs)), (qf103, .inl (cf103, 8, .inl f103)), (qf102, .inl (cf102, 2048, .inl f102))]) [0, 1, 2] rfl
  have hDc := hD.sub (ws' := [(h0, .inr (13, zs)), (qf103, .inl (cf103, 8, .inl f103)), (qf102, .inl (cf102, 2048, .inl f102))]) [0, 1, 2] (by decide) rfl
  have hKc := hK.sub (tys' := [(cf103, .int), (cf102, .int)]) [0, 1] rfl
  have hFc := va_free (wc := [(h0, .inr (13, zs)), (qf103, .inl (cf103, 8, .inl f103)), (qf102, .inl (cf102, 2048, .inl f102))]) hD hS hA [0, 1, 2] rfl
  refine va_calli (va_runV (As := [.int v115, .int a1]) (rest := []) ⟨hx, hb, hml, hown, hts⟩ (tm_constantOf l dC dI H.size h0 zs v115 a1 qf102 qf103 cf103 f103 cf102 f102 nf u1_0 hlen hf102 hf103 hu_1) (cwV 2 hts gv_h6_20 rfl rfl rfl (by decide +kernel) ⟨Nat.le_of_ble_eq_true rfl, Nat.le_of_ble_eq_true rfl⟩) ⟨fun a U g mk q => by obtain ⟨q0, q1, qP, qK, qD⟩ := q; exact ⟨q0, q1, qP, va_K.moved (u := U) (U := U.calling g mk a) (Vm.Alike.refl U.vm) qK, qD⟩, va_recv hKc hPc (ci := 13) (q0 := 0) rfl rfl, fun U hU hW => ⟨rfl, by rw [hU], by rw [hU]; exact hPc, va_K.moved hW.alike hKc, hDc.weaken (fun _ _ _ _ => trivial)⟩⟩ rfl rfl hl.1 rfl (lv_room (Nat.le_of_ble_eq_true rfl)) dX13_isClassConstant_6 ⟨Nat.le_of_ble_eq_true rfl, Nat.le_of_ble_eq_true rfl⟩) hS (fun q _ h => hFc q h) hFc ?_
  clear hS
  intro r_1 u t H1 locs ht hvm hw hB hz1 hk1 hS
  obtain ⟨z_1, rfl⟩ : ∃ z, z = u := ⟨_, rfl⟩
  obtain ⟨hP1, hK1, hD1⟩ := hB
  rw [ht] at hP1
  have hK1 := va_K.moved hvm.symm hK1
  try dsimp only at hw
  have hPD := va_join (wr := [(qf112, .inl (cf112, 6000, .inl f112))]) (w1 := [(h0, .inr (13, z_1)), (qf103, .inl (cf103, 8, .inl f103)), (qf102, .inl (cf102, 2048, .inl f102))]) hP hD [0, 1, 2] [3] rfl rfl (by decide) (by decide) hk1 hFc hP1 hD1
  clear hP hD
  obtain ⟨hP, hD⟩ := hPD
  replace hK := (hK.sub (tys' := [(cf112, .int)]) [2] rfl).app hK1
  clear hPc hDc hKc hFc hP1 hK1 hD1 hz1 hk1 ht hvm
  generalize H1 = H at hP hS ⊢
  replace hP : va_P (dC, dI) vwCl [(qf112, .inl (cf112, 6000, .inl f112)), (h0, .inr (13, z_1)), (qf103, .inl (cf103, 8, .inl f103)), (qf102, .inl (cf102, 2048, .inl f102))] H := hP
  replace hD : va_D A [(qf112, .inl (cf112, 6000, .inl f112)), (h0, .inr (13, z_1)), (qf103, .inl (cf103, 8, .inl f103)), (qf102, .inl (cf102, 2048, .inl f102))] := hD
  replace hK : va_K (dC, dI) vwCl [(cf112, .int), (cf103, .int), (cf102, .int)] s := hK
  obtain ⟨hwa_1, hln_1, hre_1⟩ := hw
  have hfk_1_102 : z_1[102]? = some (.ref qf102) := (hre_1 102 ).trans (hf102)
  have hfk_1_103 : z_1[103]? = some (.ref qf103) := (hre_1 103 ).trans (hf103)
  have hfk_1_112 : z_1[112]? = some (.ref qf112) := (hre_1 112 ).trans (hf112)
  have hfk_1_115 : z_1[115]? = some (.int v115) := (hre_1 115 ).trans (hf115)
  have hrq_1 : ∀ j : Nat, z_1[j]? = zs[j]? := fun j  => (hre_1 j ).trans (hrs0 j )
  obtain rfl := hwa_1
  refine lv_istore_n (lv' := [(3, .int u1_0), (0, .ref h0), (1, .int a1), (2, .int a2)]) hx hb dX13_isClassConstant_9 rfl hl (by decide) rfl (fun ls hl => ?_)
  refine lv_iload_n hx hb dX13_isClassConstant_10 rfl (lv_at hl 0 rfl) ?_
  refine lv_if_lt (tgt := 24) hx hb dX13_isClassConstant_11 (by decide) (fun c_2 => ?_) (fun c_2 => ?_)
  · rw [if_pos c_2] at hsp
    refine lv_iconst (v := 0) hx hb dX13_isClassConstant_24 (by decide) ?_
    have hr0 := Option.some.inj hsp
    clear hsp
    subst hr0
    have hP9 := hP.sub (ws' := [(h0, .inr (13, z_1)), (qf103, .inl (cf103, 8, .inl f103)), (qf102, .inl (cf102, 2048, .inl f102)), (qf112, .inl (cf112, 6000, .inl f112))]) [1, 2, 3, 0] rfl
    have hD9 := hD.sub (ws' := [(h0, .inr (13, z_1)), (qf103, .inl (cf103, 8, .inl f103)), (qf102, .inl (cf102, 2048, .inl f102)), (qf112, .inl (cf112, 6000, .inl f112))]) [1, 2, 3, 0] (by decide) rfl
    have hK9 := hK.sub (tys' := [(cf103, .int), (cf102, .int), (cf112, .int)]) [1, 2, 0] rfl
    exact W.zret hx hb hr (by decide) (fun t ht hW => ⟨⟨(0), (z_1), rfl, ⟨⟨rfl, Or.inl rfl⟩, hln_1, hrq_1⟩, by rw [ht]; exact hP9, va_K.moved hW.alike hK9, hD9⟩, hS.F ht⟩) hS.2.2 dX13_isClassConstant_25
  · rw [if_neg c_2] at hsp
    refine lv_aload_n hx hb dX13_isClassConstant_14 rfl (lv_at hl 1 rfl) ?_
    refine va_get (D := (dC, dI)) (ci := 13) (v := .ref qf112) (C := RX13) (T := TX13) (N := 155) hx hb hts uV_h6_X13 hown hK hP 1 rfl rfl 112 (by decide) (hts (.fieldLink RX13 245 "ClassMillModel" "look" "[I") mw_h6_101) (fun _ h9 => h9) hfk_1_112 dX13_isClassConstant_15 ?_
    refine lv_iload_n hx hb dX13_isClassConstant_18 rfl (lv_at hl 0 rfl) ?_
    obtain ⟨hi_3, hsp⟩ := ox_in hsp
    refine va_iald hx hb hK hP 0 0 rfl rfl (i := u1_0) hi_3 dX13_isClassConstant_19 ?_
    refine lv_iconst (v := 3) hx hb dX13_isClassConstant_20 (by decide) ?_
    refine lv_icmp_eq (tgt := 26) hx hb dX13_isClassConstant_21 (by decide) (fun c_4 => ?_) (fun c_4 => ?_)
    · rw [if_pos c_4] at hsp
      refine lv_aload_n hx hb dX13_isClassConstant_26 rfl (lv_at hl 1 rfl) ?_
      refine lv_aload_n hx hb dX13_isClassConstant_27 rfl (lv_at hl 1 rfl) ?_
      refine va_get (D := (dC, dI)) (ci := 13) (v := .int v115) (C := RX13) (T := TX13) (N := 155) hx hb hts uV_h6_X13 hown hK hP 1 rfl rfl 115 (by decide) (hts (.fieldLink RX13 788 "ClassMillModel" "into" "I") mw_h6_100) (fun _ h9 => h9) hfk_1_115 dX13_isClassConstant_28 ?_
      refine lv_aload_n hx hb dX13_isClassConstant_31 rfl (lv_at hl 1 rfl) ?_
      refine va_get (D := (dC, dI)) (ci := 13) (v := .ref qf112) (C := RX13) (T := TX13) (N := 155) hx hb hts uV_h6_X13 hown hK hP 1 rfl rfl 112 (by decide) (hts (.fieldLink RX13 245 "ClassMillModel" "look" "[I") mw_h6_101) (fun _ h9 => h9) hfk_1_112 dX13_isClassConstant_32 ?_
      refine lv_iload_n hx hb dX13_isClassConstant_35 rfl (lv_at hl 0 rfl) ?_
      refine lv_iconst (v := 1) hx hb dX13_isClassConstant_36 (by decide) ?_
      refine lv_iadd hx hb dX13_isClassConstant_37 ?_
      obtain ⟨hi_5, hsp⟩ := ox_in hsp
      refine va_iald hx hb hK hP 0 0 rfl rfl (i := (u1_0 + 1)) hi_5 dX13_isClassConstant_38 ?_
      obtain ⟨u2_0, hu_2, hsp⟩ := ox_bind hsp
      try dsimp only at hsp
      have hPc := hP.sub (ws' := [(h0, .inr (13, z_1)), (qf103, .inl (cf103, 8, .inl f103)), (qf102, .inl (cf102, 2048, .inl f102))]) [1, 2, 3] rfl
      have hDc := hD.sub (ws' := [(h0, .inr (13, z_1)), (qf103, .inl (cf103, 8, .inl f103)), (qf102, .inl (cf102, 2048, .inl f102))]) [1, 2, 3] (by decide) rfl
      have hKc := hK.sub (tys' := [(cf103, .int), (cf102, .int)]) [1, 2] rfl
      have hFc := va_free (wc := [(h0, .inr (13, z_1)), (qf103, .inl (cf103, 8, .inl f103)), (qf102, .inl (cf102, 2048, .inl f102))]) hD hS hA [1, 2, 3] rfl
      refine va_calli (va_runV (As := [.int v115, .int (f112 ((u1_0 + 1) : Int32).toNatClampNeg)]) (rest := []) ⟨hx, hb, hml, hown, hts⟩ (tm_constantOf l dC dI H.size h0 z_1 v115 ((f112 ((u1_0 + 1) : Int32).toNatClampNeg)) qf102 qf103 cf103 f103 cf102 f102 nf u2_0 hln_1 hfk_1_102 hfk_1_103 hu_2) (cwV 2 hts gv_h6_20 rfl rfl rfl (by decide +kernel) ⟨Nat.le_of_ble_eq_true rfl, Nat.le_of_ble_eq_true rfl⟩) ⟨fun a U g mk q => by obtain ⟨q0, q1, qP, qK, qD⟩ := q; exact ⟨q0, q1, qP, va_K.moved (u := U) (U := U.calling g mk a) (Vm.Alike.refl U.vm) qK, qD⟩, va_recv hKc hPc (ci := 13) (q0 := 0) rfl rfl, fun U hU hW => ⟨rfl, by rw [hU], by rw [hU]; exact hPc, va_K.moved hW.alike hKc, hDc.weaken (fun _ _ _ _ => trivial)⟩⟩ rfl rfl hl.1 rfl (lv_room (Nat.le_of_ble_eq_true rfl)) dX13_isClassConstant_39 ⟨Nat.le_of_ble_eq_true rfl, Nat.le_of_ble_eq_true rfl⟩) hS (fun q _ h => hFc q h) hFc ?_
      clear hS
      intro r_6 u t H1 locs ht hvm hw hB hz1 hk1 hS
      obtain ⟨z_2, rfl⟩ : ∃ z, z = u := ⟨_, rfl⟩
      obtain ⟨hP1, hK1, hD1⟩ := hB
      rw [ht] at hP1
      have hK1 := va_K.moved hvm.symm hK1
      try dsimp only at hw
      have hPD := va_join (wr := [(qf112, .inl (cf112, 6000, .inl f112))]) (w1 := [(h0, .inr (13, z_2)), (qf103, .inl (cf103, 8, .inl f103)), (qf102, .inl (cf102, 2048, .inl f102))]) hP hD [1, 2, 3] [0] rfl rfl (by decide) (by decide) hk1 hFc hP1 hD1
      clear hP hD
      obtain ⟨hP, hD⟩ := hPD
      replace hK := (hK.sub (tys' := [(cf112, .int)]) [0] rfl).app hK1
      clear hPc hDc hKc hFc hP1 hK1 hD1 hz1 hk1 ht hvm
      generalize H1 = H at hP hS ⊢
      replace hP : va_P (dC, dI) vwCl [(qf112, .inl (cf112, 6000, .inl f112)), (h0, .inr (13, z_2)), (qf103, .inl (cf103, 8, .inl f103)), (qf102, .inl (cf102, 2048, .inl f102))] H := hP
      replace hD : va_D A [(qf112, .inl (cf112, 6000, .inl f112)), (h0, .inr (13, z_2)), (qf103, .inl (cf103, 8, .inl f103)), (qf102, .inl (cf102, 2048, .inl f102))] := hD
      replace hK : va_K (dC, dI) vwCl [(cf112, .int), (cf103, .int), (cf102, .int)] s := hK
      obtain ⟨hwa_2, hln_2, hre_2⟩ := hw
      have hfk_2_102 : z_2[102]? = some (.ref qf102) := (hre_2 102 ).trans (hfk_1_102)
      have hfk_2_103 : z_2[103]? = some (.ref qf103) := (hre_2 103 ).trans (hfk_1_103)
      have hfk_2_112 : z_2[112]? = some (.ref qf112) := (hre_2 112 ).trans (hfk_1_112)
      have hfk_2_115 : z_2[115]? = some (.int v115) := (hre_2 115 ).trans (hfk_1_115)
      have hrq_2 : ∀ j : Nat, z_2[j]? = zs[j]? := fun j  => (hre_2 j ).trans (hrq_1 j )
      obtain rfl := hwa_2
      refine lv_istore (lv' := [(4, .int u2_0), (3, .int u1_0), (0, .ref h0), (1, .int a1), (2, .int a2)]) hx hb dX13_isClassConstant_42 hl (by decide) rfl (fun ls hl => ?_)
      refine lv_iload_n hx hb dX13_isClassConstant_44 rfl (lv_at hl 4 rfl) ?_
      refine lv_if_ne (tgt := 78) hx hb dX13_isClassConstant_45 (by decide) (fun c_7 => ?_) (fun c_7 => ?_)
      · rw [if_neg c_7] at hsp
        refine lv_iconst (v := 1) hx hb dX13_isClassConstant_78 (by decide) ?_
        refine lv_goto (tgt := 83) hx hb dX13_isClassConstant_79 (by decide) ?_
        have hr0 := Option.some.inj hsp
        clear hsp
        subst hr0
        have hP9 := hP.sub (ws' := [(h0, .inr (13, z_2)), (qf103, .inl (cf103, 8, .inl f103)), (qf102, .inl (cf102, 2048, .inl f102)), (qf112, .inl (cf112, 6000, .inl f112))]) [1, 2, 3, 0] rfl
        have hD9 := hD.sub (ws' := [(h0, .inr (13, z_2)), (qf103, .inl (cf103, 8, .inl f103)), (qf102, .inl (cf102, 2048, .inl f102)), (qf112, .inl (cf112, 6000, .inl f112))]) [1, 2, 3, 0] (by decide) rfl
        have hK9 := hK.sub (tys' := [(cf103, .int), (cf102, .int), (cf112, .int)]) [1, 2, 0] rfl
        exact W.zret hx hb hr (by decide) (fun t ht hW => ⟨⟨(1), (z_2), rfl, ⟨⟨rfl, Or.inr rfl⟩, hln_2, hrq_2⟩, by rw [ht]; exact hP9, va_K.moved hW.alike hK9, hD9⟩, hS.F ht⟩) hS.2.2 dX13_isClassConstant_83
      · rw [if_pos c_7] at hsp
        refine lv_iload hx hb dX13_isClassConstant_48 (lv_at hl 0 rfl) ?_
        refine lv_if_lt (tgt := 82) hx hb dX13_isClassConstant_50 (by decide) (fun c_8 => ?_) (fun c_8 => ?_)
        · rw [if_pos c_8] at hsp
          refine lv_iconst (v := 0) hx hb dX13_isClassConstant_82 (by decide) ?_
          have hr0 := Option.some.inj hsp
          clear hsp
          subst hr0
          have hP9 := hP.sub (ws' := [(h0, .inr (13, z_2)), (qf103, .inl (cf103, 8, .inl f103)), (qf102, .inl (cf102, 2048, .inl f102)), (qf112, .inl (cf112, 6000, .inl f112))]) [1, 2, 3, 0] rfl
          have hD9 := hD.sub (ws' := [(h0, .inr (13, z_2)), (qf103, .inl (cf103, 8, .inl f103)), (qf102, .inl (cf102, 2048, .inl f102)), (qf112, .inl (cf112, 6000, .inl f112))]) [1, 2, 3, 0] (by decide) rfl
          have hK9 := hK.sub (tys' := [(cf103, .int), (cf102, .int), (cf112, .int)]) [1, 2, 0] rfl
          exact W.zret hx hb hr (by decide) (fun t ht hW => ⟨⟨(0), (z_2), rfl, ⟨⟨rfl, Or.inl rfl⟩, hln_2, hrq_2⟩, by rw [ht]; exact hP9, va_K.moved hW.alike hK9, hD9⟩, hS.F ht⟩) hS.2.2 dX13_isClassConstant_83
        · rw [if_neg c_8] at hsp
          refine lv_aload_n hx hb dX13_isClassConstant_53 rfl (lv_at hl 2 rfl) ?_
          refine va_get (D := (dC, dI)) (ci := 13) (v := .ref qf112) (C := RX13) (T := TX13) (N := 155) hx hb hts uV_h6_X13 hown hK hP 1 rfl rfl 112 (by decide) (hts (.fieldLink RX13 245 "ClassMillModel" "look" "[I") mw_h6_101) (fun _ h9 => h9) hfk_2_112 dX13_isClassConstant_54 ?_
          refine lv_iload hx hb dX13_isClassConstant_57 (lv_at hl 0 rfl) ?_
          obtain ⟨hi_9, hsp⟩ := ox_in hsp
          refine va_iald hx hb hK hP 0 0 rfl rfl (i := u2_0) hi_9 dX13_isClassConstant_59 ?_
          refine lv_iconst (v := 1) hx hb dX13_isClassConstant_60 (by decide) ?_
          refine lv_icmp_ne (tgt := 82) hx hb dX13_isClassConstant_61 (by decide) (fun c_10 => ?_) (fun c_10 => ?_)
          · rw [if_neg c_10] at hsp
            refine lv_iconst (v := 0) hx hb dX13_isClassConstant_82 (by decide) ?_
            have hr0 := Option.some.inj hsp
            clear hsp
            subst hr0
            have hP9 := hP.sub (ws' := [(h0, .inr (13, z_2)), (qf103, .inl (cf103, 8, .inl f103)), (qf102, .inl (cf102, 2048, .inl f102)), (qf112, .inl (cf112, 6000, .inl f112))]) [1, 2, 3, 0] rfl
            have hD9 := hD.sub (ws' := [(h0, .inr (13, z_2)), (qf103, .inl (cf103, 8, .inl f103)), (qf102, .inl (cf102, 2048, .inl f102)), (qf112, .inl (cf112, 6000, .inl f112))]) [1, 2, 3, 0] (by decide) rfl
            have hK9 := hK.sub (tys' := [(cf103, .int), (cf102, .int), (cf112, .int)]) [1, 2, 0] rfl
            exact W.zret hx hb hr (by decide) (fun t ht hW => ⟨⟨(0), (z_2), rfl, ⟨⟨rfl, Or.inl rfl⟩, hln_2, hrq_2⟩, by rw [ht]; exact hP9, va_K.moved hW.alike hK9, hD9⟩, hS.F ht⟩) hS.2.2 dX13_isClassConstant_83
          · rw [if_pos c_10] at hsp
            refine lv_aload_n hx hb dX13_isClassConstant_64 rfl (lv_at hl 2 rfl) ?_
            refine va_get (D := (dC, dI)) (ci := 13) (v := .ref qf112) (C := RX13) (T := TX13) (N := 155) hx hb hts uV_h6_X13 hown hK hP 1 rfl rfl 112 (by decide) (hts (.fieldLink RX13 245 "ClassMillModel" "look" "[I") mw_h6_101) (fun _ h9 => h9) hfk_2_112 dX13_isClassConstant_65 ?_
            refine lv_iload hx hb dX13_isClassConstant_68 (lv_at hl 0 rfl) ?_
            refine lv_iconst (v := 2) hx hb dX13_isClassConstant_70 (by decide) ?_
            refine lv_iadd hx hb dX13_isClassConstant_71 ?_
            obtain ⟨hi_11, hsp⟩ := ox_in hsp
            refine va_iald hx hb hK hP 0 0 rfl rfl (i := (u2_0 + 2)) hi_11 dX13_isClassConstant_72 ?_
            refine lv_bipush (v := 91) hx hb dX13_isClassConstant_73 (by decide) ?_
            refine lv_icmp_eq (tgt := 82) hx hb dX13_isClassConstant_75 (by decide) (fun c_12 => ?_) (fun c_12 => ?_)
            · rw [if_pos c_12] at hsp
              refine lv_iconst (v := 0) hx hb dX13_isClassConstant_82 (by decide) ?_
              have hr0 := Option.some.inj hsp
              clear hsp
              subst hr0
              have hP9 := hP.sub (ws' := [(h0, .inr (13, z_2)), (qf103, .inl (cf103, 8, .inl f103)), (qf102, .inl (cf102, 2048, .inl f102)), (qf112, .inl (cf112, 6000, .inl f112))]) [1, 2, 3, 0] rfl
              have hD9 := hD.sub (ws' := [(h0, .inr (13, z_2)), (qf103, .inl (cf103, 8, .inl f103)), (qf102, .inl (cf102, 2048, .inl f102)), (qf112, .inl (cf112, 6000, .inl f112))]) [1, 2, 3, 0] (by decide) rfl
              have hK9 := hK.sub (tys' := [(cf103, .int), (cf102, .int), (cf112, .int)]) [1, 2, 0] rfl
              exact W.zret hx hb hr (by decide) (fun t ht hW => ⟨⟨(0), (z_2), rfl, ⟨⟨rfl, Or.inl rfl⟩, hln_2, hrq_2⟩, by rw [ht]; exact hP9, va_K.moved hW.alike hK9, hD9⟩, hS.F ht⟩) hS.2.2 dX13_isClassConstant_83
            · rw [if_neg c_12] at hsp
              refine lv_iconst (v := 1) hx hb dX13_isClassConstant_78 (by decide) ?_
              refine lv_goto (tgt := 83) hx hb dX13_isClassConstant_79 (by decide) ?_
              have hr0 := Option.some.inj hsp
              clear hsp
              subst hr0
              have hP9 := hP.sub (ws' := [(h0, .inr (13, z_2)), (qf103, .inl (cf103, 8, .inl f103)), (qf102, .inl (cf102, 2048, .inl f102)), (qf112, .inl (cf112, 6000, .inl f112))]) [1, 2, 3, 0] rfl
              have hD9 := hD.sub (ws' := [(h0, .inr (13, z_2)), (qf103, .inl (cf103, 8, .inl f103)), (qf102, .inl (cf102, 2048, .inl f102)), (qf112, .inl (cf112, 6000, .inl f112))]) [1, 2, 3, 0] (by decide) rfl
              have hK9 := hK.sub (tys' := [(cf103, .int), (cf102, .int), (cf112, .int)]) [1, 2, 0] rfl
              exact W.zret hx hb hr (by decide) (fun t ht hW => ⟨⟨(1), (z_2), rfl, ⟨⟨rfl, Or.inr rfl⟩, hln_2, hrq_2⟩, by rw [ht]; exact hP9, va_K.moved hW.alike hK9, hD9⟩, hS.F ht⟩) hS.2.2 dX13_isClassConstant_83
    · rw [if_neg c_4] at hsp
      refine lv_iconst (v := 0) hx hb dX13_isClassConstant_24 (by decide) ?_
      have hr0 := Option.some.inj hsp
      clear hsp
      subst hr0
      have hP9 := hP.sub (ws' := [(h0, .inr (13, z_1)), (qf103, .inl (cf103, 8, .inl f103)), (qf102, .inl (cf102, 2048, .inl f102)), (qf112, .inl (cf112, 6000, .inl f112))]) [1, 2, 3, 0] rfl
      have hD9 := hD.sub (ws' := [(h0, .inr (13, z_1)), (qf103, .inl (cf103, 8, .inl f103)), (qf102, .inl (cf102, 2048, .inl f102)), (qf112, .inl (cf112, 6000, .inl f112))]) [1, 2, 3, 0] (by decide) rfl
      have hK9 := hK.sub (tys' := [(cf103, .int), (cf102, .int), (cf112, .int)]) [1, 2, 0] rfl
      exact W.zret hx hb hr (by decide) (fun t ht hW => ⟨⟨(0), (z_1), rfl, ⟨⟨rfl, Or.inl rfl⟩, hln_1, hrq_1⟩, by rw [ht]; exact hP9, va_K.moved hW.alike hK9, hD9⟩, hS.F ht⟩) hS.2.2 dX13_isClassConstant_25
def lp_tn_install_2 (nf n : Nat) (a1 : Int32) (v113 : Int32) (f101 : Nat → Int32) (f112 : Nat → Int32) (f100 : Nat → Int32)  (l1_2 : Int32) (l2_2 : Int32) (g100_2 : Nat → Int32) (g101_2 : Nat → Int32) : Option (Int32 × (Nat → Int32) × (Nat → Int32)) := match n with
  | 0 => none
  | n + 1 => (if v113 ≤ l2_2 then (if l1_2 < 0 then none else if 8 ≤ (l1_2 : Int32).toNatClampNeg then none else (some ((8 + l1_2), g100_2, (upd g101_2 (l1_2 : Int32).toNatClampNeg v113)))) else (if l2_2 < 0 then none else if 6000 ≤ (l2_2 : Int32).toNatClampNeg then none else (if ((6000 * l1_2) + l2_2) < 0 then none else if 48000 ≤ (((6000 * l1_2) + l2_2) : Int32).toNatClampNeg then none else (lp_tn_install_2 nf n a1 v113 f101 f112 f100 l1_2 (l2_2 + 1) (upd g100_2 (((6000 * l1_2) + l2_2) : Int32).toNatClampNeg (f112 (l2_2 : Int32).toNatClampNeg)) g101_2))))
def sp_tn_install (nf : Nat) (a1 : Int32) (v113 : Int32) (f101 : Nat → Int32) (f112 : Nat → Int32) (f100 : Nat → Int32) : Option (Int32 × (Nat → Int32) × (Nat → Int32)) := (lp_tn_install_2 nf nf a1 v113 f101 f112 f100 a1 0 f100 f101)
set_option maxHeartbeats 4000000 in
set_option maxRecDepth 100000 in
/-- ClassMillModel.install -/
theorem tn_install (l : Launch) (dC : Nat → ClassId) (dI : Nat → Nat → Nat) (sz : Nat) (h0 : Nat) (zs : (List Value)) (a1 : Int32) (qf100 : Nat) (qf101 : Nat) (qf112 : Nat) (v113 : Int32) (cf101 : ClassId) (f101 : (Nat → Int32)) (cf112 : ClassId) (f112 : (Nat → Int32)) (cf100 : ClassId) (f100 : (Nat → Int32)) (nf : Nat) (r0 : Int32) (o100 : (Nat → Int32)) (o101 : (Nat → Int32)) (hlen : zs.length = 155) (hf100 : zs[100]? = some (.ref qf100)) (hf101 : zs[101]? = some (.ref qf101)) (hf112 : zs[112]? = some (.ref qf112)) (hf113 : zs[113]? = some (.int v113)) (hsp : sp_tn_install nf a1 v113 f101 f112 f100 = some (r0, o100, o101)) : Met l yX13_install (.code yX13_install cX13_install 3 (some .int) :: VS_h6) ({ frames := 0, cells := 0, slots := 0, locals := 0 }) (va_Pc [.ref h0, .int a1] (fun U => U.heap.size = sz ∧ va_P (dC, dI) vwCl [(h0, .inr (13, zs)), (qf101, .inl (cf101, 8, .inl f101)), (qf112, .inl (cf112, 6000, .inl f112)), (qf100, .inl (cf100, 48000, .inl f100))] U.heap ∧ va_K (dC, dI) vwCl [(cf101, .int), (cf112, .int), (cf100, .int)] U ∧ va_D (fun _ => True) [(h0, .inr (13, zs)), (qf101, .inl (cf101, 8, .inl f101)), (qf112, .inl (cf112, 6000, .inl f112)), (qf100, .inl (cf100, 48000, .inl f100))])) (va_Qi (fun (r : Int32) (u : (List Value)) => match u with | (zo1) => r0 = r ∧ zo1.length = 155 ∧ (∀ j : Nat, zo1[j]? = zs[j]?)) (fun (u : (List Value)) (t : State) => match u with | (zo1) => va_P (dC, dI) vwCl [(h0, .inr (13, zo1)), (qf101, .inl (cf101, 8, .inl o101)), (qf112, .inl (cf112, 6000, .inl f112)), (qf100, .inl (cf100, 48000, .inl o100))] t.heap ∧ va_K (dC, dI) vwCl [(cf101, .int), (cf112, .int), (cf100, .int)] t ∧ va_D (va_A [(h0, .inr (13, zs)), (qf101, .inl (cf101, 8, .inl f101)), (qf112, .inl (cf112, 6000, .inl f112)), (qf100, .inl (cf100, 48000, .inl f100))] sz) [(h0, .inr (13, zo1)), (qf101, .inl (cf101, 8, .inl o101)), (qf112, .inl (cf112, 6000, .inl f112)), (qf100, .inl (cf100, 48000, .inl o100))]) (va_A [(h0, .inr (13, zs)), (qf101, .inl (cf101, 8, .inl f101)), (qf112, .inl (cf112, 6000, .inl f112)), (qf100, .inl (cf100, 48000, .inl f100))] sz)) 0 0 (va_A [(h0, .inr (13, zs)), (qf101, .inl (cf101, 8, .inl f101)), (qf112, .inl (cf112, 6000, .inl f112)), (qf100, .inl (cf100, 48000, .inl f100))] sz) := by
  refine Met.ofW (cc := cX13_install) (maxL := 3) (ret := (some .int)) (by decide) rfl ?_
  intro p e s m args below meth c s₁ B hml hv
  obtain ⟨rfl, hsz, hP, hK, hD0⟩ := hv
  have hx := B.exec
  have hb := B.bytes
  have hr := B.returns
  have hts := atoms_spec (ws := (.code yX13_install cX13_install 3 (some .int) :: VS_h6)) B.pre
  replace hts := fun w (h : w ∈ VS_h6) => hts w (List.mem_cons_of_mem _ h)
  have hown : s.vm.findClass RX13 = some m.cls := findClass_of_methodNamed B.named
  have hlocks := B.notSynchronized
  subst hsz
  have hD := hD0.self (sz := s.heap.size)
  generalize hAe : va_A [(h0, .inr (13, zs)), (qf101, .inl (cf101, 8, .inl f101)), (qf112, .inl (cf112, 6000, .inl f112)), (qf100, .inl (cf100, 48000, .inl f100))] s.heap.size = A at hD  ⊢
  have hA : ∀ q : Nat, s.heap.size ≤ q → A q := fun q h => by rw [← hAe]; exact Or.inr h
  have hP : va_P (dC, dI) vwCl [(h0, .inr (13, zs)), (qf101, .inl (cf101, 8, .inl f101)), (qf112, .inl (cf112, 6000, .inl f112)), (qf100, .inl (cf100, 48000, .inl f100))] s.heap := hP
  have hl := lv_entry ([.ref h0, .int a1]) (n := 3) (Nat.le_of_ble_eq_true rfl)
  rw [lg_entry_eq]
  generalize (lg_sl ([.ref h0, .int a1]) ++ List.replicate (3 - (lg_sl ([.ref h0, .int a1])).length) Slot.unset).toArray = ls at hl ⊢
  have hl : lv_has ls 3 [(0, .ref h0), (1, .int a1)] := hl
  obtain ⟨H, hH⟩ : ∃ H : Heap, s.heap = H := ⟨_, rfl⟩
  rw [hH] at hP ⊢
  have hS : va_S A s.heap H [] := by rw [← hH]; exact va_S.rf
  obtain ⟨locs, hlo⟩ : ∃ locs : List Loc, locs = [] := ⟨_, rfl⟩
  rw [← hlo] at hS ⊢
  have hrs0 : ∀ j : Nat, zs[j]? = zs[j]? := fun _  => rfl
  unfold sp_tn_install at hsp
  refine lv_iconst (v := 0) hx hb dX13_install_0 (by decide) ?_
  refine lv_istore_n (lv' := [(2, .int 0), (0, .ref h0), (1, .int a1)]) hx hb dX13_install_1 rfl hl (by decide) rfl (fun ls hl => ?_)
  replace hP := hP.sub (ws' := [(h0, .inr (13, zs)), (qf101, .inl (cf101, 8, .inl f101)), (qf112, .inl (cf112, 6000, .inl f112)), (qf100, .inl (cf100, 48000, .inl f100))]) [0, 1, 2, 3] rfl
  replace hD := hD.sub (ws' := [(h0, .inr (13, zs)), (qf101, .inl (cf101, 8, .inl f101)), (qf112, .inl (cf112, 6000, .inl f112)), (qf100, .inl (cf100, 48000, .inl f100))]) [0, 1, 2, 3] (by decide) rfl
  replace hK := hK.sub (tys' := [(cf101, .int), (cf112, .int), (cf100, .int)]) [0, 1, 2] rfl
  obtain ⟨n_2, hn_2⟩ : ∃ z : Nat, z = nf := ⟨_, rfl⟩
  obtain ⟨z2, ez2⟩ : ∃ z : List Value, z = zs := ⟨_, rfl⟩
  obtain ⟨l1_2, el1_2⟩ : ∃ z : Int32, z = a1 := ⟨_, rfl⟩
  obtain ⟨l2_2, el2_2⟩ : ∃ z : Int32, z = 0 := ⟨_, rfl⟩
  obtain ⟨g100_2, eg100_2⟩ : ∃ z : Nat → Int32, z = f100 := ⟨_, rfl⟩
  obtain ⟨g101_2, eg101_2⟩ : ∃ z : Nat → Int32, z = f101 := ⟨_, rfl⟩
  replace hsp : lp_tn_install_2 nf n_2 a1 v113 f101 f112 f100 l1_2 l2_2 g100_2 g101_2 = some (r0, o100, o101) := by rw [hn_2, el1_2, el2_2, eg100_2, eg101_2]; exact hsp
  replace hl : lv_has ls 3 [(2, .int l2_2), (0, .ref h0), (1, .int l1_2)] := by rw [el1_2, el2_2]; exact hl
  have hfh_2_100 : z2[100]? = some (.ref qf100) := by rw [ez2]; exact hf100
  have hfh_2_101 : z2[101]? = some (.ref qf101) := by rw [ez2]; exact hf101
  have hfh_2_112 : z2[112]? = some (.ref qf112) := by rw [ez2]; exact hf112
  have hfh_2_113 : z2[113]? = some (.int v113) := by rw [ez2]; exact hf113
  have hlh_2 : z2.length = 155 := by rw [ez2]; exact hlen
  have hrh_2 : ∀ j : Nat, z2[j]? = zs[j]? := by rw [ez2]; exact hrs0
  replace hP : va_P (dC, dI) vwCl [(h0, .inr (13, z2)), (qf101, .inl (cf101, 8, .inl g101_2)), (qf112, .inl (cf112, 6000, .inl f112)), (qf100, .inl (cf100, 48000, .inl g100_2))] H := by rw [ez2, eg100_2, eg101_2]; exact hP
  replace hD : va_D A [(h0, .inr (13, z2)), (qf101, .inl (cf101, 8, .inl g101_2)), (qf112, .inl (cf112, 6000, .inl f112)), (qf100, .inl (cf100, 48000, .inl g100_2))] := by rw [ez2, eg100_2, eg101_2]; exact hD
  clear hn_2 ez2 el1_2 el2_2 eg100_2 eg101_2
  try clear hlo
  try clear hH
  revert hsp
  revert hP
  revert hD
  revert hS
  revert hl
  revert hrh_2
  revert hlh_2
  revert hfh_2_113
  revert hfh_2_112
  revert hfh_2_101
  revert hfh_2_100
  revert g101_2
  revert g100_2
  revert l2_2
  revert l1_2
  revert z2
  revert ls
  revert locs
  revert H
  induction n_2 with
  | zero => intro H locs ls z2 l1_2 l2_2 g100_2 g101_2 hfh_2_100 hfh_2_101 hfh_2_112 hfh_2_113 hlh_2 hrh_2 hl hS hD hP hsp; unfold lp_tn_install_2 at hsp; cases hsp
  | succ n_2 ih_2 =>
    intro H locs ls z2 l1_2 l2_2 g100_2 g101_2 hfh_2_100 hfh_2_101 hfh_2_112 hfh_2_113 hlh_2 hrh_2 hl hS hD hP hsp
    unfold lp_tn_install_2 at hsp
    try dsimp only at hsp
    refine lv_iload_n hx hb dX13_install_2 rfl (lv_at hl 0 rfl) ?_
    refine lv_aload_n hx hb dX13_install_3 rfl (lv_at hl 1 rfl) ?_
    refine va_get (D := (dC, dI)) (ci := 13) (v := .int v113) (C := RX13) (T := TX13) (N := 155) hx hb hts uV_h6_X13 hown hK hP 0 rfl rfl 113 (by decide) (hts (.fieldLink RX13 767 "ClassMillModel" "lookSize" "I") mw_h6_102) (fun _ h9 => h9) hfh_2_113 dX13_install_4 ?_
    refine lv_icmp_ge (tgt := 34) hx hb dX13_install_7 (by decide) (fun c_1 => ?_) (fun c_1 => ?_)
    · rw [if_pos c_1] at hsp
      refine lv_aload_n hx hb dX13_install_34 rfl (lv_at hl 1 rfl) ?_
      refine va_get (D := (dC, dI)) (ci := 13) (v := .ref qf101) (C := RX13) (T := TX13) (N := 155) hx hb hts uV_h6_X13 hown hK hP 0 rfl rfl 101 (by decide) (hts (.fieldLink RX13 212 "ClassMillModel" "byteMany" "[I") mw_h6_103) (fun _ h9 => h9) hfh_2_101 dX13_install_35 ?_
      refine lv_iload_n hx hb dX13_install_38 rfl (lv_at hl 2 rfl) ?_
      refine lv_aload_n hx hb dX13_install_39 rfl (lv_at hl 1 rfl) ?_
      refine va_get (D := (dC, dI)) (ci := 13) (v := .int v113) (C := RX13) (T := TX13) (N := 155) hx hb hts uV_h6_X13 hown hK hP 0 rfl rfl 113 (by decide) (hts (.fieldLink RX13 767 "ClassMillModel" "lookSize" "I") mw_h6_102) (fun _ h9 => h9) hfh_2_113 dX13_install_40 ?_
      obtain ⟨hi_2, hsp⟩ := ox_in hsp
      refine va_iast hx hb hK hP hD hS 1 0 rfl rfl (i := l1_2) (x := v113) hi_2 dX13_install_43 ?_
      clear hP hD hS
      intro H locs hP hD hS
      replace hP : va_P (dC, dI) vwCl [(h0, .inr (13, z2)), (qf101, .inl (cf101, 8, .inl (upd g101_2 (l1_2 : Int32).toNatClampNeg v113))), (qf112, .inl (cf112, 6000, .inl f112)), (qf100, .inl (cf100, 48000, .inl g100_2))] H := hP
      replace hD : va_D A [(h0, .inr (13, z2)), (qf101, .inl (cf101, 8, .inl (upd g101_2 (l1_2 : Int32).toNatClampNeg v113))), (qf112, .inl (cf112, 6000, .inl f112)), (qf100, .inl (cf100, 48000, .inl g100_2))] := hD
      refine lv_bipush (v := 8) hx hb dX13_install_44 (by decide) ?_
      refine lv_iload_n hx hb dX13_install_46 rfl (lv_at hl 2 rfl) ?_
      refine lv_iadd hx hb dX13_install_47 ?_
      have hr0 := Option.some.inj hsp
      clear hsp
      obtain ⟨hq0, hr1⟩ := Prod.mk.inj hr0
      clear hr0
      obtain ⟨hq1, hr2⟩ := Prod.mk.inj hr1
      clear hr1
      subst hq0
      subst hq1
      subst hr2
      have hP9 := hP.sub (ws' := [(h0, .inr (13, z2)), (qf101, .inl (cf101, 8, .inl (upd g101_2 (l1_2 : Int32).toNatClampNeg v113))), (qf112, .inl (cf112, 6000, .inl f112)), (qf100, .inl (cf100, 48000, .inl g100_2))]) [0, 1, 2, 3] rfl
      have hD9 := hD.sub (ws' := [(h0, .inr (13, z2)), (qf101, .inl (cf101, 8, .inl (upd g101_2 (l1_2 : Int32).toNatClampNeg v113))), (qf112, .inl (cf112, 6000, .inl f112)), (qf100, .inl (cf100, 48000, .inl g100_2))]) [0, 1, 2, 3] (by decide) rfl
      have hK9 := hK.sub (tys' := [(cf101, .int), (cf112, .int), (cf100, .int)]) [0, 1, 2] rfl
      exact W.iret hx hb hr (fun t ht hW => ⟨⟨((8 + l1_2)), (z2), rfl, ⟨rfl, hlh_2, hrh_2⟩, by rw [ht]; exact hP9, va_K.moved hW.alike hK9, hD9⟩, hS.F ht⟩) hS.2.2 dX13_install_48
    · rw [if_neg c_1] at hsp
      refine lv_aload_n hx hb dX13_install_10 rfl (lv_at hl 1 rfl) ?_
      refine va_get (D := (dC, dI)) (ci := 13) (v := .ref qf100) (C := RX13) (T := TX13) (N := 155) hx hb hts uV_h6_X13 hown hK hP 0 rfl rfl 100 (by decide) (hts (.fieldLink RX13 209 "ClassMillModel" "bytes" "[I") mw_h6_104) (fun _ h9 => h9) hfh_2_100 dX13_install_11 ?_
      refine lv_sipush (v := 6000) hx hb dX13_install_14 (by decide) ?_
      refine lv_iload_n hx hb dX13_install_17 rfl (lv_at hl 2 rfl) ?_
      refine lv_imul hx hb dX13_install_18 ?_
      refine lv_iload_n hx hb dX13_install_19 rfl (lv_at hl 0 rfl) ?_
      refine lv_iadd hx hb dX13_install_20 ?_
      refine lv_aload_n hx hb dX13_install_21 rfl (lv_at hl 1 rfl) ?_
      refine va_get (D := (dC, dI)) (ci := 13) (v := .ref qf112) (C := RX13) (T := TX13) (N := 155) hx hb hts uV_h6_X13 hown hK hP 0 rfl rfl 112 (by decide) (hts (.fieldLink RX13 245 "ClassMillModel" "look" "[I") mw_h6_101) (fun _ h9 => h9) hfh_2_112 dX13_install_22 ?_
      refine lv_iload_n hx hb dX13_install_25 rfl (lv_at hl 0 rfl) ?_
      obtain ⟨hi_3, hsp⟩ := ox_in hsp
      refine va_iald hx hb hK hP 2 1 rfl rfl (i := l2_2) hi_3 dX13_install_26 ?_
      obtain ⟨hi_4, hsp⟩ := ox_in hsp
      refine va_iast hx hb hK hP hD hS 3 2 rfl rfl (i := ((6000 * l1_2) + l2_2)) (x := (f112 (l2_2 : Int32).toNatClampNeg)) hi_4 dX13_install_27 ?_
      clear hP hD hS
      intro H locs hP hD hS
      replace hP : va_P (dC, dI) vwCl [(h0, .inr (13, z2)), (qf101, .inl (cf101, 8, .inl g101_2)), (qf112, .inl (cf112, 6000, .inl f112)), (qf100, .inl (cf100, 48000, .inl (upd g100_2 (((6000 * l1_2) + l2_2) : Int32).toNatClampNeg (f112 (l2_2 : Int32).toNatClampNeg))))] H := hP
      replace hD : va_D A [(h0, .inr (13, z2)), (qf101, .inl (cf101, 8, .inl g101_2)), (qf112, .inl (cf112, 6000, .inl f112)), (qf100, .inl (cf100, 48000, .inl (upd g100_2 (((6000 * l1_2) + l2_2) : Int32).toNatClampNeg (f112 (l2_2 : Int32).toNatClampNeg))))] := hD
      refine lv_iinc (v := (l2_2 + 1)) (lv' := [(2, .int (l2_2 + 1)), (0, .ref h0), (1, .int l1_2)]) hx hb dX13_install_28 hl (k := 0) rfl rfl (by decide) rfl (fun ls hl => ?_)
      refine lv_goto (tgt := 2) hx hb dX13_install_31 (by decide) ?_
      exact ih_2 H locs ls z2 l1_2 (l2_2 + 1) (upd g100_2 (((6000 * l1_2) + l2_2) : Int32).toNatClampNeg (f112 (l2_2 : Int32).toNatClampNeg)) g101_2 (hfh_2_100) (hfh_2_101) (hfh_2_112) (hfh_2_113) hlh_2 hrh_2 (lv_sub hl [0, 1, 2] rfl) hS (hD.sub (ws' := [(h0, .inr (13, z2)), (qf101, .inl (cf101, 8, .inl g101_2)), (qf112, .inl (cf112, 6000, .inl f112)), (qf100, .inl (cf100, 48000, .inl (upd g100_2 (((6000 * l1_2) + l2_2) : Int32).toNatClampNeg (f112 (l2_2 : Int32).toNatClampNeg))))]) [0, 1, 2, 3] (by decide) rfl) (hP.sub (ws' := [(h0, .inr (13, z2)), (qf101, .inl (cf101, 8, .inl g101_2)), (qf112, .inl (cf112, 6000, .inl f112)), (qf100, .inl (cf100, 48000, .inl (upd g100_2 (((6000 * l1_2) + l2_2) : Int32).toNatClampNeg (f112 (l2_2 : Int32).toNatClampNeg))))]) [0, 1, 2, 3] rfl) hsp
def lp_tn_typesEnd_17 (nf n : Nat) (a1 : Int32) (v132 : Int32) (f100 : Nat → Int32)  (l1_17 : Int32) (l2_17 : Int32) (l3_17 : Int32) (l4_17 : Int32) : Option (Int32) := match n with
  | 0 => none
  | n + 1 => (if l2_17 ≤ l4_17 then (some l3_17) else ((sp_tm_byteAt nf v132 l3_17 f100).bind (fun p2 => (if p2 = 3 then (lp_tn_typesEnd_17 nf n a1 v132 f100 l1_17 l2_17 (l3_17 + 2) (l4_17 + 1)) else (lp_tn_typesEnd_17 nf n a1 v132 f100 l1_17 l2_17 (l3_17 + 1) (l4_17 + 1))))))
def sp_tn_typesEnd (nf : Nat) (a1 : Int32) (v132 : Int32) (f100 : Nat → Int32) : Option (Int32) := ((sp_tm_byteAt nf v132 a1 f100).bind (fun p1 => (lp_tn_typesEnd_17 nf nf a1 v132 f100 a1 p1 (a1 + 1) 0)))

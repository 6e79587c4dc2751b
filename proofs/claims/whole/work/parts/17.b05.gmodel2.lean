set_option maxHeartbeats 4000000 in
set_option maxRecDepth 100000 in
/-- ClassMillModel.isLed -/
theorem tn_isLed (l : Launch) (dC : Nat → ClassId) (dI : Nat → Nat → Nat) (sz : Nat) (h0 : Nat) (zs : (List Value)) (a1 : Int32) (qf2 : Nat) (qf5 : Nat) (qf6 : Nat) (qf11 : Nat) (qf12 : Nat) (qf14 : Nat) (qf21 : Nat) (qf27 : Nat) (v28 : Int32) (qf29 : Nat) (qf30 : Nat) (qf34 : Nat) (qf48 : Nat) (v50 : Int32) (v52 : Int32) (cf11 : ClassId) (f11 : (Nat → Int32)) (cf14 : ClassId) (f14 : (Nat → Int32)) (cf21 : ClassId) (f21 : (Nat → Int32)) (cf12 : ClassId) (f12 : (Nat → Int32)) (cf48 : ClassId) (f48 : (Nat → Int32)) (cf6 : ClassId) (f6 : (Nat → Int32)) (cf5 : ClassId) (f5 : (Nat → Int32)) (cf2 : ClassId) (f2 : (Nat → Int32)) (cf27 : ClassId) (f27 : (Nat → Int32)) (cf29 : ClassId) (f29 : (Nat → Int32)) (cf30 : ClassId) (f30 : (Nat → Int32)) (cf34 : ClassId) (f34 : (Nat → Int32)) (nf : Nat) (r0 : Int32) (hlen : zs.length = 155) (hf2 : zs[2]? = some (.ref qf2)) (hf5 : zs[5]? = some (.ref qf5)) (hf6 : zs[6]? = some (.ref qf6)) (hf11 : zs[11]? = some (.ref qf11)) (hf12 : zs[12]? = some (.ref qf12)) (hf14 : zs[14]? = some (.ref qf14)) (hf21 : zs[21]? = some (.ref qf21)) (hf27 : zs[27]? = some (.ref qf27)) (hf28 : zs[28]? = some (.int v28)) (hf29 : zs[29]? = some (.ref qf29)) (hf30 : zs[30]? = some (.ref qf30)) (hf34 : zs[34]? = some (.ref qf34)) (hf48 : zs[48]? = some (.ref qf48)) (hf50 : zs[50]? = some (.int v50)) (hf52 : zs[52]? = some (.int v52)) (hsp : sp_tn_isLed nf a1 v28 v50 v52 f11 f14 f21 f12 f48 f6 f5 f2 f27 f29 f30 f34 = some r0) : Met l yX13_isLed (.code yX13_isLed cX13_isLed 3 (some .boolean) :: VS_h6) ({ frames := 3, cells := 0, slots := 0, locals := 71 }) (va_Pc [.ref h0, .int a1] (fun U => U.heap.size = sz ∧ va_P (dC, dI) vwCl [(h0, .inr (13, zs)), (qf11, .inl (cf11, 9000, .inl f11)), (qf14, .inl (cf14, 9000, .inl f14)), (qf21, .inl (cf21, 9000, .inl f21)), (qf12, .inl (cf12, 9000, .inl f12)), (qf48, .inl (cf48, 3000, .inl f48)), (qf6, .inl (cf6, 3002, .inl f6)), (qf5, .inl (cf5, 3002, .inl f5)), (qf2, .inl (cf2, 3000, .inl f2)), (qf27, .inl (cf27, 400, .inl f27)), (qf29, .inl (cf29, 800, .inl f29)), (qf30, .inl (cf30, 800, .inl f30)), (qf34, .inl (cf34, 800, .inl f34))] U.heap ∧ va_K (dC, dI) vwCl [(cf11, .int), (cf14, .int), (cf21, .boolean), (cf12, .int), (cf48, .int), (cf6, .int), (cf5, .int), (cf2, .int), (cf27, .int), (cf29, .int), (cf30, .int), (cf34, .int)] U ∧ va_D (fun _ => True) [(h0, .inr (13, zs)), (qf11, .inl (cf11, 9000, .inl f11)), (qf14, .inl (cf14, 9000, .inl f14)), (qf21, .inl (cf21, 9000, .inl f21)), (qf12, .inl (cf12, 9000, .inl f12)), (qf48, .inl (cf48, 3000, .inl f48)), (qf6, .inl (cf6, 3002, .inl f6)), (qf5, .inl (cf5, 3002, .inl f5)), (qf2, .inl (cf2, 3000, .inl f2)), (qf27, .inl (cf27, 400, .inl f27)), (qf29, .inl (cf29, 800, .inl f29)), (qf30, .inl (cf30, 800, .inl f30)), (qf34, .inl (cf34, 800, .inl f34))])) (va_Qi (fun (r : Int32) (u : (List Value)) => match u with | (zo1) => (r0 = r ∧ (r0 = 0 ∨ r0 = 1)) ∧ zo1.length = 155 ∧ (∀ j : Nat, zo1[j]? = zs[j]?)) (fun (u : (List Value)) (t : State) => match u with | (zo1) => va_P (dC, dI) vwCl [(h0, .inr (13, zo1)), (qf11, .inl (cf11, 9000, .inl f11)), (qf14, .inl (cf14, 9000, .inl f14)), (qf21, .inl (cf21, 9000, .inl f21)), (qf12, .inl (cf12, 9000, .inl f12)), (qf48, .inl (cf48, 3000, .inl f48)), (qf6, .inl (cf6, 3002, .inl f6)), (qf5, .inl (cf5, 3002, .inl f5)), (qf2, .inl (cf2, 3000, .inl f2)), (qf27, .inl (cf27, 400, .inl f27)), (qf29, .inl (cf29, 800, .inl f29)), (qf30, .inl (cf30, 800, .inl f30)), (qf34, .inl (cf34, 800, .inl f34))] t.heap ∧ va_K (dC, dI) vwCl [(cf11, .int), (cf14, .int), (cf21, .boolean), (cf12, .int), (cf48, .int), (cf6, .int), (cf5, .int), (cf2, .int), (cf27, .int), (cf29, .int), (cf30, .int), (cf34, .int)] t ∧ va_D (va_A [(h0, .inr (13, zs)), (qf11, .inl (cf11, 9000, .inl f11)), (qf14, .inl (cf14, 9000, .inl f14)), (qf21, .inl (cf21, 9000, .inl f21)), (qf12, .inl (cf12, 9000, .inl f12)), (qf48, .inl (cf48, 3000, .inl f48)), (qf6, .inl (cf6, 3002, .inl f6)), (qf5, .inl (cf5, 3002, .inl f5)), (qf2, .inl (cf2, 3000, .inl f2)), (qf27, .inl (cf27, 400, .inl f27)), (qf29, .inl (cf29, 800, .inl f29)), (qf30, .inl (cf30, 800, .inl f30)), (qf34, .inl (cf34, 800, .inl f34))] sz) [(h0, .inr (13, zo1)), (qf11, .inl (cf11, 9000, .inl f11)), (qf14, .inl (cf14, 9000, .inl f14)), (qf21, .inl (cf21, 9000, .inl f21)), (qf12, .inl (cf12, 9000, .inl f12)), (qf48, .inl (cf48, 3000, .inl f48)), (qf6, .inl (cf6, 3002, .inl f6)), (qf5, .inl (cf5, 3002, .inl f5)), (qf2, .inl (cf2, 3000, .inl f2)), (qf27, .inl (cf27, 400, .inl f27)), (qf29, .inl (cf29, 800, .inl f29)), (qf30, .inl (cf30, 800, .inl f30)), (qf34, .inl (cf34, 800, .inl f34))]) (va_A [(h0, .inr (13, zs)), (qf11, .inl (cf11, 9000, .inl f11)), (qf14, .inl (cf14, 9000, .inl f14)), (qf21, .inl (cf21, 9000, .inl f21)), (qf12, .inl (cf12, 9000, .inl f12)), (qf48, .inl (cf48, 3000, .inl f48)), (qf6, .inl (cf6, 3002, .inl f6)), (qf5, .inl (cf5, 3002, .inl f5)), (qf2, .inl (cf2, 3000, .inl f2)), (qf27, .inl (cf27, 400, .inl f27)), (qf29, .inl (cf29, 800, .inl f29)), (qf30, .inl (cf30, 800, .inl f30)), (qf34, .inl (cf34, 800, .inl f34))] sz)) 0 0 (va_A [(h0, .inr (13, zs)), (qf11, .inl (cf11, 9000, .inl f11)), (qf14, .inl (cf14, 9000, .inl f14)), (qf21, .inl (cf21, 9000, .inl f21)), (qf12, .inl (cf12, 9000, .inl f12)), (qf48, .inl (cf48, 3000, .inl f48)), (qf6, .inl (cf6, 3002, .inl f6)), (qf5, .inl (cf5, 3002, .inl f5)), (qf2, .inl (cf2, 3000, .inl f2)), (qf27, .inl (cf27, 400, .inl f27)), (qf29, .inl (cf29, 800, .inl f29)), (qf30, .inl (cf30, 800, .inl f30)), (qf34, .inl (cf34, 800, .inl f34))] sz) := by
  refine Met.ofW (cc := cX13_isLed) (maxL := 3) (ret := (some .boolean)) (by decide) rfl ?_
  intro p e s m args below meth c s₁ B hml hv
  obtain ⟨rfl, hsz, hP, hK, hD0⟩ := hv
  have hx := B.exec
  have hb := B.bytes
  have hr := B.returns
  have hts := atoms_spec (ws := (.code yX13_isLed cX13_isLed 3 (some .boolean) :: VS_h6)) B.pre
  replace hts := fun w (h : w ∈ VS_h6) => hts w (List.mem_cons_of_mem _ h)
  have hown : s.vm.findClass RX13 = some m.cls := findClass_of_methodNamed B.named
  have hlocks := B.notSynchronized
  subst hsz
  have hD := hD0.self (sz := s.heap.size)
  generalize hAe : va_A [(h0, .inr (13, zs)), (qf11, .inl (cf11, 9000, .inl f11)), (qf14, .inl (cf14, 9000, .inl f14)), (qf21, .inl (cf21, 9000, .inl f21)), (qf12, .inl (cf12, 9000, .inl f12)), (qf48, .inl (cf48, 3000, .inl f48)), (qf6, .inl (cf6, 3002, .inl f6)), (qf5, .inl (cf5, 3002, .inl f5)), (qf2, .inl (cf2, 3000, .inl f2)), (qf27, .inl (cf27, 400, .inl f27)), (qf29, .inl (cf29, 800, .inl f29)), (qf30, .inl (cf30, 800, .inl f30)), (qf34, .inl (cf34, 800, .inl f34))] s.heap.size = A at hD  ⊢
  have hA : ∀ q : Nat, s.heap.size ≤ q → A q := fun q h => by rw [← hAe]; exact Or.inr h
  have hP : va_P (dC, dI) vwCl [(h0, .inr (13, zs)), (qf11, .inl (cf11, 9000, .inl f11)), (qf14, .inl (cf14, 9000, .inl f14)), (qf21, .inl (cf21, 9000, .inl f21)), (qf12, .inl (cf12, 9000, .inl f12)), (qf48, .inl (cf48, 3000, .inl f48)), (qf6, .inl (cf6, 3002, .inl f6)), (qf5, .inl (cf5, 3002, .inl f5)), (qf2, .inl (cf2, 3000, .inl f2)), (qf27, .inl (cf27, 400, .inl f27)), (qf29, .inl (cf29, 800, .inl f29)), (qf30, .inl (cf30, 800, .inl f30)), (qf34, .inl (cf34, 800, .inl f34))] s.heap := hP
  have hl := lv_entry ([.ref h0, .int a1]) (n := 3) (Nat.le_of_ble_eq_true rfl)
  rw [lg_entry_eq]
  generalize (lg_sl ([.ref h0, .int a1]) ++ List.replicate (3 - (lg_sl ([.ref h0, .int a1])).length) Slot.unset).toArray = ls at hl ⊢
  have hl : lv_has ls 3 [(0, .ref h0), (1, .int a1)] := hl
  obtain ⟨H, hH⟩ : ∃ H : Heap, s.heap = H := ⟨_, rfl⟩
  rw [hH] at hP ⊢
  have hS : va_S A s.heap H [] := by rw [← hH]; exact va_S.rf
  obtain ⟨locs, hlo⟩ : ∃ locs : List Loc, locs = [] := ⟨_, rfl⟩
  rw [← hlo] at hS ⊢
  have hrs0 : ∀ j : Nat, zs[j]? = zs[j]? := fun _  => rfl
  unfold sp_tn_isLed at hsp
  refine lv_aload_n hx hb dX13_isLed_0 rfl (lv_at hl 0 rfl) ?_
  refine va_get (D := (dC, dI)) (ci := 13) (v := .ref qf11) (C := RX13) (T := TX13) (N := 155) hx hb hts uV_h6_X13 hown hK hP 0 rfl rfl 11 (by decide) (hts (.fieldLink RX13 28 "ClassMillModel" "node" "[I") mw_h6_54) (fun _ h9 => h9) hf11 dX13_isLed_1 ?_
  refine lv_iload_n hx hb dX13_isLed_4 rfl (lv_at hl 1 rfl) ?_
  obtain ⟨hi_1, hsp⟩ := ox_in hsp
  refine va_iald hx hb hK hP 1 0 rfl rfl (i := a1) hi_1 dX13_isLed_5 ?_
  refine lv_istore_n (lv' := [(2, .int (f11 (a1 : Int32).toNatClampNeg)), (0, .ref h0), (1, .int a1)]) hx hb dX13_isLed_6 rfl hl (by decide) rfl (fun ls hl => ?_)
  refine lv_iload_n hx hb dX13_isLed_7 rfl (lv_at hl 0 rfl) ?_
  refine lv_bipush (v := 37) hx hb dX13_isLed_8 (by decide) ?_
  refine lv_icmp_eq (tgt := 45) hx hb dX13_isLed_10 (by decide) (fun c_2 => ?_) (fun c_2 => ?_)
  · rw [if_pos c_2] at hsp
    refine lv_iconst (v := 1) hx hb dX13_isLed_45 (by decide) ?_
    refine lv_goto (tgt := 50) hx hb dX13_isLed_46 (by decide) ?_
    have hr0 := Option.some.inj hsp
    clear hsp
    subst hr0
    have hP9 := hP.sub (ws' := [(h0, .inr (13, zs)), (qf11, .inl (cf11, 9000, .inl f11)), (qf14, .inl (cf14, 9000, .inl f14)), (qf21, .inl (cf21, 9000, .inl f21)), (qf12, .inl (cf12, 9000, .inl f12)), (qf48, .inl (cf48, 3000, .inl f48)), (qf6, .inl (cf6, 3002, .inl f6)), (qf5, .inl (cf5, 3002, .inl f5)), (qf2, .inl (cf2, 3000, .inl f2)), (qf27, .inl (cf27, 400, .inl f27)), (qf29, .inl (cf29, 800, .inl f29)), (qf30, .inl (cf30, 800, .inl f30)), (qf34, .inl (cf34, 800, .inl f34))]) [0, 1, 2, 3, 4, 5, 6, 7, 8, 9, 10, 11, 12] rfl
    have hD9 := hD.sub (ws' := [(h0, .inr (13, zs)), (qf11, .inl (cf11, 9000, .inl f11)), (qf14, .inl (cf14, 9000, .inl f14)), (qf21, .inl (cf21, 9000, .inl f21)), (qf12, .inl (cf12, 9000, .inl f12)), (qf48, .inl (cf48, 3000, .inl f48)), (qf6, .inl (cf6, 3002, .inl f6)), (qf5, .inl (cf5, 3002, .inl f5)), (qf2, .inl (cf2, 3000, .inl f2)), (qf27, .inl (cf27, 400, .inl f27)), (qf29, .inl (cf29, 800, .inl f29)), (qf30, .inl (cf30, 800, .inl f30)), (qf34, .inl (cf34, 800, .inl f34))]) [0, 1, 2, 3, 4, 5, 6, 7, 8, 9, 10, 11, 12] (by decide) rfl
    have hK9 := hK.sub (tys' := [(cf11, .int), (cf14, .int), (cf21, .boolean), (cf12, .int), (cf48, .int), (cf6, .int), (cf5, .int), (cf2, .int), (cf27, .int), (cf29, .int), (cf30, .int), (cf34, .int)]) [0, 1, 2, 3, 4, 5, 6, 7, 8, 9, 10, 11] rfl
    exact W.zret hx hb hr (by decide) (fun t ht hW => ⟨⟨(1), (zs), rfl, ⟨⟨rfl, Or.inr rfl⟩, hlen, hrs0⟩, by rw [ht]; exact hP9, va_K.moved hW.alike hK9, hD9⟩, hS.F ht⟩) hS.2.2 dX13_isLed_50
  · rw [if_neg c_2] at hsp
    refine lv_iload_n hx hb dX13_isLed_13 rfl (lv_at hl 0 rfl) ?_
    refine lv_bipush (v := 38) hx hb dX13_isLed_14 (by decide) ?_
    refine lv_icmp_eq (tgt := 45) hx hb dX13_isLed_16 (by decide) (fun c_3 => ?_) (fun c_3 => ?_)
    · rw [if_pos c_3] at hsp
      refine lv_iconst (v := 1) hx hb dX13_isLed_45 (by decide) ?_
      refine lv_goto (tgt := 50) hx hb dX13_isLed_46 (by decide) ?_
      have hr0 := Option.some.inj hsp
      clear hsp
      subst hr0
      have hP9 := hP.sub (ws' := [(h0, .inr (13, zs)), (qf11, .inl (cf11, 9000, .inl f11)), (qf14, .inl (cf14, 9000, .inl f14)), (qf21, .inl (cf21, 9000, .inl f21)), (qf12, .inl (cf12, 9000, .inl f12)), (qf48, .inl (cf48, 3000, .inl f48)), (qf6, .inl (cf6, 3002, .inl f6)), (qf5, .inl (cf5, 3002, .inl f5)), (qf2, .inl (cf2, 3000, .inl f2)), (qf27, .inl (cf27, 400, .inl f27)), (qf29, .inl (cf29, 800, .inl f29)), (qf30, .inl (cf30, 800, .inl f30)), (qf34, .inl (cf34, 800, .inl f34))]) [0, 1, 2, 3, 4, 5, 6, 7, 8, 9, 10, 11, 12] rfl
      have hD9 := hD.sub (ws' := [(h0, .inr (13, zs)), (qf11, .inl (cf11, 9000, .inl f11)), (qf14, .inl (cf14, 9000, .inl f14)), (qf21, .inl (cf21, 9000, .inl f21)), (qf12, .inl (cf12, 9000, .inl f12)), (qf48, .inl (cf48, 3000, .inl f48)), (qf6, .inl (cf6, 3002, .inl f6)), (qf5, .inl (cf5, 3002, .inl f5)), (qf2, .inl (cf2, 3000, .inl f2)), (qf27, .inl (cf27, 400, .inl f27)), (qf29, .inl (cf29, 800, .inl f29)), (qf30, .inl (cf30, 800, .inl f30)), (qf34, .inl (cf34, 800, .inl f34))]) [0, 1, 2, 3, 4, 5, 6, 7, 8, 9, 10, 11, 12] (by decide) rfl
      have hK9 := hK.sub (tys' := [(cf11, .int), (cf14, .int), (cf21, .boolean), (cf12, .int), (cf48, .int), (cf6, .int), (cf5, .int), (cf2, .int), (cf27, .int), (cf29, .int), (cf30, .int), (cf34, .int)]) [0, 1, 2, 3, 4, 5, 6, 7, 8, 9, 10, 11] rfl
      exact W.zret hx hb hr (by decide) (fun t ht hW => ⟨⟨(1), (zs), rfl, ⟨⟨rfl, Or.inr rfl⟩, hlen, hrs0⟩, by rw [ht]; exact hP9, va_K.moved hW.alike hK9, hD9⟩, hS.F ht⟩) hS.2.2 dX13_isLed_50
    · rw [if_neg c_3] at hsp
      refine lv_iload_n hx hb dX13_isLed_19 rfl (lv_at hl 0 rfl) ?_
      refine lv_bipush (v := 30) hx hb dX13_isLed_20 (by decide) ?_
      refine lv_icmp_eq (tgt := 45) hx hb dX13_isLed_22 (by decide) (fun c_4 => ?_) (fun c_4 => ?_)
      · rw [if_pos c_4] at hsp
        refine lv_iconst (v := 1) hx hb dX13_isLed_45 (by decide) ?_
        refine lv_goto (tgt := 50) hx hb dX13_isLed_46 (by decide) ?_
        have hr0 := Option.some.inj hsp
        clear hsp
        subst hr0
        have hP9 := hP.sub (ws' := [(h0, .inr (13, zs)), (qf11, .inl (cf11, 9000, .inl f11)), (qf14, .inl (cf14, 9000, .inl f14)), (qf21, .inl (cf21, 9000, .inl f21)), (qf12, .inl (cf12, 9000, .inl f12)), (qf48, .inl (cf48, 3000, .inl f48)), (qf6, .inl (cf6, 3002, .inl f6)), (qf5, .inl (cf5, 3002, .inl f5)), (qf2, .inl (cf2, 3000, .inl f2)), (qf27, .inl (cf27, 400, .inl f27)), (qf29, .inl (cf29, 800, .inl f29)), (qf30, .inl (cf30, 800, .inl f30)), (qf34, .inl (cf34, 800, .inl f34))]) [0, 1, 2, 3, 4, 5, 6, 7, 8, 9, 10, 11, 12] rfl
        have hD9 := hD.sub (ws' := [(h0, .inr (13, zs)), (qf11, .inl (cf11, 9000, .inl f11)), (qf14, .inl (cf14, 9000, .inl f14)), (qf21, .inl (cf21, 9000, .inl f21)), (qf12, .inl (cf12, 9000, .inl f12)), (qf48, .inl (cf48, 3000, .inl f48)), (qf6, .inl (cf6, 3002, .inl f6)), (qf5, .inl (cf5, 3002, .inl f5)), (qf2, .inl (cf2, 3000, .inl f2)), (qf27, .inl (cf27, 400, .inl f27)), (qf29, .inl (cf29, 800, .inl f29)), (qf30, .inl (cf30, 800, .inl f30)), (qf34, .inl (cf34, 800, .inl f34))]) [0, 1, 2, 3, 4, 5, 6, 7, 8, 9, 10, 11, 12] (by decide) rfl
        have hK9 := hK.sub (tys' := [(cf11, .int), (cf14, .int), (cf21, .boolean), (cf12, .int), (cf48, .int), (cf6, .int), (cf5, .int), (cf2, .int), (cf27, .int), (cf29, .int), (cf30, .int), (cf34, .int)]) [0, 1, 2, 3, 4, 5, 6, 7, 8, 9, 10, 11] rfl
        exact W.zret hx hb hr (by decide) (fun t ht hW => ⟨⟨(1), (zs), rfl, ⟨⟨rfl, Or.inr rfl⟩, hlen, hrs0⟩, by rw [ht]; exact hP9, va_K.moved hW.alike hK9, hD9⟩, hS.F ht⟩) hS.2.2 dX13_isLed_50
      · rw [if_neg c_4] at hsp
        refine lv_iload_n hx hb dX13_isLed_25 rfl (lv_at hl 0 rfl) ?_
        refine lv_bipush (v := 32) hx hb dX13_isLed_26 (by decide) ?_
        refine lv_icmp_eq (tgt := 45) hx hb dX13_isLed_28 (by decide) (fun c_5 => ?_) (fun c_5 => ?_)
        · rw [if_pos c_5] at hsp
          refine lv_iconst (v := 1) hx hb dX13_isLed_45 (by decide) ?_
          refine lv_goto (tgt := 50) hx hb dX13_isLed_46 (by decide) ?_
          have hr0 := Option.some.inj hsp
          clear hsp
          subst hr0
          have hP9 := hP.sub (ws' := [(h0, .inr (13, zs)), (qf11, .inl (cf11, 9000, .inl f11)), (qf14, .inl (cf14, 9000, .inl f14)), (qf21, .inl (cf21, 9000, .inl f21)), (qf12, .inl (cf12, 9000, .inl f12)), (qf48, .inl (cf48, 3000, .inl f48)), (qf6, .inl (cf6, 3002, .inl f6)), (qf5, .inl (cf5, 3002, .inl f5)), (qf2, .inl (cf2, 3000, .inl f2)), (qf27, .inl (cf27, 400, .inl f27)), (qf29, .inl (cf29, 800, .inl f29)), (qf30, .inl (cf30, 800, .inl f30)), (qf34, .inl (cf34, 800, .inl f34))]) [0, 1, 2, 3, 4, 5, 6, 7, 8, 9, 10, 11, 12] rfl
          have hD9 := hD.sub (ws' := [(h0, .inr (13, zs)), (qf11, .inl (cf11, 9000, .inl f11)), (qf14, .inl (cf14, 9000, .inl f14)), (qf21, .inl (cf21, 9000, .inl f21)), (qf12, .inl (cf12, 9000, .inl f12)), (qf48, .inl (cf48, 3000, .inl f48)), (qf6, .inl (cf6, 3002, .inl f6)), (qf5, .inl (cf5, 3002, .inl f5)), (qf2, .inl (cf2, 3000, .inl f2)), (qf27, .inl (cf27, 400, .inl f27)), (qf29, .inl (cf29, 800, .inl f29)), (qf30, .inl (cf30, 800, .inl f30)), (qf34, .inl (cf34, 800, .inl f34))]) [0, 1, 2, 3, 4, 5, 6, 7, 8, 9, 10, 11, 12] (by decide) rfl
          have hK9 := hK.sub (tys' := [(cf11, .int), (cf14, .int), (cf21, .boolean), (cf12, .int), (cf48, .int), (cf6, .int), (cf5, .int), (cf2, .int), (cf27, .int), (cf29, .int), (cf30, .int), (cf34, .int)]) [0, 1, 2, 3, 4, 5, 6, 7, 8, 9, 10, 11] rfl
          exact W.zret hx hb hr (by decide) (fun t ht hW => ⟨⟨(1), (zs), rfl, ⟨⟨rfl, Or.inr rfl⟩, hlen, hrs0⟩, by rw [ht]; exact hP9, va_K.moved hW.alike hK9, hD9⟩, hS.F ht⟩) hS.2.2 dX13_isLed_50
        · rw [if_neg c_5] at hsp
          refine lv_iload_n hx hb dX13_isLed_31 rfl (lv_at hl 0 rfl) ?_
          refine lv_bipush (v := 31) hx hb dX13_isLed_32 (by decide) ?_
          refine lv_icmp_ne (tgt := 49) hx hb dX13_isLed_34 (by decide) (fun c_6 => ?_) (fun c_6 => ?_)
          · rw [if_neg c_6] at hsp
            refine lv_iconst (v := 0) hx hb dX13_isLed_49 (by decide) ?_
            have hr0 := Option.some.inj hsp
            clear hsp
            subst hr0
            have hP9 := hP.sub (ws' := [(h0, .inr (13, zs)), (qf11, .inl (cf11, 9000, .inl f11)), (qf14, .inl (cf14, 9000, .inl f14)), (qf21, .inl (cf21, 9000, .inl f21)), (qf12, .inl (cf12, 9000, .inl f12)), (qf48, .inl (cf48, 3000, .inl f48)), (qf6, .inl (cf6, 3002, .inl f6)), (qf5, .inl (cf5, 3002, .inl f5)), (qf2, .inl (cf2, 3000, .inl f2)), (qf27, .inl (cf27, 400, .inl f27)), (qf29, .inl (cf29, 800, .inl f29)), (qf30, .inl (cf30, 800, .inl f30)), (qf34, .inl (cf34, 800, .inl f34))]) [0, 1, 2, 3, 4, 5, 6, 7, 8, 9, 10, 11, 12] rfl
            have hD9 := hD.sub (ws' := [(h0, .inr (13, zs)), (qf11, .inl (cf11, 9000, .inl f11)), (qf14, .inl (cf14, 9000, .inl f14)), (qf21, .inl (cf21, 9000, .inl f21)), (qf12, .inl (cf12, 9000, .inl f12)), (qf48, .inl (cf48, 3000, .inl f48)), (qf6, .inl (cf6, 3002, .inl f6)), (qf5, .inl (cf5, 3002, .inl f5)), (qf2, .inl (cf2, 3000, .inl f2)), (qf27, .inl (cf27, 400, .inl f27)), (qf29, .inl (cf29, 800, .inl f29)), (qf30, .inl (cf30, 800, .inl f30)), (qf34, .inl (cf34, 800, .inl f34))]) [0, 1, 2, 3, 4, 5, 6, 7, 8, 9, 10, 11, 12] (by decide) rfl
            have hK9 := hK.sub (tys' := [(cf11, .int), (cf14, .int), (cf21, .boolean), (cf12, .int), (cf48, .int), (cf6, .int), (cf5, .int), (cf2, .int), (cf27, .int), (cf29, .int), (cf30, .int), (cf34, .int)]) [0, 1, 2, 3, 4, 5, 6, 7, 8, 9, 10, 11] rfl
            exact W.zret hx hb hr (by decide) (fun t ht hW => ⟨⟨(0), (zs), rfl, ⟨⟨rfl, Or.inl rfl⟩, hlen, hrs0⟩, by rw [ht]; exact hP9, va_K.moved hW.alike hK9, hD9⟩, hS.F ht⟩) hS.2.2 dX13_isLed_50
          · rw [if_pos c_6] at hsp
            refine lv_aload_n hx hb dX13_isLed_37 rfl (lv_at hl 1 rfl) ?_
            refine lv_iload_n hx hb dX13_isLed_38 rfl (lv_at hl 2 rfl) ?_
            obtain ⟨u1_0, hu_1, hsp⟩ := ox_bind hsp
            try dsimp only at hsp
            have hPc := hP.sub (ws' := [(h0, .inr (13, zs)), (qf14, .inl (cf14, 9000, .inl f14)), (qf11, .inl (cf11, 9000, .inl f11)), (qf21, .inl (cf21, 9000, .inl f21)), (qf12, .inl (cf12, 9000, .inl f12)), (qf48, .inl (cf48, 3000, .inl f48)), (qf6, .inl (cf6, 3002, .inl f6)), (qf5, .inl (cf5, 3002, .inl f5)), (qf2, .inl (cf2, 3000, .inl f2)), (qf27, .inl (cf27, 400, .inl f27)), (qf29, .inl (cf29, 800, .inl f29)), (qf30, .inl (cf30, 800, .inl f30)), (qf34, .inl (cf34, 800, .inl f34))]) [0, 2, 1, 3, 4, 5, 6, 7, 8, 9, 10, 11, 12] rfl
            have hDc := hD.sub (ws' := [(h0, .inr (13, zs)), (qf14, .inl (cf14, 9000, .inl f14)), (qf11, .inl (cf11, 9000, .inl f11)), (qf21, .inl (cf21, 9000, .inl f21)), (qf12, .inl (cf12, 9000, .inl f12)), (qf48, .inl (cf48, 3000, .inl f48)), (qf6, .inl (cf6, 3002, .inl f6)), (qf5, .inl (cf5, 3002, .inl f5)), (qf2, .inl (cf2, 3000, .inl f2)), (qf27, .inl (cf27, 400, .inl f27)), (qf29, .inl (cf29, 800, .inl f29)), (qf30, .inl (cf30, 800, .inl f30)), (qf34, .inl (cf34, 800, .inl f34))]) [0, 2, 1, 3, 4, 5, 6, 7, 8, 9, 10, 11, 12] (by decide) rfl
            have hKc := hK.sub (tys' := [(cf14, .int), (cf11, .int), (cf21, .boolean), (cf12, .int), (cf48, .int), (cf6, .int), (cf5, .int), (cf2, .int), (cf27, .int), (cf29, .int), (cf30, .int), (cf34, .int)]) [1, 0, 2, 3, 4, 5, 6, 7, 8, 9, 10, 11] rfl
            have hFc := va_free (wc := [(h0, .inr (13, zs)), (qf14, .inl (cf14, 9000, .inl f14)), (qf11, .inl (cf11, 9000, .inl f11)), (qf21, .inl (cf21, 9000, .inl f21)), (qf12, .inl (cf12, 9000, .inl f12)), (qf48, .inl (cf48, 3000, .inl f48)), (qf6, .inl (cf6, 3002, .inl f6)), (qf5, .inl (cf5, 3002, .inl f5)), (qf2, .inl (cf2, 3000, .inl f2)), (qf27, .inl (cf27, 400, .inl f27)), (qf29, .inl (cf29, 800, .inl f29)), (qf30, .inl (cf30, 800, .inl f30)), (qf34, .inl (cf34, 800, .inl f34))]) hD hS hA [0, 2, 1, 3, 4, 5, 6, 7, 8, 9, 10, 11, 12] rfl
            refine va_calli (va_runV (As := [.int a1]) (rest := []) ⟨hx, hb, hml, hown, hts⟩ (tn_isByClass l dC dI H.size h0 zs a1 qf2 qf5 qf6 qf11 qf12 qf14 qf21 qf27 v28 qf29 qf30 qf34 qf48 v50 v52 cf14 f14 cf11 f11 cf21 f21 cf12 f12 cf48 f48 cf6 f6 cf5 f5 cf2 f2 cf27 f27 cf29 f29 cf30 f30 cf34 f34 nf u1_0 hlen hf2 hf5 hf6 hf11 hf12 hf14 hf21 hf27 hf28 hf29 hf30 hf34 hf48 hf50 hf52 hu_1) (cwV 1 hts gv_h6_31 rfl rfl rfl (by decide +kernel) ⟨Nat.le_of_ble_eq_true rfl, Nat.le_of_ble_eq_true rfl⟩) ⟨fun a U g mk q => by obtain ⟨q0, q1, qP, qK, qD⟩ := q; exact ⟨q0, q1, qP, va_K.moved (u := U) (U := U.calling g mk a) (Vm.Alike.refl U.vm) qK, qD⟩, va_recv hKc hPc (ci := 13) (q0 := 0) rfl rfl, fun U hU hW => ⟨rfl, by rw [hU], by rw [hU]; exact hPc, va_K.moved hW.alike hKc, hDc.weaken (fun _ _ _ _ => trivial)⟩⟩ rfl rfl hl.1 rfl (lv_room (Nat.le_of_ble_eq_true rfl)) dX13_isLed_39 ⟨Nat.le_of_ble_eq_true rfl, Nat.le_of_ble_eq_true rfl⟩) hS (fun q _ h => hFc q h) hFc ?_
            clear hS
            intro r_7 u t H1 locs ht hvm hw hB hz1 hk1 hS
            obtain ⟨z_1, rfl⟩ : ∃ z, z = u := ⟨_, rfl⟩
            obtain ⟨hP1, hK1, hD1⟩ := hB
            rw [ht] at hP1
            have hK1 := va_K.moved hvm.symm hK1
            try dsimp only at hw
            have hPD := va_join (wr := []) (w1 := [(h0, .inr (13, z_1)), (qf14, .inl (cf14, 9000, .inl f14)), (qf11, .inl (cf11, 9000, .inl f11)), (qf21, .inl (cf21, 9000, .inl f21)), (qf12, .inl (cf12, 9000, .inl f12)), (qf48, .inl (cf48, 3000, .inl f48)), (qf6, .inl (cf6, 3002, .inl f6)), (qf5, .inl (cf5, 3002, .inl f5)), (qf2, .inl (cf2, 3000, .inl f2)), (qf27, .inl (cf27, 400, .inl f27)), (qf29, .inl (cf29, 800, .inl f29)), (qf30, .inl (cf30, 800, .inl f30)), (qf34, .inl (cf34, 800, .inl f34))]) hP hD [0, 2, 1, 3, 4, 5, 6, 7, 8, 9, 10, 11, 12] [] rfl rfl (by decide) (by decide) hk1 hFc hP1 hD1
            clear hP hD
            obtain ⟨hP, hD⟩ := hPD
            replace hK := (hK.sub (tys' := []) [] rfl).app hK1
            clear hPc hDc hKc hFc hP1 hK1 hD1 hz1 hk1 ht hvm
            generalize H1 = H at hP hS ⊢
            replace hP : va_P (dC, dI) vwCl [(h0, .inr (13, z_1)), (qf14, .inl (cf14, 9000, .inl f14)), (qf11, .inl (cf11, 9000, .inl f11)), (qf21, .inl (cf21, 9000, .inl f21)), (qf12, .inl (cf12, 9000, .inl f12)), (qf48, .inl (cf48, 3000, .inl f48)), (qf6, .inl (cf6, 3002, .inl f6)), (qf5, .inl (cf5, 3002, .inl f5)), (qf2, .inl (cf2, 3000, .inl f2)), (qf27, .inl (cf27, 400, .inl f27)), (qf29, .inl (cf29, 800, .inl f29)), (qf30, .inl (cf30, 800, .inl f30)), (qf34, .inl (cf34, 800, .inl f34))] H := hP
            replace hD : va_D A [(h0, .inr (13, z_1)), (qf14, .inl (cf14, 9000, .inl f14)), (qf11, .inl (cf11, 9000, .inl f11)), (qf21, .inl (cf21, 9000, .inl f21)), (qf12, .inl (cf12, 9000, .inl f12)), (qf48, .inl (cf48, 3000, .inl f48)), (qf6, .inl (cf6, 3002, .inl f6)), (qf5, .inl (cf5, 3002, .inl f5)), (qf2, .inl (cf2, 3000, .inl f2)), (qf27, .inl (cf27, 400, .inl f27)), (qf29, .inl (cf29, 800, .inl f29)), (qf30, .inl (cf30, 800, .inl f30)), (qf34, .inl (cf34, 800, .inl f34))] := hD
            replace hK : va_K (dC, dI) vwCl [(cf14, .int), (cf11, .int), (cf21, .boolean), (cf12, .int), (cf48, .int), (cf6, .int), (cf5, .int), (cf2, .int), (cf27, .int), (cf29, .int), (cf30, .int), (cf34, .int)] s := hK
            obtain ⟨hwa_1, hln_1, hre_1⟩ := hw
            have hfk_1_2 : z_1[2]? = some (.ref qf2) := (hre_1 2 ).trans (hf2)
            have hfk_1_5 : z_1[5]? = some (.ref qf5) := (hre_1 5 ).trans (hf5)
            have hfk_1_6 : z_1[6]? = some (.ref qf6) := (hre_1 6 ).trans (hf6)
            have hfk_1_11 : z_1[11]? = some (.ref qf11) := (hre_1 11 ).trans (hf11)
            have hfk_1_12 : z_1[12]? = some (.ref qf12) := (hre_1 12 ).trans (hf12)
            have hfk_1_14 : z_1[14]? = some (.ref qf14) := (hre_1 14 ).trans (hf14)
            have hfk_1_21 : z_1[21]? = some (.ref qf21) := (hre_1 21 ).trans (hf21)
            have hfk_1_27 : z_1[27]? = some (.ref qf27) := (hre_1 27 ).trans (hf27)
            have hfk_1_28 : z_1[28]? = some (.int v28) := (hre_1 28 ).trans (hf28)
            have hfk_1_29 : z_1[29]? = some (.ref qf29) := (hre_1 29 ).trans (hf29)
            have hfk_1_30 : z_1[30]? = some (.ref qf30) := (hre_1 30 ).trans (hf30)
            have hfk_1_34 : z_1[34]? = some (.ref qf34) := (hre_1 34 ).trans (hf34)
            have hfk_1_48 : z_1[48]? = some (.ref qf48) := (hre_1 48 ).trans (hf48)
            have hfk_1_50 : z_1[50]? = some (.int v50) := (hre_1 50 ).trans (hf50)
            have hfk_1_52 : z_1[52]? = some (.int v52) := (hre_1 52 ).trans (hf52)
            have hrq_1 : ∀ j : Nat, z_1[j]? = zs[j]? := fun j  => (hre_1 j ).trans (hrs0 j )
            obtain ⟨rfl, hz_1⟩ := hwa_1
            rcases hz_1 with rfl | rfl
            · rw [if_pos rfl] at hsp
              refine lv_if_ne (tgt := 49) hx hb dX13_isLed_42 (by decide) (fun c_8 => (show False by revert c_8; decide).elim) (fun c_8 => ?_)
              refine lv_iconst (v := 1) hx hb dX13_isLed_45 (by decide) ?_
              refine lv_goto (tgt := 50) hx hb dX13_isLed_46 (by decide) ?_
              have hr0 := Option.some.inj hsp
              clear hsp
              subst hr0
              have hP9 := hP.sub (ws' := [(h0, .inr (13, z_1)), (qf11, .inl (cf11, 9000, .inl f11)), (qf14, .inl (cf14, 9000, .inl f14)), (qf21, .inl (cf21, 9000, .inl f21)), (qf12, .inl (cf12, 9000, .inl f12)), (qf48, .inl (cf48, 3000, .inl f48)), (qf6, .inl (cf6, 3002, .inl f6)), (qf5, .inl (cf5, 3002, .inl f5)), (qf2, .inl (cf2, 3000, .inl f2)), (qf27, .inl (cf27, 400, .inl f27)), (qf29, .inl (cf29, 800, .inl f29)), (qf30, .inl (cf30, 800, .inl f30)), (qf34, .inl (cf34, 800, .inl f34))]) [0, 2, 1, 3, 4, 5, 6, 7, 8, 9, 10, 11, 12] rfl
              have hD9 := hD.sub (ws' := [(h0, .inr (13, z_1)), (qf11, .inl (cf11, 9000, .inl f11)), (qf14, .inl (cf14, 9000, .inl f14)), (qf21, .inl (cf21, 9000, .inl f21)), (qf12, .inl (cf12, 9000, .inl f12)), (qf48, .inl (cf48, 3000, .inl f48)), (qf6, .inl (cf6, 3002, .inl f6)), (qf5, .inl (cf5, 3002, .inl f5)), (qf2, .inl (cf2, 3000, .inl f2)), (qf27, .inl (cf27, 400, .inl f27)), (qf29, .inl (cf29, 800, .inl f29)), (qf30, .inl (cf30, 800, .inl f30)), (qf34, .inl (cf34, 800, .inl f34))]) [0, 2, 1, 3, 4, 5, 6, 7, 8, 9, 10, 11, 12] (by decide) rfl
              have hK9 := hK.sub (tys' := [(cf11, .int), (cf14, .int), (cf21, .boolean), (cf12, .int), (cf48, .int), (cf6, .int), (cf5, .int), (cf2, .int), (cf27, .int), (cf29, .int), (cf30, .int), (cf34, .int)]) [1, 0, 2, 3, 4, 5, 6, 7, 8, 9, 10, 11] rfl
              exact W.zret hx hb hr (by decide) (fun t ht hW => ⟨⟨(1), (z_1), rfl, ⟨⟨rfl, Or.inr rfl⟩, hln_1, hrq_1⟩, by rw [ht]; exact hP9, va_K.moved hW.alike hK9, hD9⟩, hS.F ht⟩) hS.2.2 dX13_isLed_50
            · rw [if_neg (by decide)] at hsp
              refine lv_if_ne (tgt := 49) hx hb dX13_isLed_42 (by decide) (fun c_9 => ?_) (fun c_9 => (show False by revert c_9; decide).elim)
              refine lv_iconst (v := 0) hx hb dX13_isLed_49 (by decide) ?_
              have hr0 := Option.some.inj hsp
              clear hsp
              subst hr0
              have hP9 := hP.sub (ws' := [(h0, .inr (13, z_1)), (qf11, .inl (cf11, 9000, .inl f11)), (qf14, .inl (cf14, 9000, .inl f14)), (qf21, .inl (cf21, 9000, .inl f21)), (qf12, .inl (cf12, 9000, .inl f12)), (qf48, .inl (cf48, 3000, .inl f48)), (qf6, .inl (cf6, 3002, .inl f6)), (qf5, .inl (cf5, 3002, .inl f5)), (qf2, .inl (cf2, 3000, .inl f2)), (qf27, .inl (cf27, 400, .inl f27)), (qf29, .inl (cf29, 800, .inl f29)), (qf30, .inl (cf30, 800, .inl f30)), (qf34, .inl (cf34, 800, .inl f34))]) [0, 2, 1, 3, 4, 5, 6, 7, 8, 9, 10, 11, 12] rfl
              have hD9 := hD.sub (ws' := [(h0, .inr (13, z_1)), (qf11, .inl (cf11, 9000, .inl f11)), (qf14, .inl (cf14, 9000, .inl f14)), (qf21, .inl (cf21, 9000, .inl f21)), (qf12, .inl (cf12, 9000, .inl f12)), (qf48, .inl (cf48, 3000, .inl f48)), (qf6, .inl (cf6, 3002, .inl f6)), (qf5, .inl (cf5, 3002, .inl f5)), (qf2, .inl (cf2, 3000, .inl f2)), (qf27, .inl (cf27, 400, .inl f27)), (qf29, .inl (cf29, 800, .inl f29)), (qf30, .inl (cf30, 800, .inl f30)), (qf34, .inl (cf34, 800, .inl f34))]) [0, 2, 1, 3, 4, 5, 6, 7, 8, 9, 10, 11, 12] (by decide) rfl
              have hK9 := hK.sub (tys' := [(cf11, .int), (cf14, .int), (cf21, .boolean), (cf12, .int), (cf48, .int), (cf6, .int), (cf5, .int), (cf2, .int), (cf27, .int), (cf29, .int), (cf30, .int), (cf34, .int)]) [1, 0, 2, 3, 4, 5, 6, 7, 8, 9, 10, 11] rfl
              exact W.zret hx hb hr (by decide) (fun t ht hW => ⟨⟨(0), (z_1), rfl, ⟨⟨rfl, Or.inl rfl⟩, hln_1, hrq_1⟩, by rw [ht]; exact hP9, va_K.moved hW.alike hK9, hD9⟩, hS.F ht⟩) hS.2.2 dX13_isLed_50
def lp_tn_frameAt_22 (nf n : Nat) (a1 : Int32) (v132 : Int32) (v133 : Int32) (f111 : Nat → Int32) (f100 : Nat → Int32)  (l1_22 : Int32) (l2_22 : Int32) (l3_22 : Int32) : Option (Int32) := match n with
  | 0 => none
  | n + 1 => (if l1_22 ≤ l3_22 then (some l2_22) else ((sp_tn_typesEnd nf (l2_22 + 2) v132 f100).bind (fun p1 => ((sp_tn_typesEnd nf p1 v132 f100).bind (fun p2 => (lp_tn_frameAt_22 nf n a1 v132 v133 f111 f100 l1_22 p2 (l3_22 + 1)))))))
def sp_tn_frameAt (nf : Nat) (a1 : Int32) (v132 : Int32) (v133 : Int32) (f111 : Nat → Int32) (f100 : Nat → Int32) : Option (Int32) := (if ((12 * v132) + v133) < 0 then none else if 96 ≤ (((12 * v132) + v133) : Int32).toNatClampNeg then none else (lp_tn_frameAt_22 nf nf a1 v132 v133 f111 f100 a1 ((f111 (((12 * v132) + v133) : Int32).toNatClampNeg) + 1) 0))
set_option maxHeartbeats 4000000 in
set_option maxRecDepth 100000 in
/-- ClassMillModel.frameAt -/
theorem tn_frameAt (l : Launch) (dC : Nat → ClassId) (dI : Nat → Nat → Nat) (sz : Nat) (h0 : Nat) (zs : (List Value)) (a1 : Int32) (qf100 : Nat) (qf111 : Nat) (v132 : Int32) (v133 : Int32) (cf111 : ClassId) (f111 : (Nat → Int32)) (cf100 : ClassId) (f100 : (Nat → Int32)) (nf : Nat) (r0 : Int32) (hlen : zs.length = 155) (hf100 : zs[100]? = some (.ref qf100)) (hf111 : zs[111]? = some (.ref qf111)) (hf132 : zs[132]? = some (.int v132)) (hf133 : zs[133]? = some (.int v133)) (hsp : sp_tn_frameAt nf a1 v132 v133 f111 f100 = some r0) : Met l yX13_frameAt (.code yX13_frameAt cX13_frameAt 4 (some .int) :: VS_h6) ({ frames := 2, cells := 0, slots := 0, locals := 46 }) (va_Pc [.ref h0, .int a1] (fun U => U.heap.size = sz ∧ va_P (dC, dI) vwCl [(h0, .inr (13, zs)), (qf111, .inl (cf111, 96, .inl f111)), (qf100, .inl (cf100, 48000, .inl f100))] U.heap ∧ va_K (dC, dI) vwCl [(cf111, .int), (cf100, .int)] U ∧ va_D (fun _ => True) [(h0, .inr (13, zs)), (qf111, .inl (cf111, 96, .inl f111)), (qf100, .inl (cf100, 48000, .inl f100))])) (va_Qi (fun (r : Int32) (u : (List Value)) => match u with | (zo1) => r0 = r ∧ zo1.length = 155 ∧ (∀ j : Nat, zo1[j]? = zs[j]?)) (fun (u : (List Value)) (t : State) => match u with | (zo1) => va_P (dC, dI) vwCl [(h0, .inr (13, zo1)), (qf111, .inl (cf111, 96, .inl f111)), (qf100, .inl (cf100, 48000, .inl f100))] t.heap ∧ va_K (dC, dI) vwCl [(cf111, .int), (cf100, .int)] t ∧ va_D (va_A [(h0, .inr (13, zs)), (qf111, .inl (cf111, 96, .inl f111)), (qf100, .inl (cf100, 48000, .inl f100))] sz) [(h0, .inr (13, zo1)), (qf111, .inl (cf111, 96, .inl f111)), (qf100, .inl (cf100, 48000, .inl f100))]) (va_A [(h0, .inr (13, zs)), (qf111, .inl (cf111, 96, .inl f111)), (qf100, .inl (cf100, 48000, .inl f100))] sz)) 0 0 (va_A [(h0, .inr (13, zs)), (qf111, .inl (cf111, 96, .inl f111)), (qf100, .inl (cf100, 48000, .inl f100))] sz) := by
  refine Met.ofW (cc := cX13_frameAt) (maxL := 4) (ret := (some .int)) (by decide) rfl ?_
  intro p e s m args below meth c s₁ B hml hv
  obtain ⟨rfl, hsz, hP, hK, hD0⟩ := hv
  have hx := B.exec
  have hb := B.bytes
  have hr := B.returns
  have hts := atoms_spec (ws := (.code yX13_frameAt cX13_frameAt 4 (some .int) :: VS_h6)) B.pre
  replace hts := fun w (h : w ∈ VS_h6) => hts w (List.mem_cons_of_mem _ h)
  have hown : s.vm.findClass RX13 = some m.cls := findClass_of_methodNamed B.named
  have hlocks := B.notSynchronized
  subst hsz
  have hD := hD0.self (sz := s.heap.size)
  generalize hAe : va_A [(h0, .inr (13, zs)), (qf111, .inl (cf111, 96, .inl f111)), (qf100, .inl (cf100, 48000, .inl f100))] s.heap.size = A at hD  ⊢
  have hA : ∀ q : Nat, s.heap.size ≤ q → A q := fun q h => by rw [← hAe]; exact Or.inr h
  have hP : va_P (dC, dI) vwCl [(h0, .inr (13, zs)), (qf111, .inl (cf111, 96, .inl f111)), (qf100, .inl (cf100, 48000, .inl f100))] s.heap := hP
  have hl := lv_entry ([.ref h0, .int a1]) (n := 4) (Nat.le_of_ble_eq_true rfl)
  rw [lg_entry_eq]
  generalize (lg_sl ([.ref h0, .int a1]) ++ List.replicate (4 - (lg_sl ([.ref h0, .int a1])).length) Slot.unset).toArray = ls at hl ⊢
  have hl : lv_has ls 4 [(0, .ref h0), (1, .int a1)] := hl
  obtain ⟨H, hH⟩ : ∃ H : Heap, s.heap = H := ⟨_, rfl⟩
  rw [hH] at hP ⊢
  have hS : va_S A s.heap H [] := by rw [← hH]; exact va_S.rf
  obtain ⟨locs, hlo⟩ : ∃ locs : List Loc, locs = [] := ⟨_, rfl⟩
  rw [← hlo] at hS ⊢
  have hrs0 : ∀ j : Nat, zs[j]? = zs[j]? := fun _  => rfl
  unfold sp_tn_frameAt at hsp
  refine lv_aload_n hx hb dX13_frameAt_0 rfl (lv_at hl 0 rfl) ?_
  refine va_get (D := (dC, dI)) (ci := 13) (v := .ref qf111) (C := RX13) (T := TX13) (N := 155) hx hb hts uV_h6_X13 hown hK hP 0 rfl rfl 111 (by decide) (hts (.fieldLink RX13 242 "ClassMillModel" "framesAt" "[I") mw_h6_126) (fun _ h9 => h9) hf111 dX13_frameAt_1 ?_
  refine lv_bipush (v := 12) hx hb dX13_frameAt_4 (by decide) ?_
  refine lv_aload_n hx hb dX13_frameAt_6 rfl (lv_at hl 0 rfl) ?_
  refine va_get (D := (dC, dI)) (ci := 13) (v := .int v132) (C := RX13) (T := TX13) (N := 155) hx hb hts uV_h6_X13 hown hK hP 0 rfl rfl 132 (by decide) (hts (.fieldLink RX13 932 "ClassMillModel" "inClass" "I") mw_h6_113) (fun _ h9 => h9) hf132 dX13_frameAt_7 ?_
  refine lv_imul hx hb dX13_frameAt_10 ?_
  refine lv_aload_n hx hb dX13_frameAt_11 rfl (lv_at hl 0 rfl) ?_
  refine va_get (D := (dC, dI)) (ci := 13) (v := .int v133) (C := RX13) (T := TX13) (N := 155) hx hb hts uV_h6_X13 hown hK hP 0 rfl rfl 133 (by decide) (hts (.fieldLink RX13 940 "ClassMillModel" "inMethod" "I") mw_h6_127) (fun _ h9 => h9) hf133 dX13_frameAt_12 ?_
  refine lv_iadd hx hb dX13_frameAt_15 ?_
  obtain ⟨hi_1, hsp⟩ := ox_in hsp
  refine va_iald hx hb hK hP 1 0 rfl rfl (i := ((12 * v132) + v133)) hi_1 dX13_frameAt_16 ?_
  refine lv_iconst (v := 1) hx hb dX13_frameAt_17 (by decide) ?_
  refine lv_iadd hx hb dX13_frameAt_18 ?_
  refine lv_istore_n (lv' := [(2, .int ((f111 (((12 * v132) + v133) : Int32).toNatClampNeg) + 1)), (0, .ref h0), (1, .int a1)]) hx hb dX13_frameAt_19 rfl hl (by decide) rfl (fun ls hl => ?_)
  refine lv_iconst (v := 0) hx hb dX13_frameAt_20 (by decide) ?_
  refine lv_istore_n (lv' := [(3, .int 0), (2, .int ((f111 (((12 * v132) + v133) : Int32).toNatClampNeg) + 1)), (0, .ref h0), (1, .int a1)]) hx hb dX13_frameAt_21 rfl hl (by decide) rfl (fun ls hl => ?_)
  replace hP := hP.sub (ws' := [(h0, .inr (13, zs)), (qf111, .inl (cf111, 96, .inl f111)), (qf100, .inl (cf100, 48000, .inl f100))]) [0, 1, 2] rfl
  replace hD := hD.sub (ws' := [(h0, .inr (13, zs)), (qf111, .inl (cf111, 96, .inl f111)), (qf100, .inl (cf100, 48000, .inl f100))]) [0, 1, 2] (by decide) rfl
  replace hK := hK.sub (tys' := [(cf111, .int), (cf100, .int)]) [0, 1] rfl
  obtain ⟨n_22, hn_22⟩ : ∃ z : Nat, z = nf := ⟨_, rfl⟩
  obtain ⟨z22, ez22⟩ : ∃ z : List Value, z = zs := ⟨_, rfl⟩
  obtain ⟨l1_22, el1_22⟩ : ∃ z : Int32, z = a1 := ⟨_, rfl⟩
  obtain ⟨l2_22, el2_22⟩ : ∃ z : Int32, z = ((f111 (((12 * v132) + v133) : Int32).toNatClampNeg) + 1) := ⟨_, rfl⟩
  obtain ⟨l3_22, el3_22⟩ : ∃ z : Int32, z = 0 := ⟨_, rfl⟩
  replace hsp : lp_tn_frameAt_22 nf n_22 a1 v132 v133 f111 f100 l1_22 l2_22 l3_22 = some r0 := by rw [hn_22, el1_22, el2_22, el3_22]; exact hsp
  replace hl : lv_has ls 4 [(3, .int l3_22), (2, .int l2_22), (0, .ref h0), (1, .int l1_22)] := by rw [el1_22, el2_22, el3_22]; exact hl
  have hfh_22_100 : z22[100]? = some (.ref qf100) := by rw [ez22]; exact hf100
  have hfh_22_111 : z22[111]? = some (.ref qf111) := by rw [ez22]; exact hf111
  have hfh_22_132 : z22[132]? = some (.int v132) := by rw [ez22]; exact hf132
  have hfh_22_133 : z22[133]? = some (.int v133) := by rw [ez22]; exact hf133
  have hlh_22 : z22.length = 155 := by rw [ez22]; exact hlen
  have hrh_22 : ∀ j : Nat, z22[j]? = zs[j]? := by rw [ez22]; exact hrs0
  replace hP : va_P (dC, dI) vwCl [(h0, .inr (13, z22)), (qf111, .inl (cf111, 96, .inl f111)), (qf100, .inl (cf100, 48000, .inl f100))] H := by rw [ez22]; exact hP
  replace hD : va_D A [(h0, .inr (13, z22)), (qf111, .inl (cf111, 96, .inl f111)), (qf100, .inl (cf100, 48000, .inl f100))] := by rw [ez22]; exact hD
  clear hn_22 ez22 el1_22 el2_22 el3_22
  try clear hlo
  try clear hH
  revert hsp
  revert hP
  revert hD
  revert hS
  revert hl
  revert hrh_22
  revert hlh_22
  revert hfh_22_133
  revert hfh_22_132
  revert hfh_22_111
  revert hfh_22_100
  revert l3_22
  revert l2_22
  revert l1_22
  revert z22
  revert ls
  revert locs
  revert H
  induction n_22 with
  | zero => intro H locs ls z22 l1_22 l2_22 l3_22 hfh_22_100 hfh_22_111 hfh_22_132 hfh_22_133 hlh_22 hrh_22 hl hS hD hP hsp; unfold lp_tn_frameAt_22 at hsp; cases hsp
  | succ n_22 ih_22 =>
    intro H locs ls z22 l1_22 l2_22 l3_22 hfh_22_100 hfh_22_111 hfh_22_132 hfh_22_133 hlh_22 hrh_22 hl hS hD hP hsp
    unfold lp_tn_frameAt_22 at hsp
    try dsimp only at hsp
    refine lv_iload_n hx hb dX13_frameAt_22 rfl (lv_at hl 0 rfl) ?_
    refine lv_iload_n hx hb dX13_frameAt_23 rfl (lv_at hl 3 rfl) ?_
    refine lv_icmp_ge (tgt := 45) hx hb dX13_frameAt_24 (by decide) (fun c_2 => ?_) (fun c_2 => ?_)
    · rw [if_pos c_2] at hsp
      refine lv_iload_n hx hb dX13_frameAt_45 rfl (lv_at hl 1 rfl) ?_
      have hr0 := Option.some.inj hsp
      clear hsp
      subst hr0
      have hP9 := hP.sub (ws' := [(h0, .inr (13, z22)), (qf111, .inl (cf111, 96, .inl f111)), (qf100, .inl (cf100, 48000, .inl f100))]) [0, 1, 2] rfl
      have hD9 := hD.sub (ws' := [(h0, .inr (13, z22)), (qf111, .inl (cf111, 96, .inl f111)), (qf100, .inl (cf100, 48000, .inl f100))]) [0, 1, 2] (by decide) rfl
      have hK9 := hK.sub (tys' := [(cf111, .int), (cf100, .int)]) [0, 1] rfl
      exact W.iret hx hb hr (fun t ht hW => ⟨⟨(l2_22), (z22), rfl, ⟨rfl, hlh_22, hrh_22⟩, by rw [ht]; exact hP9, va_K.moved hW.alike hK9, hD9⟩, hS.F ht⟩) hS.2.2 dX13_frameAt_46
    · rw [if_neg c_2] at hsp
      refine lv_aload_n hx hb dX13_frameAt_27 rfl (lv_at hl 2 rfl) ?_
      refine lv_aload_n hx hb dX13_frameAt_28 rfl (lv_at hl 2 rfl) ?_
      refine lv_iload_n hx hb dX13_frameAt_29 rfl (lv_at hl 1 rfl) ?_
      refine lv_iconst (v := 2) hx hb dX13_frameAt_30 (by decide) ?_
      refine lv_iadd hx hb dX13_frameAt_31 ?_
      obtain ⟨u1_0, hu_1, hsp⟩ := ox_bind hsp
      try dsimp only at hsp
      have hPc := hP.sub (ws' := [(h0, .inr (13, z22)), (qf100, .inl (cf100, 48000, .inl f100))]) [0, 2] rfl
      have hDc := hD.sub (ws' := [(h0, .inr (13, z22)), (qf100, .inl (cf100, 48000, .inl f100))]) [0, 2] (by decide) rfl
      have hKc := hK.sub (tys' := [(cf100, .int)]) [1] rfl
      have hFc := va_free (wc := [(h0, .inr (13, z22)), (qf100, .inl (cf100, 48000, .inl f100))]) hD hS hA [0, 2] rfl
      refine va_calli (va_runV (As := [.int (l2_22 + 2)]) (rest := [.ref h0]) ⟨hx, hb, hml, hown, hts⟩ (tn_typesEnd l dC dI H.size h0 z22 ((l2_22 + 2)) qf100 v132 cf100 f100 nf u1_0 hlh_22 hfh_22_100 hfh_22_132 hu_1) (cwV 1 hts gv_h6_25 rfl rfl rfl (by decide +kernel) ⟨Nat.le_of_ble_eq_true rfl, Nat.le_of_ble_eq_true rfl⟩) ⟨fun a U g mk q => by obtain ⟨q0, q1, qP, qK, qD⟩ := q; exact ⟨q0, q1, qP, va_K.moved (u := U) (U := U.calling g mk a) (Vm.Alike.refl U.vm) qK, qD⟩, va_recv hKc hPc (ci := 13) (q0 := 0) rfl rfl, fun U hU hW => ⟨rfl, by rw [hU], by rw [hU]; exact hPc, va_K.moved hW.alike hKc, hDc.weaken (fun _ _ _ _ => trivial)⟩⟩ rfl rfl hl.1 rfl (lv_room (Nat.le_of_ble_eq_true rfl)) dX13_frameAt_32 ⟨Nat.le_of_ble_eq_true rfl, Nat.le_of_ble_eq_true rfl⟩) hS (fun q _ h => hFc q h) hFc ?_
      clear hS
      intro r_3 u t H1 locs ht hvm hw hB hz1 hk1 hS
      obtain ⟨z_1, rfl⟩ : ∃ z, z = u := ⟨_, rfl⟩
      obtain ⟨hP1, hK1, hD1⟩ := hB
      rw [ht] at hP1
      have hK1 := va_K.moved hvm.symm hK1
      try dsimp only at hw
      have hPD := va_join (wr := [(qf111, .inl (cf111, 96, .inl f111))]) (w1 := [(h0, .inr (13, z_1)), (qf100, .inl (cf100, 48000, .inl f100))]) hP hD [0, 2] [1] rfl rfl (by decide) (by decide) hk1 hFc hP1 hD1
      clear hP hD
      obtain ⟨hP, hD⟩ := hPD
      replace hK := (hK.sub (tys' := [(cf111, .int)]) [0] rfl).app hK1
      clear hPc hDc hKc hFc hP1 hK1 hD1 hz1 hk1 ht hvm
      generalize H1 = H at hP hS ⊢
      replace hP : va_P (dC, dI) vwCl [(qf111, .inl (cf111, 96, .inl f111)), (h0, .inr (13, z_1)), (qf100, .inl (cf100, 48000, .inl f100))] H := hP
      replace hD : va_D A [(qf111, .inl (cf111, 96, .inl f111)), (h0, .inr (13, z_1)), (qf100, .inl (cf100, 48000, .inl f100))] := hD
      replace hK : va_K (dC, dI) vwCl [(cf111, .int), (cf100, .int)] s := hK
      obtain ⟨hwa_1, hln_1, hre_1⟩ := hw
      have hfk_1_100 : z_1[100]? = some (.ref qf100) := (hre_1 100 ).trans (hfh_22_100)
      have hfk_1_111 : z_1[111]? = some (.ref qf111) := (hre_1 111 ).trans (hfh_22_111)
      have hfk_1_132 : z_1[132]? = some (.int v132) := (hre_1 132 ).trans (hfh_22_132)
      have hfk_1_133 : z_1[133]? = some (.int v133) := (hre_1 133 ).trans (hfh_22_133)
      have hrq_1 : ∀ j : Nat, z_1[j]? = zs[j]? := fun j  => (hre_1 j ).trans (hrh_22 j )
      obtain rfl := hwa_1
      obtain ⟨u2_0, hu_2, hsp⟩ := ox_bind hsp
      try dsimp only at hsp
      have hPc := hP.sub (ws' := [(h0, .inr (13, z_1)), (qf100, .inl (cf100, 48000, .inl f100))]) [1, 2] rfl
      have hDc := hD.sub (ws' := [(h0, .inr (13, z_1)), (qf100, .inl (cf100, 48000, .inl f100))]) [1, 2] (by decide) rfl
      have hKc := hK.sub (tys' := [(cf100, .int)]) [1] rfl
      have hFc := va_free (wc := [(h0, .inr (13, z_1)), (qf100, .inl (cf100, 48000, .inl f100))]) hD hS hA [1, 2] rfl
      refine va_calli (va_runV (As := [.int u1_0]) (rest := []) ⟨hx, hb, hml, hown, hts⟩ (tn_typesEnd l dC dI H.size h0 z_1 u1_0 qf100 v132 cf100 f100 nf u2_0 hln_1 hfk_1_100 hfk_1_132 hu_2) (cwV 1 hts gv_h6_25 rfl rfl rfl (by decide +kernel) ⟨Nat.le_of_ble_eq_true rfl, Nat.le_of_ble_eq_true rfl⟩) ⟨fun a U g mk q => by obtain ⟨q0, q1, qP, qK, qD⟩ := q; exact ⟨q0, q1, qP, va_K.moved (u := U) (U := U.calling g mk a) (Vm.Alike.refl U.vm) qK, qD⟩, va_recv hKc hPc (ci := 13) (q0 := 0) rfl rfl, fun U hU hW => ⟨rfl, by rw [hU], by rw [hU]; exact hPc, va_K.moved hW.alike hKc, hDc.weaken (fun _ _ _ _ => trivial)⟩⟩ rfl rfl hl.1 rfl (lv_room (Nat.le_of_ble_eq_true rfl)) dX13_frameAt_35 ⟨Nat.le_of_ble_eq_true rfl, Nat.le_of_ble_eq_true rfl⟩) hS (fun q _ h => hFc q h) hFc ?_
      clear hS
      intro r_4 u t H1 locs ht hvm hw hB hz1 hk1 hS
      obtain ⟨z_2, rfl⟩ : ∃ z, z = u := ⟨_, rfl⟩
      obtain ⟨hP1, hK1, hD1⟩ := hB
      rw [ht] at hP1
      have hK1 := va_K.moved hvm.symm hK1
      try dsimp only at hw
      have hPD := va_join (wr := [(qf111, .inl (cf111, 96, .inl f111))]) (w1 := [(h0, .inr (13, z_2)), (qf100, .inl (cf100, 48000, .inl f100))]) hP hD [1, 2] [0] rfl rfl (by decide) (by decide) hk1 hFc hP1 hD1
      clear hP hD
      obtain ⟨hP, hD⟩ := hPD
      replace hK := (hK.sub (tys' := [(cf111, .int)]) [0] rfl).app hK1
      clear hPc hDc hKc hFc hP1 hK1 hD1 hz1 hk1 ht hvm
      generalize H1 = H at hP hS ⊢
      replace hP : va_P (dC, dI) vwCl [(qf111, .inl (cf111, 96, .inl f111)), (h0, .inr (13, z_2)), (qf100, .inl (cf100, 48000, .inl f100))] H := hP
      replace hD : va_D A [(qf111, .inl (cf111, 96, .inl f111)), (h0, .inr (13, z_2)), (qf100, .inl (cf100, 48000, .inl f100))] := hD
      replace hK : va_K (dC, dI) vwCl [(cf111, .int), (cf100, .int)] s := hK
      obtain ⟨hwa_2, hln_2, hre_2⟩ := hw
      have hfk_2_100 : z_2[100]? = some (.ref qf100) := (hre_2 100 ).trans (hfk_1_100)
      have hfk_2_111 : z_2[111]? = some (.ref qf111) := (hre_2 111 ).trans (hfk_1_111)
      have hfk_2_132 : z_2[132]? = some (.int v132) := (hre_2 132 ).trans (hfk_1_132)
      have hfk_2_133 : z_2[133]? = some (.int v133) := (hre_2 133 ).trans (hfk_1_133)
      have hrq_2 : ∀ j : Nat, z_2[j]? = zs[j]? := fun j  => (hre_2 j ).trans (hrq_1 j )
      obtain rfl := hwa_2
      refine lv_istore_n (lv' := [(2, .int u2_0), (3, .int l3_22), (0, .ref h0), (1, .int l1_22)]) hx hb dX13_frameAt_38 rfl hl (by decide) rfl (fun ls hl => ?_)
      refine lv_iinc (v := (l3_22 + 1)) (lv' := [(3, .int (l3_22 + 1)), (2, .int u2_0), (0, .ref h0), (1, .int l1_22)]) hx hb dX13_frameAt_39 hl (k := 1) rfl rfl (by decide) rfl (fun ls hl => ?_)
      refine lv_goto (tgt := 22) hx hb dX13_frameAt_42 (by decide) ?_
      exact ih_22 H locs ls z_2 l1_22 u2_0 (l3_22 + 1) (hfk_2_100) (hfk_2_111) (hfk_2_132) (hfk_2_133) hln_2 hrq_2 (lv_sub hl [0, 1, 2, 3] rfl) hS (hD.sub (ws' := [(h0, .inr (13, z_2)), (qf111, .inl (cf111, 96, .inl f111)), (qf100, .inl (cf100, 48000, .inl f100))]) [1, 0, 2] (by decide) rfl) (hP.sub (ws' := [(h0, .inr (13, z_2)), (qf111, .inl (cf111, 96, .inl f111)), (qf100, .inl (cf100, 48000, .inl f100))]) [1, 0, 2] rfl) hsp

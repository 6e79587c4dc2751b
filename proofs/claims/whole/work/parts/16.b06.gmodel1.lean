set_option maxHeartbeats 4000000 in
set_option maxRecDepth 100000 in
/-- ClassMillModel.isJump -/
theorem tm_isJump (l : Launch) (dC : Nat → ClassId) (dI : Nat → Nat → Nat) (sz : Nat) (a1 : Int32) (nf : Nat) (r0 : Int32) (hsp : sp_tm_isJump nf a1 = some r0) : Met l yX13_isJump (.code yX13_isJump cX13_isJump 1 (some .boolean) :: VS_h5) ({ frames := 0, cells := 0, slots := 0, locals := 0 }) (va_Pc [.int a1] (fun U => U.heap.size = sz ∧ va_P (dC, dI) vwCl [] U.heap ∧ va_K (dC, dI) vwCl [] U ∧ va_D (fun _ => True) [])) (va_Qi (fun (r : Int32) (u : Unit) => match u with | () => r0 = r ∧ (r0 = 0 ∨ r0 = 1)) (fun (u : Unit) (t : State) => match u with | () => va_P (dC, dI) vwCl [] t.heap ∧ va_K (dC, dI) vwCl [] t ∧ va_D (va_A [] sz) []) (va_A [] sz)) 0 0 (va_A [] sz) := by
  refine Met.ofW (cc := cX13_isJump) (maxL := 1) (ret := (some .boolean)) (by decide) rfl ?_
  intro p e s m args below meth c s₁ B hml hv
  obtain ⟨rfl, hsz, hP, hK, hD0⟩ := hv
  have hx := B.exec
  have hb := B.bytes
  have hr := B.returns
  have hts := atoms_spec (ws := (.code yX13_isJump cX13_isJump 1 (some .boolean) :: VS_h5)) B.pre
  replace hts := fun w (h : w ∈ VS_h5) => hts w (List.mem_cons_of_mem _ h)
  have hown : s.vm.findClass RX13 = some m.cls := findClass_of_methodNamed B.named
  have hlocks := B.notSynchronized
  subst hsz
  have hD := hD0.self (sz := s.heap.size)
  generalize hAe : va_A [] s.heap.size = A at hD  ⊢
  have hA : ∀ q : Nat, s.heap.size ≤ q → A q := fun q h => by rw [← hAe]; exact Or.inr h
  have hP : va_P (dC, dI) vwCl [] s.heap := hP
  have hl := lv_entry ([.int a1]) (n := 1) (Nat.le_of_ble_eq_true rfl)
  rw [lg_entry_eq]
  generalize (lg_sl ([.int a1]) ++ List.replicate (1 - (lg_sl ([.int a1])).length) Slot.unset).toArray = ls at hl ⊢
  have hl : lv_has ls 1 [(0, .int a1)] := hl
  obtain ⟨H, hH⟩ : ∃ H : Heap, s.heap = H := ⟨_, rfl⟩
  rw [hH] at hP ⊢
  have hS : va_S A s.heap H [] := by rw [← hH]; exact va_S.rf
  obtain ⟨locs, hlo⟩ : ∃ locs : List Loc, locs = [] := ⟨_, rfl⟩
  rw [← hlo] at hS ⊢
  unfold sp_tm_isJump at hsp
  refine lv_iload_n hx hb dX13_isJump_0 rfl (lv_at hl 0 rfl) ?_
  refine lv_sipush (v := 153) hx hb dX13_isJump_1 (by decide) ?_
  refine lv_icmp_lt (tgt := 18) hx hb dX13_isJump_4 (by decide) (fun c_1 => ?_) (fun c_1 => ?_)
  · rw [if_pos c_1] at hsp
    refine lv_iconst (v := 0) hx hb dX13_isJump_18 (by decide) ?_
    have hr0 := Option.some.inj hsp
    clear hsp
    subst hr0
    have hP9 := hP.sub (ws' := []) [] rfl
    have hD9 := hD.sub (ws' := []) [] (by decide) rfl
    have hK9 := hK.sub (tys' := []) [] rfl
    exact W.zret hx hb hr (by decide) (fun t ht hW => ⟨⟨(0), (), rfl, ⟨rfl, Or.inl rfl⟩, by rw [ht]; exact hP9, va_K.moved hW.alike hK9, hD9⟩, hS.F ht⟩) hS.2.2 dX13_isJump_19
  · rw [if_neg c_1] at hsp
    refine lv_iload_n hx hb dX13_isJump_7 rfl (lv_at hl 0 rfl) ?_
    refine lv_sipush (v := 167) hx hb dX13_isJump_8 (by decide) ?_
    refine lv_icmp_gt (tgt := 18) hx hb dX13_isJump_11 (by decide) (fun c_2 => ?_) (fun c_2 => ?_)
    · rw [if_pos c_2] at hsp
      refine lv_iconst (v := 0) hx hb dX13_isJump_18 (by decide) ?_
      have hr0 := Option.some.inj hsp
      clear hsp
      subst hr0
      have hP9 := hP.sub (ws' := []) [] rfl
      have hD9 := hD.sub (ws' := []) [] (by decide) rfl
      have hK9 := hK.sub (tys' := []) [] rfl
      exact W.zret hx hb hr (by decide) (fun t ht hW => ⟨⟨(0), (), rfl, ⟨rfl, Or.inl rfl⟩, by rw [ht]; exact hP9, va_K.moved hW.alike hK9, hD9⟩, hS.F ht⟩) hS.2.2 dX13_isJump_19
    · rw [if_neg c_2] at hsp
      refine lv_iconst (v := 1) hx hb dX13_isJump_14 (by decide) ?_
      refine lv_goto (tgt := 19) hx hb dX13_isJump_15 (by decide) ?_
      have hr0 := Option.some.inj hsp
      clear hsp
      subst hr0
      have hP9 := hP.sub (ws' := []) [] rfl
      have hD9 := hD.sub (ws' := []) [] (by decide) rfl
      have hK9 := hK.sub (tys' := []) [] rfl
      exact W.zret hx hb hr (by decide) (fun t ht hW => ⟨⟨(1), (), rfl, ⟨rfl, Or.inr rfl⟩, by rw [ht]; exact hP9, va_K.moved hW.alike hK9, hD9⟩, hS.F ht⟩) hS.2.2 dX13_isJump_19
def sp_tm_code (nf : Nat) (a1 : Int32) (v132 : Int32) (v134 : Int32) (f100 : Nat → Int32) : Option (Int32) := ((sp_tm_byteAt nf v132 (v134 + a1) f100).bind (fun p1 => (some p1)))
set_option maxHeartbeats 4000000 in
set_option maxRecDepth 100000 in
/-- ClassMillModel.code -/
theorem tm_code (l : Launch) (dC : Nat → ClassId) (dI : Nat → Nat → Nat) (sz : Nat) (h0 : Nat) (zs : (List Value)) (a1 : Int32) (qf100 : Nat) (v132 : Int32) (v134 : Int32) (cf100 : ClassId) (f100 : (Nat → Int32)) (nf : Nat) (r0 : Int32) (hlen : zs.length = 155) (hf100 : zs[100]? = some (.ref qf100)) (hf132 : zs[132]? = some (.int v132)) (hf134 : zs[134]? = some (.int v134)) (hsp : sp_tm_code nf a1 v132 v134 f100 = some r0) : Met l yX13_code (.code yX13_code cX13_code 2 (some .int) :: VS_h5) ({ frames := 1, cells := 0, slots := 0, locals := 22 }) (va_Pc [.ref h0, .int a1] (fun U => U.heap.size = sz ∧ va_P (dC, dI) vwCl [(h0, .inr (13, zs)), (qf100, .inl (cf100, 48000, .inl f100))] U.heap ∧ va_K (dC, dI) vwCl [(cf100, .int)] U ∧ va_D (fun _ => True) [(h0, .inr (13, zs)), (qf100, .inl (cf100, 48000, .inl f100))])) (va_Qi (fun (r : Int32) (u : (List Value)) => match u with | (zo1) => r0 = r ∧ zo1.length = 155 ∧ (∀ j : Nat, zo1[j]? = zs[j]?)) (fun (u : (List Value)) (t : State) => match u with | (zo1) => va_P (dC, dI) vwCl [(h0, .inr (13, zo1)), (qf100, .inl (cf100, 48000, .inl f100))] t.heap ∧ va_K (dC, dI) vwCl [(cf100, .int)] t ∧ va_D (va_A [(h0, .inr (13, zs)), (qf100, .inl (cf100, 48000, .inl f100))] sz) [(h0, .inr (13, zo1)), (qf100, .inl (cf100, 48000, .inl f100))]) (va_A [(h0, .inr (13, zs)), (qf100, .inl (cf100, 48000, .inl f100))] sz)) 0 0 (va_A [(h0, .inr (13, zs)), (qf100, .inl (cf100, 48000, .inl f100))] sz) := by
  refine Met.ofW (cc := cX13_code) (maxL := 2) (ret := (some .int)) (by decide) rfl ?_
  intro p e s m args below meth c s₁ B hml hv
  obtain ⟨rfl, hsz, hP, hK, hD0⟩ := hv
  have hx := B.exec
  have hb := B.bytes
  have hr := B.returns
  have hts := atoms_spec (ws := (.code yX13_code cX13_code 2 (some .int) :: VS_h5)) B.pre
  replace hts := fun w (h : w ∈ VS_h5) => hts w (List.mem_cons_of_mem _ h)
  have hown : s.vm.findClass RX13 = some m.cls := findClass_of_methodNamed B.named
  have hlocks := B.notSynchronized
  subst hsz
  have hD := hD0.self (sz := s.heap.size)
  generalize hAe : va_A [(h0, .inr (13, zs)), (qf100, .inl (cf100, 48000, .inl f100))] s.heap.size = A at hD  ⊢
  have hA : ∀ q : Nat, s.heap.size ≤ q → A q := fun q h => by rw [← hAe]; exact Or.inr h
  have hP : va_P (dC, dI) vwCl [(h0, .inr (13, zs)), (qf100, .inl (cf100, 48000, .inl f100))] s.heap := hP
  have hl := lv_entry ([.ref h0, .int a1]) (n := 2) (Nat.le_of_ble_eq_true rfl)
  rw [lg_entry_eq]
  generalize (lg_sl ([.ref h0, .int a1]) ++ List.replicate (2 - (lg_sl ([.ref h0, .int a1])).length) Slot.unset).toArray = ls at hl ⊢
  have hl : lv_has ls 2 [(0, .ref h0), (1, .int a1)] := hl
  obtain ⟨H, hH⟩ : ∃ H : Heap, s.heap = H := ⟨_, rfl⟩
  rw [hH] at hP ⊢
  have hS : va_S A s.heap H [] := by rw [← hH]; exact va_S.rf
  obtain ⟨locs, hlo⟩ : ∃ locs : List Loc, locs = [] := ⟨_, rfl⟩
  rw [← hlo] at hS ⊢
  have hrs0 : ∀ j : Nat, zs[j]? = zs[j]? := fun _  => rfl
  unfold sp_tm_code at hsp
  refine lv_aload_n hx hb dX13_code_0 rfl (lv_at hl 0 rfl) ?_
  refine lv_aload_n hx hb dX13_code_1 rfl (lv_at hl 0 rfl) ?_
  refine va_get (D := (dC, dI)) (ci := 13) (v := .int v132) (C := RX13) (T := TX13) (N := 155) hx hb hts uV_h5_X13 hown hK hP 0 rfl rfl 132 (by decide) (hts (.fieldLink RX13 932 "ClassMillModel" "inClass" "I") mw_h5_118) (fun _ h9 => h9) hf132 dX13_code_2 ?_
  refine lv_aload_n hx hb dX13_code_5 rfl (lv_at hl 0 rfl) ?_
  refine va_get (D := (dC, dI)) (ci := 13) (v := .int v134) (C := RX13) (T := TX13) (N := 155) hx hb hts uV_h5_X13 hown hK hP 0 rfl rfl 134 (by decide) (hts (.fieldLink RX13 935 "ClassMillModel" "codeAt" "I") mw_h5_119) (fun _ h9 => h9) hf134 dX13_code_6 ?_
  refine lv_iload_n hx hb dX13_code_9 rfl (lv_at hl 1 rfl) ?_
  refine lv_iadd hx hb dX13_code_10 ?_
  obtain ⟨u1_0, hu_1, hsp⟩ := ox_bind hsp
  try dsimp only at hsp
  have hPc := hP.sub (ws' := [(h0, .inr (13, zs)), (qf100, .inl (cf100, 48000, .inl f100))]) [0, 1] rfl
  have hDc := hD.sub (ws' := [(h0, .inr (13, zs)), (qf100, .inl (cf100, 48000, .inl f100))]) [0, 1] (by decide) rfl
  have hKc := hK.sub (tys' := [(cf100, .int)]) [0] rfl
  have hFc := va_free (wc := [(h0, .inr (13, zs)), (qf100, .inl (cf100, 48000, .inl f100))]) hD hS hA [0, 1] rfl
  refine va_calli (va_runV (As := [.int v132, .int (v134 + a1)]) (rest := []) ⟨hx, hb, hml, hown, hts⟩ (tm_byteAt l dC dI H.size h0 zs v132 ((v134 + a1)) qf100 cf100 f100 nf u1_0 hlen hf100 hu_1) (cwV 2 hts gv_h5_13 rfl rfl rfl (by decide +kernel) ⟨Nat.le_of_ble_eq_true rfl, Nat.le_of_ble_eq_true rfl⟩) ⟨fun a U g mk q => by obtain ⟨q0, q1, qP, qK, qD⟩ := q; exact ⟨q0, q1, qP, va_K.moved (u := U) (U := U.calling g mk a) (Vm.Alike.refl U.vm) qK, qD⟩, va_recv hKc hPc (ci := 13) (q0 := 0) rfl rfl, fun U hU hW => ⟨rfl, by rw [hU], by rw [hU]; exact hPc, va_K.moved hW.alike hKc, hDc.weaken (fun _ _ _ _ => trivial)⟩⟩ rfl rfl hl.1 rfl (lv_room (Nat.le_of_ble_eq_true rfl)) dX13_code_11 ⟨Nat.le_of_ble_eq_true rfl, Nat.le_of_ble_eq_true rfl⟩) hS (fun q _ h => hFc q h) hFc ?_
  clear hS
  intro r_1 u t H1 locs ht hvm hw hB hz1 hk1 hS
  obtain ⟨z_1, rfl⟩ : ∃ z, z = u := ⟨_, rfl⟩
  obtain ⟨hP1, hK1, hD1⟩ := hB
  rw [ht] at hP1
  have hK1 := va_K.moved hvm.symm hK1
  try dsimp only at hw
  have hPD := va_join (wr := []) (w1 := [(h0, .inr (13, z_1)), (qf100, .inl (cf100, 48000, .inl f100))]) hP hD [0, 1] [] rfl rfl (by decide) (by decide) hk1 hFc hP1 hD1
  clear hP hD
  obtain ⟨hP, hD⟩ := hPD
  replace hK := (hK.sub (tys' := []) [] rfl).app hK1
  clear hPc hDc hKc hFc hP1 hK1 hD1 hz1 hk1 ht hvm
  generalize H1 = H at hP hS ⊢
  replace hP : va_P (dC, dI) vwCl [(h0, .inr (13, z_1)), (qf100, .inl (cf100, 48000, .inl f100))] H := hP
  replace hD : va_D A [(h0, .inr (13, z_1)), (qf100, .inl (cf100, 48000, .inl f100))] := hD
  replace hK : va_K (dC, dI) vwCl [(cf100, .int)] s := hK
  obtain ⟨hwa_1, hln_1, hre_1⟩ := hw
  have hfk_1_100 : z_1[100]? = some (.ref qf100) := (hre_1 100 ).trans (hf100)
  have hfk_1_132 : z_1[132]? = some (.int v132) := (hre_1 132 ).trans (hf132)
  have hfk_1_134 : z_1[134]? = some (.int v134) := (hre_1 134 ).trans (hf134)
  have hrq_1 : ∀ j : Nat, z_1[j]? = zs[j]? := fun j  => (hre_1 j ).trans (hrs0 j )
  obtain rfl := hwa_1
  have hr0 := Option.some.inj hsp
  clear hsp
  subst hr0
  have hP9 := hP.sub (ws' := [(h0, .inr (13, z_1)), (qf100, .inl (cf100, 48000, .inl f100))]) [0, 1] rfl
  have hD9 := hD.sub (ws' := [(h0, .inr (13, z_1)), (qf100, .inl (cf100, 48000, .inl f100))]) [0, 1] (by decide) rfl
  have hK9 := hK.sub (tys' := [(cf100, .int)]) [0] rfl
  exact W.iret hx hb hr (fun t ht hW => ⟨⟨(u1_0), (z_1), rfl, ⟨rfl, hln_1, hrq_1⟩, by rw [ht]; exact hP9, va_K.moved hW.alike hK9, hD9⟩, hS.F ht⟩) hS.2.2 dX13_code_14
def sp_tm_aimOf (nf : Nat) (a1 : Int32) (v132 : Int32) (v134 : Int32) (f100 : Nat → Int32) : Option (Int32) := ((sp_tm_code nf (a1 + 1) v132 v134 f100).bind (fun p1 => ((sp_tm_code nf (a1 + 2) v132 v134 f100).bind (fun p2 => (some (a1 + ((((p1 <<< (8 &&& 31)) ||| p2) : Int32).toInt16.toInt32)))))))
set_option maxHeartbeats 4000000 in
set_option maxRecDepth 100000 in
/-- ClassMillModel.aimOf -/
theorem tm_aimOf (l : Launch) (dC : Nat → ClassId) (dI : Nat → Nat → Nat) (sz : Nat) (h0 : Nat) (zs : (List Value)) (a1 : Int32) (qf100 : Nat) (v132 : Int32) (v134 : Int32) (cf100 : ClassId) (f100 : (Nat → Int32)) (nf : Nat) (r0 : Int32) (hlen : zs.length = 155) (hf100 : zs[100]? = some (.ref qf100)) (hf132 : zs[132]? = some (.int v132)) (hf134 : zs[134]? = some (.int v134)) (hsp : sp_tm_aimOf nf a1 v132 v134 f100 = some r0) : Met l yX13_aimOf (.code yX13_aimOf cX13_aimOf 2 (some .int) :: VS_h5) ({ frames := 2, cells := 0, slots := 0, locals := 43 }) (va_Pc [.ref h0, .int a1] (fun U => U.heap.size = sz ∧ va_P (dC, dI) vwCl [(h0, .inr (13, zs)), (qf100, .inl (cf100, 48000, .inl f100))] U.heap ∧ va_K (dC, dI) vwCl [(cf100, .int)] U ∧ va_D (fun _ => True) [(h0, .inr (13, zs)), (qf100, .inl (cf100, 48000, .inl f100))])) (va_Qi (fun (r : Int32) (u : (List Value)) => match u with | (zo1) => r0 = r ∧ zo1.length = 155 ∧ (∀ j : Nat, zo1[j]? = zs[j]?)) (fun (u : (List Value)) (t : State) => match u with | (zo1) => va_P (dC, dI) vwCl [(h0, .inr (13, zo1)), (qf100, .inl (cf100, 48000, .inl f100))] t.heap ∧ va_K (dC, dI) vwCl [(cf100, .int)] t ∧ va_D (va_A [(h0, .inr (13, zs)), (qf100, .inl (cf100, 48000, .inl f100))] sz) [(h0, .inr (13, zo1)), (qf100, .inl (cf100, 48000, .inl f100))]) (va_A [(h0, .inr (13, zs)), (qf100, .inl (cf100, 48000, .inl f100))] sz)) 0 0 (va_A [(h0, .inr (13, zs)), (qf100, .inl (cf100, 48000, .inl f100))] sz) := by
  refine Met.ofW (cc := cX13_aimOf) (maxL := 2) (ret := (some .int)) (by decide) rfl ?_
  intro p e s m args below meth c s₁ B hml hv
  obtain ⟨rfl, hsz, hP, hK, hD0⟩ := hv
  have hx := B.exec
  have hb := B.bytes
  have hr := B.returns
  have hts := atoms_spec (ws := (.code yX13_aimOf cX13_aimOf 2 (some .int) :: VS_h5)) B.pre
  replace hts := fun w (h : w ∈ VS_h5) => hts w (List.mem_cons_of_mem _ h)
  have hown : s.vm.findClass RX13 = some m.cls := findClass_of_methodNamed B.named
  have hlocks := B.notSynchronized
  subst hsz
  have hD := hD0.self (sz := s.heap.size)
  generalize hAe : va_A [(h0, .inr (13, zs)), (qf100, .inl (cf100, 48000, .inl f100))] s.heap.size = A at hD  ⊢
  have hA : ∀ q : Nat, s.heap.size ≤ q → A q := fun q h => by rw [← hAe]; exact Or.inr h
  have hP : va_P (dC, dI) vwCl [(h0, .inr (13, zs)), (qf100, .inl (cf100, 48000, .inl f100))] s.heap := hP
  have hl := lv_entry ([.ref h0, .int a1]) (n := 2) (Nat.le_of_ble_eq_true rfl)
  rw [lg_entry_eq]
  generalize (lg_sl ([.ref h0, .int a1]) ++ List.replicate (2 - (lg_sl ([.ref h0, .int a1])).length) Slot.unset).toArray = ls at hl ⊢
  have hl : lv_has ls 2 [(0, .ref h0), (1, .int a1)] := hl
  obtain ⟨H, hH⟩ : ∃ H : Heap, s.heap = H := ⟨_, rfl⟩
  rw [hH] at hP ⊢
  have hS : va_S A s.heap H [] := by rw [← hH]; exact va_S.rf
  obtain ⟨locs, hlo⟩ : ∃ locs : List Loc, locs = [] := ⟨_, rfl⟩
  rw [← hlo] at hS ⊢
  have hrs0 : ∀ j : Nat, zs[j]? = zs[j]? := fun _  => rfl
  unfold sp_tm_aimOf at hsp
  refine lv_iload_n hx hb dX13_aimOf_0 rfl (lv_at hl 1 rfl) ?_
  refine lv_aload_n hx hb dX13_aimOf_1 rfl (lv_at hl 0 rfl) ?_
  refine lv_iload_n hx hb dX13_aimOf_2 rfl (lv_at hl 1 rfl) ?_
  refine lv_iconst (v := 1) hx hb dX13_aimOf_3 (by decide) ?_
  refine lv_iadd hx hb dX13_aimOf_4 ?_
  obtain ⟨u1_0, hu_1, hsp⟩ := ox_bind hsp
  try dsimp only at hsp
  have hPc := hP.sub (ws' := [(h0, .inr (13, zs)), (qf100, .inl (cf100, 48000, .inl f100))]) [0, 1] rfl
  have hDc := hD.sub (ws' := [(h0, .inr (13, zs)), (qf100, .inl (cf100, 48000, .inl f100))]) [0, 1] (by decide) rfl
  have hKc := hK.sub (tys' := [(cf100, .int)]) [0] rfl
  have hFc := va_free (wc := [(h0, .inr (13, zs)), (qf100, .inl (cf100, 48000, .inl f100))]) hD hS hA [0, 1] rfl
  refine va_calli (va_runV (As := [.int (a1 + 1)]) (rest := [.int a1]) ⟨hx, hb, hml, hown, hts⟩ (tm_code l dC dI H.size h0 zs ((a1 + 1)) qf100 v132 v134 cf100 f100 nf u1_0 hlen hf100 hf132 hf134 hu_1) (cwV 1 hts gv_h5_15 rfl rfl rfl (by decide +kernel) ⟨Nat.le_of_ble_eq_true rfl, Nat.le_of_ble_eq_true rfl⟩) ⟨fun a U g mk q => by obtain ⟨q0, q1, qP, qK, qD⟩ := q; exact ⟨q0, q1, qP, va_K.moved (u := U) (U := U.calling g mk a) (Vm.Alike.refl U.vm) qK, qD⟩, va_recv hKc hPc (ci := 13) (q0 := 0) rfl rfl, fun U hU hW => ⟨rfl, by rw [hU], by rw [hU]; exact hPc, va_K.moved hW.alike hKc, hDc.weaken (fun _ _ _ _ => trivial)⟩⟩ rfl rfl hl.1 rfl (lv_room (Nat.le_of_ble_eq_true rfl)) dX13_aimOf_5 ⟨Nat.le_of_ble_eq_true rfl, Nat.le_of_ble_eq_true rfl⟩) hS (fun q _ h => hFc q h) hFc ?_
  clear hS
  intro r_1 u t H1 locs ht hvm hw hB hz1 hk1 hS
  obtain ⟨z_1, rfl⟩ : ∃ z, z = u := ⟨_, rfl⟩
  obtain ⟨hP1, hK1, hD1⟩ := hB
  rw [ht] at hP1
  have hK1 := va_K.moved hvm.symm hK1
  try dsimp only at hw
  have hPD := va_join (wr := []) (w1 := [(h0, .inr (13, z_1)), (qf100, .inl (cf100, 48000, .inl f100))]) hP hD [0, 1] [] rfl rfl (by decide) (by decide) hk1 hFc hP1 hD1
  clear hP hD
  obtain ⟨hP, hD⟩ := hPD
  replace hK := (hK.sub (tys' := []) [] rfl).app hK1
  clear hPc hDc hKc hFc hP1 hK1 hD1 hz1 hk1 ht hvm
  generalize H1 = H at hP hS ⊢
  replace hP : va_P (dC, dI) vwCl [(h0, .inr (13, z_1)), (qf100, .inl (cf100, 48000, .inl f100))] H := hP
  replace hD : va_D A [(h0, .inr (13, z_1)), (qf100, .inl (cf100, 48000, .inl f100))] := hD
  replace hK : va_K (dC, dI) vwCl [(cf100, .int)] s := hK
  obtain ⟨hwa_1, hln_1, hre_1⟩ := hw
  have hfk_1_100 : z_1[100]? = some (.ref qf100) := (hre_1 100 ).trans (hf100)
  have hfk_1_132 : z_1[132]? = some (.int v132) := (hre_1 132 ).trans (hf132)
  have hfk_1_134 : z_1[134]? = some (.int v134) := (hre_1 134 ).trans (hf134)
  have hrq_1 : ∀ j : Nat, z_1[j]? = zs[j]? := fun j  => (hre_1 j ).trans (hrs0 j )
  obtain rfl := hwa_1
  refine lv_bipush (v := 8) hx hb dX13_aimOf_8 (by decide) ?_
  refine lv_ishl hx hb dX13_aimOf_10 ?_
  refine lv_aload_n hx hb dX13_aimOf_11 rfl (lv_at hl 0 rfl) ?_
  refine lv_iload_n hx hb dX13_aimOf_12 rfl (lv_at hl 1 rfl) ?_
  refine lv_iconst (v := 2) hx hb dX13_aimOf_13 (by decide) ?_
  refine lv_iadd hx hb dX13_aimOf_14 ?_
  obtain ⟨u2_0, hu_2, hsp⟩ := ox_bind hsp
  try dsimp only at hsp
  have hPc := hP.sub (ws' := [(h0, .inr (13, z_1)), (qf100, .inl (cf100, 48000, .inl f100))]) [0, 1] rfl
  have hDc := hD.sub (ws' := [(h0, .inr (13, z_1)), (qf100, .inl (cf100, 48000, .inl f100))]) [0, 1] (by decide) rfl
  have hKc := hK.sub (tys' := [(cf100, .int)]) [0] rfl
  have hFc := va_free (wc := [(h0, .inr (13, z_1)), (qf100, .inl (cf100, 48000, .inl f100))]) hD hS hA [0, 1] rfl
  refine va_calli (va_runV (As := [.int (a1 + 2)]) (rest := [.int (u1_0 <<< (8 &&& 31)), .int a1]) ⟨hx, hb, hml, hown, hts⟩ (tm_code l dC dI H.size h0 z_1 ((a1 + 2)) qf100 v132 v134 cf100 f100 nf u2_0 hln_1 hfk_1_100 hfk_1_132 hfk_1_134 hu_2) (cwV 1 hts gv_h5_15 rfl rfl rfl (by decide +kernel) ⟨Nat.le_of_ble_eq_true rfl, Nat.le_of_ble_eq_true rfl⟩) ⟨fun a U g mk q => by obtain ⟨q0, q1, qP, qK, qD⟩ := q; exact ⟨q0, q1, qP, va_K.moved (u := U) (U := U.calling g mk a) (Vm.Alike.refl U.vm) qK, qD⟩, va_recv hKc hPc (ci := 13) (q0 := 0) rfl rfl, fun U hU hW => ⟨rfl, by rw [hU], by rw [hU]; exact hPc, va_K.moved hW.alike hKc, hDc.weaken (fun _ _ _ _ => trivial)⟩⟩ rfl rfl hl.1 rfl (lv_room (Nat.le_of_ble_eq_true rfl)) dX13_aimOf_15 ⟨Nat.le_of_ble_eq_true rfl, Nat.le_of_ble_eq_true rfl⟩) hS (fun q _ h => hFc q h) hFc ?_
  clear hS
  intro r_2 u t H1 locs ht hvm hw hB hz1 hk1 hS
  obtain ⟨z_2, rfl⟩ : ∃ z, z = u := ⟨_, rfl⟩
  obtain ⟨hP1, hK1, hD1⟩ := hB
  rw [ht] at hP1
  have hK1 := va_K.moved hvm.symm hK1
  try dsimp only at hw
  have hPD := va_join (wr := []) (w1 := [(h0, .inr (13, z_2)), (qf100, .inl (cf100, 48000, .inl f100))]) hP hD [0, 1] [] rfl rfl (by decide) (by decide) hk1 hFc hP1 hD1
  clear hP hD
  obtain ⟨hP, hD⟩ := hPD
  replace hK := (hK.sub (tys' := []) [] rfl).app hK1
  clear hPc hDc hKc hFc hP1 hK1 hD1 hz1 hk1 ht hvm
  generalize H1 = H at hP hS ⊢
  replace hP : va_P (dC, dI) vwCl [(h0, .inr (13, z_2)), (qf100, .inl (cf100, 48000, .inl f100))] H := hP
  replace hD : va_D A [(h0, .inr (13, z_2)), (qf100, .inl (cf100, 48000, .inl f100))] := hD
  replace hK : va_K (dC, dI) vwCl [(cf100, .int)] s := hK
  obtain ⟨hwa_2, hln_2, hre_2⟩ := hw
  have hfk_2_100 : z_2[100]? = some (.ref qf100) := (hre_2 100 ).trans (hfk_1_100)
  have hfk_2_132 : z_2[132]? = some (.int v132) := (hre_2 132 ).trans (hfk_1_132)
  have hfk_2_134 : z_2[134]? = some (.int v134) := (hre_2 134 ).trans (hfk_1_134)
  have hrq_2 : ∀ j : Nat, z_2[j]? = zs[j]? := fun j  => (hre_2 j ).trans (hrq_1 j )
  obtain rfl := hwa_2
  refine lv_ior hx hb dX13_aimOf_18 ?_
  refine lv_i2s hx hb dX13_aimOf_19 rfl ?_
  refine lv_iadd hx hb dX13_aimOf_20 ?_
  have hr0 := Option.some.inj hsp
  clear hsp
  subst hr0
  have hP9 := hP.sub (ws' := [(h0, .inr (13, z_2)), (qf100, .inl (cf100, 48000, .inl f100))]) [0, 1] rfl
  have hD9 := hD.sub (ws' := [(h0, .inr (13, z_2)), (qf100, .inl (cf100, 48000, .inl f100))]) [0, 1] (by decide) rfl
  have hK9 := hK.sub (tys' := [(cf100, .int)]) [0] rfl
  exact W.iret hx hb hr (fun t ht hW => ⟨⟨((a1 + ((((u1_0 <<< (8 &&& 31)) ||| u2_0) : Int32).toInt16.toInt32))), (z_2), rfl, ⟨rfl, hln_2, hrq_2⟩, by rw [ht]; exact hP9, va_K.moved hW.alike hK9, hD9⟩, hS.F ht⟩) hS.2.2 dX13_aimOf_21
def sp_tm_pairIn (nf : Nat) (a1 : Int32) (v132 : Int32) (f100 : Nat → Int32) : Option (Int32) := ((sp_tm_byteAt nf v132 a1 f100).bind (fun p1 => ((sp_tm_byteAt nf v132 (a1 + 1) f100).bind (fun p2 => (some ((p1 <<< (8 &&& 31)) ||| p2))))))
set_option maxHeartbeats 4000000 in
set_option maxRecDepth 100000 in
/-- ClassMillModel.pairIn -/
theorem tm_pairIn (l : Launch) (dC : Nat → ClassId) (dI : Nat → Nat → Nat) (sz : Nat) (h0 : Nat) (zs : (List Value)) (a1 : Int32) (qf100 : Nat) (v132 : Int32) (cf100 : ClassId) (f100 : (Nat → Int32)) (nf : Nat) (r0 : Int32) (hlen : zs.length = 155) (hf100 : zs[100]? = some (.ref qf100)) (hf132 : zs[132]? = some (.int v132)) (hsp : sp_tm_pairIn nf a1 v132 f100 = some r0) : Met l yX13_pairIn (.code yX13_pairIn cX13_pairIn 2 (some .int) :: VS_h5) ({ frames := 1, cells := 0, slots := 0, locals := 22 }) (va_Pc [.ref h0, .int a1] (fun U => U.heap.size = sz ∧ va_P (dC, dI) vwCl [(h0, .inr (13, zs)), (qf100, .inl (cf100, 48000, .inl f100))] U.heap ∧ va_K (dC, dI) vwCl [(cf100, .int)] U ∧ va_D (fun _ => True) [(h0, .inr (13, zs)), (qf100, .inl (cf100, 48000, .inl f100))])) (va_Qi (fun (r : Int32) (u : (List Value)) => match u with | (zo1) => r0 = r ∧ zo1.length = 155 ∧ (∀ j : Nat, zo1[j]? = zs[j]?)) (fun (u : (List Value)) (t : State) => match u with | (zo1) => va_P (dC, dI) vwCl [(h0, .inr (13, zo1)), (qf100, .inl (cf100, 48000, .inl f100))] t.heap ∧ va_K (dC, dI) vwCl [(cf100, .int)] t ∧ va_D (va_A [(h0, .inr (13, zs)), (qf100, .inl (cf100, 48000, .inl f100))] sz) [(h0, .inr (13, zo1)), (qf100, .inl (cf100, 48000, .inl f100))]) (va_A [(h0, .inr (13, zs)), (qf100, .inl (cf100, 48000, .inl f100))] sz)) 0 0 (va_A [(h0, .inr (13, zs)), (qf100, .inl (cf100, 48000, .inl f100))] sz) := by
  refine Met.ofW (cc := cX13_pairIn) (maxL := 2) (ret := (some .int)) (by decide) rfl ?_
  intro p e s m args below meth c s₁ B hml hv
  obtain ⟨rfl, hsz, hP, hK, hD0⟩ := hv
  have hx := B.exec
  have hb := B.bytes
  have hr := B.returns
  have hts := atoms_spec (ws := (.code yX13_pairIn cX13_pairIn 2 (some .int) :: VS_h5)) B.pre
  replace hts := fun w (h : w ∈ VS_h5) => hts w (List.mem_cons_of_mem _ h)
  have hown : s.vm.findClass RX13 = some m.cls := findClass_of_methodNamed B.named
  have hlocks := B.notSynchronized
  subst hsz
  have hD := hD0.self (sz := s.heap.size)
  generalize hAe : va_A [(h0, .inr (13, zs)), (qf100, .inl (cf100, 48000, .inl f100))] s.heap.size = A at hD  ⊢
  have hA : ∀ q : Nat, s.heap.size ≤ q → A q := fun q h => by rw [← hAe]; exact Or.inr h
  have hP : va_P (dC, dI) vwCl [(h0, .inr (13, zs)), (qf100, .inl (cf100, 48000, .inl f100))] s.heap := hP
  have hl := lv_entry ([.ref h0, .int a1]) (n := 2) (Nat.le_of_ble_eq_true rfl)
  rw [lg_entry_eq]
  generalize (lg_sl ([.ref h0, .int a1]) ++ List.replicate (2 - (lg_sl ([.ref h0, .int a1])).length) Slot.unset).toArray = ls at hl ⊢
  have hl : lv_has ls 2 [(0, .ref h0), (1, .int a1)] := hl
  obtain ⟨H, hH⟩ : ∃ H : Heap, s.heap = H := ⟨_, rfl⟩
  rw [hH] at hP ⊢
  have hS : va_S A s.heap H [] := by rw [← hH]; exact va_S.rf
  obtain ⟨locs, hlo⟩ : ∃ locs : List Loc, locs = [] := ⟨_, rfl⟩
  rw [← hlo] at hS ⊢
  have hrs0 : ∀ j : Nat, zs[j]? = zs[j]? := fun _  => rfl
  unfold sp_tm_pairIn at hsp
  refine lv_aload_n hx hb dX13_pairIn_0 rfl (lv_at hl 0 rfl) ?_
  refine lv_aload_n hx hb dX13_pairIn_1 rfl (lv_at hl 0 rfl) ?_
  refine va_get (D := (dC, dI)) (ci := 13) (v := .int v132) (C := RX13) (T := TX13) (N := 155) hx hb hts uV_h5_X13 hown hK hP 0 rfl rfl 132 (by decide) (hts (.fieldLink RX13 932 "ClassMillModel" "inClass" "I") mw_h5_118) (fun _ h9 => h9) hf132 dX13_pairIn_2 ?_
  refine lv_iload_n hx hb dX13_pairIn_5 rfl (lv_at hl 1 rfl) ?_
  obtain ⟨u1_0, hu_1, hsp⟩ := ox_bind hsp
  try dsimp only at hsp
  have hPc := hP.sub (ws' := [(h0, .inr (13, zs)), (qf100, .inl (cf100, 48000, .inl f100))]) [0, 1] rfl
  have hDc := hD.sub (ws' := [(h0, .inr (13, zs)), (qf100, .inl (cf100, 48000, .inl f100))]) [0, 1] (by decide) rfl
  have hKc := hK.sub (tys' := [(cf100, .int)]) [0] rfl
  have hFc := va_free (wc := [(h0, .inr (13, zs)), (qf100, .inl (cf100, 48000, .inl f100))]) hD hS hA [0, 1] rfl
  refine va_calli (va_runV (As := [.int v132, .int a1]) (rest := []) ⟨hx, hb, hml, hown, hts⟩ (tm_byteAt l dC dI H.size h0 zs v132 a1 qf100 cf100 f100 nf u1_0 hlen hf100 hu_1) (cwV 2 hts gv_h5_13 rfl rfl rfl (by decide +kernel) ⟨Nat.le_of_ble_eq_true rfl, Nat.le_of_ble_eq_true rfl⟩) ⟨fun a U g mk q => by obtain ⟨q0, q1, qP, qK, qD⟩ := q; exact ⟨q0, q1, qP, va_K.moved (u := U) (U := U.calling g mk a) (Vm.Alike.refl U.vm) qK, qD⟩, va_recv hKc hPc (ci := 13) (q0 := 0) rfl rfl, fun U hU hW => ⟨rfl, by rw [hU], by rw [hU]; exact hPc, va_K.moved hW.alike hKc, hDc.weaken (fun _ _ _ _ => trivial)⟩⟩ rfl rfl hl.1 rfl (lv_room (Nat.le_of_ble_eq_true rfl)) dX13_pairIn_6 ⟨Nat.le_of_ble_eq_true rfl, Nat.le_of_ble_eq_true rfl⟩) hS (fun q _ h => hFc q h) hFc ?_
  clear hS
  intro r_1 u t H1 locs ht hvm hw hB hz1 hk1 hS
  obtain ⟨z_1, rfl⟩ : ∃ z, z = u := ⟨_, rfl⟩
  obtain ⟨hP1, hK1, hD1⟩ := hB
  rw [ht] at hP1
  have hK1 := va_K.moved hvm.symm hK1
  try dsimp only at hw
  have hPD := va_join (wr := []) (w1 := [(h0, .inr (13, z_1)), (qf100, .inl (cf100, 48000, .inl f100))]) hP hD [0, 1] [] rfl rfl (by decide) (by decide) hk1 hFc hP1 hD1
  clear hP hD
  obtain ⟨hP, hD⟩ := hPD
  replace hK := (hK.sub (tys' := []) [] rfl).app hK1
  clear hPc hDc hKc hFc hP1 hK1 hD1 hz1 hk1 ht hvm
  generalize H1 = H at hP hS ⊢
  replace hP : va_P (dC, dI) vwCl [(h0, .inr (13, z_1)), (qf100, .inl (cf100, 48000, .inl f100))] H := hP
  replace hD : va_D A [(h0, .inr (13, z_1)), (qf100, .inl (cf100, 48000, .inl f100))] := hD
  replace hK : va_K (dC, dI) vwCl [(cf100, .int)] s := hK
  obtain ⟨hwa_1, hln_1, hre_1⟩ := hw
  have hfk_1_100 : z_1[100]? = some (.ref qf100) := (hre_1 100 ).trans (hf100)
  have hfk_1_132 : z_1[132]? = some (.int v132) := (hre_1 132 ).trans (hf132)
  have hrq_1 : ∀ j : Nat, z_1[j]? = zs[j]? := fun j  => (hre_1 j ).trans (hrs0 j )
  obtain rfl := hwa_1
  refine lv_bipush (v := 8) hx hb dX13_pairIn_9 (by decide) ?_
  refine lv_ishl hx hb dX13_pairIn_11 ?_
  refine lv_aload_n hx hb dX13_pairIn_12 rfl (lv_at hl 0 rfl) ?_
  refine lv_aload_n hx hb dX13_pairIn_13 rfl (lv_at hl 0 rfl) ?_
  refine va_get (D := (dC, dI)) (ci := 13) (v := .int v132) (C := RX13) (T := TX13) (N := 155) hx hb hts uV_h5_X13 hown hK hP 0 rfl rfl 132 (by decide) (hts (.fieldLink RX13 932 "ClassMillModel" "inClass" "I") mw_h5_118) (fun _ h9 => h9) hfk_1_132 dX13_pairIn_14 ?_
  refine lv_iload_n hx hb dX13_pairIn_17 rfl (lv_at hl 1 rfl) ?_
  refine lv_iconst (v := 1) hx hb dX13_pairIn_18 (by decide) ?_
  refine lv_iadd hx hb dX13_pairIn_19 ?_
  obtain ⟨u2_0, hu_2, hsp⟩ := ox_bind hsp
  try dsimp only at hsp
  have hPc := hP.sub (ws' := [(h0, .inr (13, z_1)), (qf100, .inl (cf100, 48000, .inl f100))]) [0, 1] rfl
  have hDc := hD.sub (ws' := [(h0, .inr (13, z_1)), (qf100, .inl (cf100, 48000, .inl f100))]) [0, 1] (by decide) rfl
  have hKc := hK.sub (tys' := [(cf100, .int)]) [0] rfl
  have hFc := va_free (wc := [(h0, .inr (13, z_1)), (qf100, .inl (cf100, 48000, .inl f100))]) hD hS hA [0, 1] rfl
  refine va_calli (va_runV (As := [.int v132, .int (a1 + 1)]) (rest := [.int (u1_0 <<< (8 &&& 31))]) ⟨hx, hb, hml, hown, hts⟩ (tm_byteAt l dC dI H.size h0 z_1 v132 ((a1 + 1)) qf100 cf100 f100 nf u2_0 hln_1 hfk_1_100 hu_2) (cwV 2 hts gv_h5_13 rfl rfl rfl (by decide +kernel) ⟨Nat.le_of_ble_eq_true rfl, Nat.le_of_ble_eq_true rfl⟩) ⟨fun a U g mk q => by obtain ⟨q0, q1, qP, qK, qD⟩ := q; exact ⟨q0, q1, qP, va_K.moved (u := U) (U := U.calling g mk a) (Vm.Alike.refl U.vm) qK, qD⟩, va_recv hKc hPc (ci := 13) (q0 := 0) rfl rfl, fun U hU hW => ⟨rfl, by rw [hU], by rw [hU]; exact hPc, va_K.moved hW.alike hKc, hDc.weaken (fun _ _ _ _ => trivial)⟩⟩ rfl rfl hl.1 rfl (lv_room (Nat.le_of_ble_eq_true rfl)) dX13_pairIn_20 ⟨Nat.le_of_ble_eq_true rfl, Nat.le_of_ble_eq_true rfl⟩) hS (fun q _ h => hFc q h) hFc ?_
  clear hS
  intro r_2 u t H1 locs ht hvm hw hB hz1 hk1 hS
  obtain ⟨z_2, rfl⟩ : ∃ z, z = u := ⟨_, rfl⟩
  obtain ⟨hP1, hK1, hD1⟩ := hB
  rw [ht] at hP1
  have hK1 := va_K.moved hvm.symm hK1
  try dsimp only at hw
  have hPD := va_join (wr := []) (w1 := [(h0, .inr (13, z_2)), (qf100, .inl (cf100, 48000, .inl f100))]) hP hD [0, 1] [] rfl rfl (by decide) (by decide) hk1 hFc hP1 hD1
  clear hP hD
  obtain ⟨hP, hD⟩ := hPD
  replace hK := (hK.sub (tys' := []) [] rfl).app hK1
  clear hPc hDc hKc hFc hP1 hK1 hD1 hz1 hk1 ht hvm
  generalize H1 = H at hP hS ⊢
  replace hP : va_P (dC, dI) vwCl [(h0, .inr (13, z_2)), (qf100, .inl (cf100, 48000, .inl f100))] H := hP
  replace hD : va_D A [(h0, .inr (13, z_2)), (qf100, .inl (cf100, 48000, .inl f100))] := hD
  replace hK : va_K (dC, dI) vwCl [(cf100, .int)] s := hK
  obtain ⟨hwa_2, hln_2, hre_2⟩ := hw
  have hfk_2_100 : z_2[100]? = some (.ref qf100) := (hre_2 100 ).trans (hfk_1_100)
  have hfk_2_132 : z_2[132]? = some (.int v132) := (hre_2 132 ).trans (hfk_1_132)
  have hrq_2 : ∀ j : Nat, z_2[j]? = zs[j]? := fun j  => (hre_2 j ).trans (hrq_1 j )
  obtain rfl := hwa_2
  refine lv_ior hx hb dX13_pairIn_23 ?_
  have hr0 := Option.some.inj hsp
  clear hsp
  subst hr0
  have hP9 := hP.sub (ws' := [(h0, .inr (13, z_2)), (qf100, .inl (cf100, 48000, .inl f100))]) [0, 1] rfl
  have hD9 := hD.sub (ws' := [(h0, .inr (13, z_2)), (qf100, .inl (cf100, 48000, .inl f100))]) [0, 1] (by decide) rfl
  have hK9 := hK.sub (tys' := [(cf100, .int)]) [0] rfl
  exact W.iret hx hb hr (fun t ht hW => ⟨⟨(((u1_0 <<< (8 &&& 31)) ||| u2_0)), (z_2), rfl, ⟨rfl, hln_2, hrq_2⟩, by rw [ht]; exact hP9, va_K.moved hW.alike hK9, hD9⟩, hS.F ht⟩) hS.2.2 dX13_pairIn_24
def sp_tm_frameMany (nf : Nat) (v132 : Int32) (v133 : Int32) (f111 : Nat → Int32) (f100 : Nat → Int32) : Option (Int32) := (if ((12 * v132) + v133) < 0 then none else if 96 ≤ (((12 * v132) + v133) : Int32).toNatClampNeg then none else ((sp_tm_byteAt nf v132 (f111 (((12 * v132) + v133) : Int32).toNatClampNeg) f100).bind (fun p1 => (some p1))))
set_option maxHeartbeats 4000000 in
set_option maxRecDepth 100000 in
/-- ClassMillModel.frameMany -/
theorem tm_frameMany (l : Launch) (dC : Nat → ClassId) (dI : Nat → Nat → Nat) (sz : Nat) (h0 : Nat) (zs : (List Value)) (qf100 : Nat) (qf111 : Nat) (v132 : Int32) (v133 : Int32) (cf111 : ClassId) (f111 : (Nat → Int32)) (cf100 : ClassId) (f100 : (Nat → Int32)) (nf : Nat) (r0 : Int32) (hlen : zs.length = 155) (hf100 : zs[100]? = some (.ref qf100)) (hf111 : zs[111]? = some (.ref qf111)) (hf132 : zs[132]? = some (.int v132)) (hf133 : zs[133]? = some (.int v133)) (hsp : sp_tm_frameMany nf v132 v133 f111 f100 = some r0) : Met l yX13_frameMany (.code yX13_frameMany cX13_frameMany 1 (some .int) :: VS_h5) ({ frames := 1, cells := 0, slots := 0, locals := 22 }) (va_Pc [.ref h0] (fun U => U.heap.size = sz ∧ va_P (dC, dI) vwCl [(h0, .inr (13, zs)), (qf111, .inl (cf111, 96, .inl f111)), (qf100, .inl (cf100, 48000, .inl f100))] U.heap ∧ va_K (dC, dI) vwCl [(cf111, .int), (cf100, .int)] U ∧ va_D (fun _ => True) [(h0, .inr (13, zs)), (qf111, .inl (cf111, 96, .inl f111)), (qf100, .inl (cf100, 48000, .inl f100))])) (va_Qi (fun (r : Int32) (u : (List Value)) => match u with | (zo1) => r0 = r ∧ zo1.length = 155 ∧ (∀ j : Nat, zo1[j]? = zs[j]?)) (fun (u : (List Value)) (t : State) => match u with | (zo1) => va_P (dC, dI) vwCl [(h0, .inr (13, zo1)), (qf111, .inl (cf111, 96, .inl f111)), (qf100, .inl (cf100, 48000, .inl f100))] t.heap ∧ va_K (dC, dI) vwCl [(cf111, .int), (cf100, .int)] t ∧ va_D (va_A [(h0, .inr (13, zs)), (qf111, .inl (cf111, 96, .inl f111)), (qf100, .inl (cf100, 48000, .inl f100))] sz) [(h0, .inr (13, zo1)), (qf111, .inl (cf111, 96, .inl f111)), (qf100, .inl (cf100, 48000, .inl f100))]) (va_A [(h0, .inr (13, zs)), (qf111, .inl (cf111, 96, .inl f111)), (qf100, .inl (cf100, 48000, .inl f100))] sz)) 0 0 (va_A [(h0, .inr (13, zs)), (qf111, .inl (cf111, 96, .inl f111)), (qf100, .inl (cf100, 48000, .inl f100))] sz) := by
  refine Met.ofW (cc := cX13_frameMany) (maxL := 1) (ret := (some .int)) (by decide) rfl ?_
  intro p e s m args below meth c s₁ B hml hv
  obtain ⟨rfl, hsz, hP, hK, hD0⟩ := hv
  have hx := B.exec
  have hb := B.bytes
  have hr := B.returns
  have hts := atoms_spec (ws := (.code yX13_frameMany cX13_frameMany 1 (some .int) :: VS_h5)) B.pre
  replace hts := fun w (h : w ∈ VS_h5) => hts w (List.mem_cons_of_mem _ h)
  have hown : s.vm.findClass RX13 = some m.cls := findClass_of_methodNamed B.named
  have hlocks := B.notSynchronized
  subst hsz
  have hD := hD0.self (sz := s.heap.size)
  generalize hAe : va_A [(h0, .inr (13, zs)), (qf111, .inl (cf111, 96, .inl f111)), (qf100, .inl (cf100, 48000, .inl f100))] s.heap.size = A at hD  ⊢
  have hA : ∀ q : Nat, s.heap.size ≤ q → A q := fun q h => by rw [← hAe]; exact Or.inr h
  have hP : va_P (dC, dI) vwCl [(h0, .inr (13, zs)), (qf111, .inl (cf111, 96, .inl f111)), (qf100, .inl (cf100, 48000, .inl f100))] s.heap := hP
  have hl := lv_entry ([.ref h0]) (n := 1) (Nat.le_of_ble_eq_true rfl)
  rw [lg_entry_eq]
  generalize (lg_sl ([.ref h0]) ++ List.replicate (1 - (lg_sl ([.ref h0])).length) Slot.unset).toArray = ls at hl ⊢
  have hl : lv_has ls 1 [(0, .ref h0)] := hl
  obtain ⟨H, hH⟩ : ∃ H : Heap, s.heap = H := ⟨_, rfl⟩
  rw [hH] at hP ⊢
  have hS : va_S A s.heap H [] := by rw [← hH]; exact va_S.rf
  obtain ⟨locs, hlo⟩ : ∃ locs : List Loc, locs = [] := ⟨_, rfl⟩
  rw [← hlo] at hS ⊢
  have hrs0 : ∀ j : Nat, zs[j]? = zs[j]? := fun _  => rfl
  unfold sp_tm_frameMany at hsp
  refine lv_aload_n hx hb dX13_frameMany_0 rfl (lv_at hl 0 rfl) ?_
  refine lv_aload_n hx hb dX13_frameMany_1 rfl (lv_at hl 0 rfl) ?_
  refine va_get (D := (dC, dI)) (ci := 13) (v := .int v132) (C := RX13) (T := TX13) (N := 155) hx hb hts uV_h5_X13 hown hK hP 0 rfl rfl 132 (by decide) (hts (.fieldLink RX13 932 "ClassMillModel" "inClass" "I") mw_h5_118) (fun _ h9 => h9) hf132 dX13_frameMany_2 ?_
  refine lv_aload_n hx hb dX13_frameMany_5 rfl (lv_at hl 0 rfl) ?_
  refine va_get (D := (dC, dI)) (ci := 13) (v := .ref qf111) (C := RX13) (T := TX13) (N := 155) hx hb hts uV_h5_X13 hown hK hP 0 rfl rfl 111 (by decide) (hts (.fieldLink RX13 242 "ClassMillModel" "framesAt" "[I") mw_h5_124) (fun _ h9 => h9) hf111 dX13_frameMany_6 ?_
  refine lv_bipush (v := 12) hx hb dX13_frameMany_9 (by decide) ?_
  refine lv_aload_n hx hb dX13_frameMany_11 rfl (lv_at hl 0 rfl) ?_
  refine va_get (D := (dC, dI)) (ci := 13) (v := .int v132) (C := RX13) (T := TX13) (N := 155) hx hb hts uV_h5_X13 hown hK hP 0 rfl rfl 132 (by decide) (hts (.fieldLink RX13 932 "ClassMillModel" "inClass" "I") mw_h5_118) (fun _ h9 => h9) hf132 dX13_frameMany_12 ?_
  refine lv_imul hx hb dX13_frameMany_15 ?_
  refine lv_aload_n hx hb dX13_frameMany_16 rfl (lv_at hl 0 rfl) ?_
  refine va_get (D := (dC, dI)) (ci := 13) (v := .int v133) (C := RX13) (T := TX13) (N := 155) hx hb hts uV_h5_X13 hown hK hP 0 rfl rfl 133 (by decide) (hts (.fieldLink RX13 940 "ClassMillModel" "inMethod" "I") mw_h5_125) (fun _ h9 => h9) hf133 dX13_frameMany_17 ?_
  refine lv_iadd hx hb dX13_frameMany_20 ?_
  obtain ⟨hi_1, hsp⟩ := ox_in hsp
  refine va_iald hx hb hK hP 1 0 rfl rfl (i := ((12 * v132) + v133)) hi_1 dX13_frameMany_21 ?_
  obtain ⟨u1_0, hu_1, hsp⟩ := ox_bind hsp
  try dsimp only at hsp
  have hPc := hP.sub (ws' := [(h0, .inr (13, zs)), (qf100, .inl (cf100, 48000, .inl f100))]) [0, 2] rfl
  have hDc := hD.sub (ws' := [(h0, .inr (13, zs)), (qf100, .inl (cf100, 48000, .inl f100))]) [0, 2] (by decide) rfl
  have hKc := hK.sub (tys' := [(cf100, .int)]) [1] rfl
  have hFc := va_free (wc := [(h0, .inr (13, zs)), (qf100, .inl (cf100, 48000, .inl f100))]) hD hS hA [0, 2] rfl
  refine va_calli (va_runV (As := [.int v132, .int (f111 (((12 * v132) + v133) : Int32).toNatClampNeg)]) (rest := []) ⟨hx, hb, hml, hown, hts⟩ (tm_byteAt l dC dI H.size h0 zs v132 ((f111 (((12 * v132) + v133) : Int32).toNatClampNeg)) qf100 cf100 f100 nf u1_0 hlen hf100 hu_1) (cwV 2 hts gv_h5_13 rfl rfl rfl (by decide +kernel) ⟨Nat.le_of_ble_eq_true rfl, Nat.le_of_ble_eq_true rfl⟩) ⟨fun a U g mk q => by obtain ⟨q0, q1, qP, qK, qD⟩ := q; exact ⟨q0, q1, qP, va_K.moved (u := U) (U := U.calling g mk a) (Vm.Alike.refl U.vm) qK, qD⟩, va_recv hKc hPc (ci := 13) (q0 := 0) rfl rfl, fun U hU hW => ⟨rfl, by rw [hU], by rw [hU]; exact hPc, va_K.moved hW.alike hKc, hDc.weaken (fun _ _ _ _ => trivial)⟩⟩ rfl rfl hl.1 rfl (lv_room (Nat.le_of_ble_eq_true rfl)) dX13_frameMany_22 ⟨Nat.le_of_ble_eq_true rfl, Nat.le_of_ble_eq_true rfl⟩) hS (fun q _ h => hFc q h) hFc ?_
  clear hS
  intro r_2 u t H1 locs ht hvm hw hB hz1 hk1 hS
  obtain ⟨z_1, rfl⟩ : ∃ z, z = u := ⟨_, rfl⟩
  obtain ⟨hP1, hK1, hD1⟩ := hB
  rw [ht] at hP1
  have hK1 := va_K.moved hvm.symm hK1
  try dsimp only at hw
  have hPD := va_join (wr := [(qf111, .inl (cf111, 96, .inl f111))]) (w1 := [(h0, .inr (13, z_1)), (qf100, .inl (cf100, 48000, .inl f100))]) hP hD [0, 2] [1] rfl rfl (by decide) (by decide) hk1 hFc hP1 hD1
  clear hP hD
  obtain ⟨hP, hD⟩ := hPD
  replace hK := (hK.sub (tys' := [(cf111, .int)]) [0] rfl).app hK1
  clear hPc hDc hKc hFc hP1 hK1 hD1 hz1 hk1 ht hvm
  generalize H1 = H at hP hS ⊢
  replace hP : va_P (dC, dI) vwCl [(qf111, .inl (cf111, 96, .inl f111)), (h0, .inr (13, z_1)), (qf100, .inl (cf100, 48000, .inl f100))] H := hP
  replace hD : va_D A [(qf111, .inl (cf111, 96, .inl f111)), (h0, .inr (13, z_1)), (qf100, .inl (cf100, 48000, .inl f100))] := hD
  replace hK : va_K (dC, dI) vwCl [(cf111, .int), (cf100, .int)] s := hK
  obtain ⟨hwa_1, hln_1, hre_1⟩ := hw
  have hfk_1_100 : z_1[100]? = some (.ref qf100) := (hre_1 100 ).trans (hf100)
  have hfk_1_111 : z_1[111]? = some (.ref qf111) := (hre_1 111 ).trans (hf111)
  have hfk_1_132 : z_1[132]? = some (.int v132) := (hre_1 132 ).trans (hf132)
  have hfk_1_133 : z_1[133]? = some (.int v133) := (hre_1 133 ).trans (hf133)
  have hrq_1 : ∀ j : Nat, z_1[j]? = zs[j]? := fun j  => (hre_1 j ).trans (hrs0 j )
  obtain rfl := hwa_1
  have hr0 := Option.some.inj hsp
  clear hsp
  subst hr0
  have hP9 := hP.sub (ws' := [(h0, .inr (13, z_1)), (qf111, .inl (cf111, 96, .inl f111)), (qf100, .inl (cf100, 48000, .inl f100))]) [1, 0, 2] rfl
  have hD9 := hD.sub (ws' := [(h0, .inr (13, z_1)), (qf111, .inl (cf111, 96, .inl f111)), (qf100, .inl (cf100, 48000, .inl f100))]) [1, 0, 2] (by decide) rfl
  have hK9 := hK.sub (tys' := [(cf111, .int), (cf100, .int)]) [0, 1] rfl
  exact W.iret hx hb hr (fun t ht hW => ⟨⟨(u1_0), (z_1), rfl, ⟨rfl, hln_1, hrq_1⟩, by rw [ht]; exact hP9, va_K.moved hW.alike hK9, hD9⟩, hS.F ht⟩) hS.2.2 dX13_frameMany_25
def sp_tm_sortOf (nf : Nat) (a1 : Int32) (v132 : Int32) (f103 : Nat → Int32) (f102 : Nat → Int32) (f100 : Nat → Int32) : Option (Int32) := (if a1 < 1 then (some 0) else (if v132 < 0 then none else if 8 ≤ (v132 : Int32).toNatClampNeg then none else (if (f103 (v132 : Int32).toNatClampNeg) < a1 then (some 0) else (if ((256 * v132) + a1) < 0 then none else if 2048 ≤ (((256 * v132) + a1) : Int32).toNatClampNeg then none else ((sp_tm_byteAt nf v132 (f102 (((256 * v132) + a1) : Int32).toNatClampNeg) f100).bind (fun p1 => (some p1)))))))
set_option maxHeartbeats 4000000 in
set_option maxRecDepth 100000 in
/-- ClassMillModel.sortOf -/
theorem tm_sortOf (l : Launch) (dC : Nat → ClassId) (dI : Nat → Nat → Nat) (sz : Nat) (h0 : Nat) (zs : (List Value)) (a1 : Int32) (qf100 : Nat) (qf102 : Nat) (qf103 : Nat) (v132 : Int32) (cf103 : ClassId) (f103 : (Nat → Int32)) (cf102 : ClassId) (f102 : (Nat → Int32)) (cf100 : ClassId) (f100 : (Nat → Int32)) (nf : Nat) (r0 : Int32) (hlen : zs.length = 155) (hf100 : zs[100]? = some (.ref qf100)) (hf102 : zs[102]? = some (.ref qf102)) (hf103 : zs[103]? = some (.ref qf103)) (hf132 : zs[132]? = some (.int v132)) (hsp : sp_tm_sortOf nf a1 v132 f103 f102 f100 = some r0) : Met l yX13_sortOf (.code yX13_sortOf cX13_sortOf 2 (some .int) :: VS_h5) ({ frames := 1, cells := 0, slots := 0, locals := 22 }) (va_Pc [.ref h0, .int a1] (fun U => U.heap.size = sz ∧ va_P (dC, dI) vwCl [(h0, .inr (13, zs)), (qf103, .inl (cf103, 8, .inl f103)), (qf102, .inl (cf102, 2048, .inl f102)), (qf100, .inl (cf100, 48000, .inl f100))] U.heap ∧ va_K (dC, dI) vwCl [(cf103, .int), (cf102, .int), (cf100, .int)] U ∧ va_D (fun _ => True) [(h0, .inr (13, zs)), (qf103, .inl (cf103, 8, .inl f103)), (qf102, .inl (cf102, 2048, .inl f102)), (qf100, .inl (cf100, 48000, .inl f100))])) (va_Qi (fun (r : Int32) (u : (List Value)) => match u with | (zo1) => r0 = r ∧ zo1.length = 155 ∧ (∀ j : Nat, zo1[j]? = zs[j]?)) (fun (u : (List Value)) (t : State) => match u with | (zo1) => va_P (dC, dI) vwCl [(h0, .inr (13, zo1)), (qf103, .inl (cf103, 8, .inl f103)), (qf102, .inl (cf102, 2048, .inl f102)), (qf100, .inl (cf100, 48000, .inl f100))] t.heap ∧ va_K (dC, dI) vwCl [(cf103, .int), (cf102, .int), (cf100, .int)] t ∧ va_D (va_A [(h0, .inr (13, zs)), (qf103, .inl (cf103, 8, .inl f103)), (qf102, .inl (cf102, 2048, .inl f102)), (qf100, .inl (cf100, 48000, .inl f100))] sz) [(h0, .inr (13, zo1)), (qf103, .inl (cf103, 8, .inl f103)), (qf102, .inl (cf102, 2048, .inl f102)), (qf100, .inl (cf100, 48000, .inl f100))]) (va_A [(h0, .inr (13, zs)), (qf103, .inl (cf103, 8, .inl f103)), (qf102, .inl (cf102, 2048, .inl f102)), (qf100, .inl (cf100, 48000, .inl f100))] sz)) 0 0 (va_A [(h0, .inr (13, zs)), (qf103, .inl (cf103, 8, .inl f103)), (qf102, .inl (cf102, 2048, .inl f102)), (qf100, .inl (cf100, 48000, .inl f100))] sz) := by
  refine Met.ofW (cc := cX13_sortOf) (maxL := 2) (ret := (some .int)) (by decide) rfl ?_
  intro p e s m args below meth c s₁ B hml hv
  obtain ⟨rfl, hsz, hP, hK, hD0⟩ := hv
  have hx := B.exec
  have hb := B.bytes
  have hr := B.returns
  have hts := atoms_spec (ws := (.code yX13_sortOf cX13_sortOf 2 (some .int) :: VS_h5)) B.pre
  replace hts := fun w (h : w ∈ VS_h5) => hts w (List.mem_cons_of_mem _ h)
  have hown : s.vm.findClass RX13 = some m.cls := findClass_of_methodNamed B.named
  have hlocks := B.notSynchronized
  subst hsz
  have hD := hD0.self (sz := s.heap.size)
  generalize hAe : va_A [(h0, .inr (13, zs)), (qf103, .inl (cf103, 8, .inl f103)), (qf102, .inl (cf102, 2048, .inl f102)), (qf100, .inl (cf100, 48000, .inl f100))] s.heap.size = A at hD  ⊢
  have hA : ∀ q : Nat, s.heap.size ≤ q → A q := fun q h => by rw [← hAe]; exact Or.inr h
  have hP : va_P (dC, dI) vwCl [(h0, .inr (13, zs)), (qf103, .inl (cf103, 8, .inl f103)), (qf102, .inl (cf102, 2048, .inl f102)), (qf100, .inl (cf100, 48000, .inl f100))] s.heap := hP
  have hl := lv_entry ([.ref h0, .int a1]) (n := 2) (Nat.le_of_ble_eq_true rfl)
  rw [lg_entry_eq]
  generalize (lg_sl ([.ref h0, .int a1]) ++ List.replicate (2 - (lg_sl ([.ref h0, .int a1])).length) Slot.unset).toArray = ls at hl ⊢
  have hl : lv_has ls 2 [(0, .ref h0), (1, .int a1)] := hl
  obtain ⟨H, hH⟩ : ∃ H : Heap, s.heap = H := ⟨_, rfl⟩
  rw [hH] at hP ⊢
  have hS : va_S A s.heap H [] := by rw [← hH]; exact va_S.rf
  obtain ⟨locs, hlo⟩ : ∃ locs : List Loc, locs = [] := ⟨_, rfl⟩
  rw [← hlo] at hS ⊢
  have hrs0 : ∀ j : Nat, zs[j]? = zs[j]? := fun _  => rfl
  unfold sp_tm_sortOf at hsp
  refine lv_iload_n hx hb dX13_sortOf_0 rfl (lv_at hl 1 rfl) ?_
  refine lv_iconst (v := 1) hx hb dX13_sortOf_1 (by decide) ?_
  refine lv_icmp_lt (tgt := 44) hx hb dX13_sortOf_2 (by decide) (fun c_1 => ?_) (fun c_1 => ?_)
  · rw [if_pos c_1] at hsp
    refine lv_iconst (v := 0) hx hb dX13_sortOf_44 (by decide) ?_
    have hr0 := Option.some.inj hsp
    clear hsp
    subst hr0
    have hP9 := hP.sub (ws' := [(h0, .inr (13, zs)), (qf103, .inl (cf103, 8, .inl f103)), (qf102, .inl (cf102, 2048, .inl f102)), (qf100, .inl (cf100, 48000, .inl f100))]) [0, 1, 2, 3] rfl
    have hD9 := hD.sub (ws' := [(h0, .inr (13, zs)), (qf103, .inl (cf103, 8, .inl f103)), (qf102, .inl (cf102, 2048, .inl f102)), (qf100, .inl (cf100, 48000, .inl f100))]) [0, 1, 2, 3] (by decide) rfl
    have hK9 := hK.sub (tys' := [(cf103, .int), (cf102, .int), (cf100, .int)]) [0, 1, 2] rfl
    exact W.iret hx hb hr (fun t ht hW => ⟨⟨(0), (zs), rfl, ⟨rfl, hlen, hrs0⟩, by rw [ht]; exact hP9, va_K.moved hW.alike hK9, hD9⟩, hS.F ht⟩) hS.2.2 dX13_sortOf_45
  · rw [if_neg c_1] at hsp
    refine lv_iload_n hx hb dX13_sortOf_5 rfl (lv_at hl 1 rfl) ?_
    refine lv_aload_n hx hb dX13_sortOf_6 rfl (lv_at hl 0 rfl) ?_
    refine va_get (D := (dC, dI)) (ci := 13) (v := .ref qf103) (C := RX13) (T := TX13) (N := 155) hx hb hts uV_h5_X13 hown hK hP 0 rfl rfl 103 (by decide) (hts (.fieldLink RX13 218 "ClassMillModel" "constantMany" "[I") mw_h5_87) (fun _ h9 => h9) hf103 dX13_sortOf_7 ?_
    refine lv_aload_n hx hb dX13_sortOf_10 rfl (lv_at hl 0 rfl) ?_
    refine va_get (D := (dC, dI)) (ci := 13) (v := .int v132) (C := RX13) (T := TX13) (N := 155) hx hb hts uV_h5_X13 hown hK hP 0 rfl rfl 132 (by decide) (hts (.fieldLink RX13 932 "ClassMillModel" "inClass" "I") mw_h5_118) (fun _ h9 => h9) hf132 dX13_sortOf_11 ?_
    obtain ⟨hi_2, hsp⟩ := ox_in hsp
    refine va_iald hx hb hK hP 1 0 rfl rfl (i := v132) hi_2 dX13_sortOf_14 ?_
    refine lv_icmp_gt (tgt := 44) hx hb dX13_sortOf_15 (by decide) (fun c_3 => ?_) (fun c_3 => ?_)
    · rw [if_pos c_3] at hsp
      refine lv_iconst (v := 0) hx hb dX13_sortOf_44 (by decide) ?_
      have hr0 := Option.some.inj hsp
      clear hsp
      subst hr0
      have hP9 := hP.sub (ws' := [(h0, .inr (13, zs)), (qf103, .inl (cf103, 8, .inl f103)), (qf102, .inl (cf102, 2048, .inl f102)), (qf100, .inl (cf100, 48000, .inl f100))]) [0, 1, 2, 3] rfl
      have hD9 := hD.sub (ws' := [(h0, .inr (13, zs)), (qf103, .inl (cf103, 8, .inl f103)), (qf102, .inl (cf102, 2048, .inl f102)), (qf100, .inl (cf100, 48000, .inl f100))]) [0, 1, 2, 3] (by decide) rfl
      have hK9 := hK.sub (tys' := [(cf103, .int), (cf102, .int), (cf100, .int)]) [0, 1, 2] rfl
      exact W.iret hx hb hr (fun t ht hW => ⟨⟨(0), (zs), rfl, ⟨rfl, hlen, hrs0⟩, by rw [ht]; exact hP9, va_K.moved hW.alike hK9, hD9⟩, hS.F ht⟩) hS.2.2 dX13_sortOf_45
    · rw [if_neg c_3] at hsp
      refine lv_aload_n hx hb dX13_sortOf_18 rfl (lv_at hl 0 rfl) ?_
      refine lv_aload_n hx hb dX13_sortOf_19 rfl (lv_at hl 0 rfl) ?_
      refine va_get (D := (dC, dI)) (ci := 13) (v := .int v132) (C := RX13) (T := TX13) (N := 155) hx hb hts uV_h5_X13 hown hK hP 0 rfl rfl 132 (by decide) (hts (.fieldLink RX13 932 "ClassMillModel" "inClass" "I") mw_h5_118) (fun _ h9 => h9) hf132 dX13_sortOf_20 ?_
      refine lv_aload_n hx hb dX13_sortOf_23 rfl (lv_at hl 0 rfl) ?_
      refine va_get (D := (dC, dI)) (ci := 13) (v := .ref qf102) (C := RX13) (T := TX13) (N := 155) hx hb hts uV_h5_X13 hown hK hP 0 rfl rfl 102 (by decide) (hts (.fieldLink RX13 215 "ClassMillModel" "constantAt" "[I") mw_h5_88) (fun _ h9 => h9) hf102 dX13_sortOf_24 ?_
      refine lv_sipush (v := 256) hx hb dX13_sortOf_27 (by decide) ?_
      refine lv_aload_n hx hb dX13_sortOf_30 rfl (lv_at hl 0 rfl) ?_
      refine va_get (D := (dC, dI)) (ci := 13) (v := .int v132) (C := RX13) (T := TX13) (N := 155) hx hb hts uV_h5_X13 hown hK hP 0 rfl rfl 132 (by decide) (hts (.fieldLink RX13 932 "ClassMillModel" "inClass" "I") mw_h5_118) (fun _ h9 => h9) hf132 dX13_sortOf_31 ?_
      refine lv_imul hx hb dX13_sortOf_34 ?_
      refine lv_iload_n hx hb dX13_sortOf_35 rfl (lv_at hl 1 rfl) ?_
      refine lv_iadd hx hb dX13_sortOf_36 ?_
      obtain ⟨hi_4, hsp⟩ := ox_in hsp
      refine va_iald hx hb hK hP 2 1 rfl rfl (i := ((256 * v132) + a1)) hi_4 dX13_sortOf_37 ?_
      obtain ⟨u1_0, hu_1, hsp⟩ := ox_bind hsp
      try dsimp only at hsp
      have hPc := hP.sub (ws' := [(h0, .inr (13, zs)), (qf100, .inl (cf100, 48000, .inl f100))]) [0, 3] rfl
      have hDc := hD.sub (ws' := [(h0, .inr (13, zs)), (qf100, .inl (cf100, 48000, .inl f100))]) [0, 3] (by decide) rfl
      have hKc := hK.sub (tys' := [(cf100, .int)]) [2] rfl
      have hFc := va_free (wc := [(h0, .inr (13, zs)), (qf100, .inl (cf100, 48000, .inl f100))]) hD hS hA [0, 3] rfl
      refine va_calli (va_runV (As := [.int v132, .int (f102 (((256 * v132) + a1) : Int32).toNatClampNeg)]) (rest := []) ⟨hx, hb, hml, hown, hts⟩ (tm_byteAt l dC dI H.size h0 zs v132 ((f102 (((256 * v132) + a1) : Int32).toNatClampNeg)) qf100 cf100 f100 nf u1_0 hlen hf100 hu_1) (cwV 2 hts gv_h5_13 rfl rfl rfl (by decide +kernel) ⟨Nat.le_of_ble_eq_true rfl, Nat.le_of_ble_eq_true rfl⟩) ⟨fun a U g mk q => by obtain ⟨q0, q1, qP, qK, qD⟩ := q; exact ⟨q0, q1, qP, va_K.moved (u := U) (U := U.calling g mk a) (Vm.Alike.refl U.vm) qK, qD⟩, va_recv hKc hPc (ci := 13) (q0 := 0) rfl rfl, fun U hU hW => ⟨rfl, by rw [hU], by rw [hU]; exact hPc, va_K.moved hW.alike hKc, hDc.weaken (fun _ _ _ _ => trivial)⟩⟩ rfl rfl hl.1 rfl (lv_room (Nat.le_of_ble_eq_true rfl)) dX13_sortOf_38 ⟨Nat.le_of_ble_eq_true rfl, Nat.le_of_ble_eq_true rfl⟩) hS (fun q _ h => hFc q h) hFc ?_
      clear hS
      intro r_5 u t H1 locs ht hvm hw hB hz1 hk1 hS
      obtain ⟨z_1, rfl⟩ : ∃ z, z = u := ⟨_, rfl⟩
      obtain ⟨hP1, hK1, hD1⟩ := hB
      rw [ht] at hP1
      have hK1 := va_K.moved hvm.symm hK1
      try dsimp only at hw
      have hPD := va_join (wr := [(qf103, .inl (cf103, 8, .inl f103)), (qf102, .inl (cf102, 2048, .inl f102))]) (w1 := [(h0, .inr (13, z_1)), (qf100, .inl (cf100, 48000, .inl f100))]) hP hD [0, 3] [1, 2] rfl rfl (by decide) (by decide) hk1 hFc hP1 hD1
      clear hP hD
      obtain ⟨hP, hD⟩ := hPD
      replace hK := (hK.sub (tys' := [(cf103, .int), (cf102, .int)]) [0, 1] rfl).app hK1
      clear hPc hDc hKc hFc hP1 hK1 hD1 hz1 hk1 ht hvm
      generalize H1 = H at hP hS ⊢
      replace hP : va_P (dC, dI) vwCl [(qf103, .inl (cf103, 8, .inl f103)), (qf102, .inl (cf102, 2048, .inl f102)), (h0, .inr (13, z_1)), (qf100, .inl (cf100, 48000, .inl f100))] H := hP
      replace hD : va_D A [(qf103, .inl (cf103, 8, .inl f103)), (qf102, .inl (cf102, 2048, .inl f102)), (h0, .inr (13, z_1)), (qf100, .inl (cf100, 48000, .inl f100))] := hD
      replace hK : va_K (dC, dI) vwCl [(cf103, .int), (cf102, .int), (cf100, .int)] s := hK
      obtain ⟨hwa_1, hln_1, hre_1⟩ := hw
      have hfk_1_100 : z_1[100]? = some (.ref qf100) := (hre_1 100 ).trans (hf100)
      have hfk_1_102 : z_1[102]? = some (.ref qf102) := (hre_1 102 ).trans (hf102)
      have hfk_1_103 : z_1[103]? = some (.ref qf103) := (hre_1 103 ).trans (hf103)
      have hfk_1_132 : z_1[132]? = some (.int v132) := (hre_1 132 ).trans (hf132)
      have hrq_1 : ∀ j : Nat, z_1[j]? = zs[j]? := fun j  => (hre_1 j ).trans (hrs0 j )
      obtain rfl := hwa_1
      refine lv_goto (tgt := 45) hx hb dX13_sortOf_41 (by decide) ?_
      have hr0 := Option.some.inj hsp
      clear hsp
      subst hr0
      have hP9 := hP.sub (ws' := [(h0, .inr (13, z_1)), (qf103, .inl (cf103, 8, .inl f103)), (qf102, .inl (cf102, 2048, .inl f102)), (qf100, .inl (cf100, 48000, .inl f100))]) [2, 0, 1, 3] rfl
      have hD9 := hD.sub (ws' := [(h0, .inr (13, z_1)), (qf103, .inl (cf103, 8, .inl f103)), (qf102, .inl (cf102, 2048, .inl f102)), (qf100, .inl (cf100, 48000, .inl f100))]) [2, 0, 1, 3] (by decide) rfl
      have hK9 := hK.sub (tys' := [(cf103, .int), (cf102, .int), (cf100, .int)]) [0, 1, 2] rfl
      exact W.iret hx hb hr (fun t ht hW => ⟨⟨(u1_0), (z_1), rfl, ⟨rfl, hln_1, hrq_1⟩, by rw [ht]; exact hP9, va_K.moved hW.alike hK9, hD9⟩, hS.F ht⟩) hS.2.2 dX13_sortOf_45
def sp_tm_partOf (nf : Nat) (a1 : Int32) (a2 : Int32) (v132 : Int32) (f102 : Nat → Int32) (f100 : Nat → Int32) : Option (Int32) := (if ((256 * v132) + a1) < 0 then none else if 2048 ≤ (((256 * v132) + a1) : Int32).toNatClampNeg then none else ((sp_tm_byteAt nf v132 (((f102 (((256 * v132) + a1) : Int32).toNatClampNeg) + 1) + a2) f100).bind (fun p1 => (some p1))))
set_option maxHeartbeats 4000000 in
set_option maxRecDepth 100000 in
/-- ClassMillModel.partOf -/
theorem tm_partOf (l : Launch) (dC : Nat → ClassId) (dI : Nat → Nat → Nat) (sz : Nat) (h0 : Nat) (zs : (List Value)) (a1 : Int32) (a2 : Int32) (qf100 : Nat) (qf102 : Nat) (v132 : Int32) (cf102 : ClassId) (f102 : (Nat → Int32)) (cf100 : ClassId) (f100 : (Nat → Int32)) (nf : Nat) (r0 : Int32) (hlen : zs.length = 155) (hf100 : zs[100]? = some (.ref qf100)) (hf102 : zs[102]? = some (.ref qf102)) (hf132 : zs[132]? = some (.int v132)) (hsp : sp_tm_partOf nf a1 a2 v132 f102 f100 = some r0) : Met l yX13_partOf (.code yX13_partOf cX13_partOf 3 (some .int) :: VS_h5) ({ frames := 1, cells := 0, slots := 0, locals := 22 }) (va_Pc [.ref h0, .int a1, .int a2] (fun U => U.heap.size = sz ∧ va_P (dC, dI) vwCl [(h0, .inr (13, zs)), (qf102, .inl (cf102, 2048, .inl f102)), (qf100, .inl (cf100, 48000, .inl f100))] U.heap ∧ va_K (dC, dI) vwCl [(cf102, .int), (cf100, .int)] U ∧ va_D (fun _ => True) [(h0, .inr (13, zs)), (qf102, .inl (cf102, 2048, .inl f102)), (qf100, .inl (cf100, 48000, .inl f100))])) (va_Qi (fun (r : Int32) (u : (List Value)) => match u with | (zo1) => r0 = r ∧ zo1.length = 155 ∧ (∀ j : Nat, zo1[j]? = zs[j]?)) (fun (u : (List Value)) (t : State) => match u with | (zo1) => va_P (dC, dI) vwCl [(h0, .inr (13, zo1)), (qf102, .inl (cf102, 2048, .inl f102)), (qf100, .inl (cf100, 48000, .inl f100))] t.heap ∧ va_K (dC, dI) vwCl [(cf102, .int), (cf100, .int)] t ∧ va_D (va_A [(h0, .inr (13, zs)), (qf102, .inl (cf102, 2048, .inl f102)), (qf100, .inl (cf100, 48000, .inl f100))] sz) [(h0, .inr (13, zo1)), (qf102, .inl (cf102, 2048, .inl f102)), (qf100, .inl (cf100, 48000, .inl f100))]) (va_A [(h0, .inr (13, zs)), (qf102, .inl (cf102, 2048, .inl f102)), (qf100, .inl (cf100, 48000, .inl f100))] sz)) 0 0 (va_A [(h0, .inr (13, zs)), (qf102, .inl (cf102, 2048, .inl f102)), (qf100, .inl (cf100, 48000, .inl f100))] sz) := by
  refine Met.ofW (cc := cX13_partOf) (maxL := 3) (ret := (some .int)) (by decide) rfl ?_
  intro p e s m args below meth c s₁ B hml hv
  obtain ⟨rfl, hsz, hP, hK, hD0⟩ := hv
  have hx := B.exec
  have hb := B.bytes
  have hr := B.returns
  have hts := atoms_spec (ws := (.code yX13_partOf cX13_partOf 3 (some .int) :: VS_h5)) B.pre
  replace hts := fun w (h : w ∈ VS_h5) => hts w (List.mem_cons_of_mem _ h)
  have hown : s.vm.findClass RX13 = some m.cls := findClass_of_methodNamed B.named
  have hlocks := B.notSynchronized
  subst hsz
  have hD := hD0.self (sz := s.heap.size)
  generalize hAe : va_A [(h0, .inr (13, zs)), (qf102, .inl (cf102, 2048, .inl f102)), (qf100, .inl (cf100, 48000, .inl f100))] s.heap.size = A at hD  ⊢
  have hA : ∀ q : Nat, s.heap.size ≤ q → A q := fun q h => by rw [← hAe]; exact Or.inr h
  have hP : va_P (dC, dI) vwCl [(h0, .inr (13, zs)), (qf102, .inl (cf102, 2048, .inl f102)), (qf100, .inl (cf100, 48000, .inl f100))] s.heap := hP
  have hl := lv_entry ([.ref h0, .int a1, .int a2]) (n := 3) (Nat.le_of_ble_eq_true rfl)
  rw [lg_entry_eq]
  generalize (lg_sl ([.ref h0, .int a1, .int a2]) ++ List.replicate (3 - (lg_sl ([.ref h0, .int a1, .int a2])).length) Slot.unset).toArray = ls at hl ⊢
  have hl : lv_has ls 3 [(0, .ref h0), (1, .int a1), (2, .int a2)] := hl
  obtain ⟨H, hH⟩ : ∃ H : Heap, s.heap = H := ⟨_, rfl⟩
  rw [hH] at hP ⊢
  have hS : va_S A s.heap H [] := by rw [← hH]; exact va_S.rf
  obtain ⟨locs, hlo⟩ : ∃ locs : List Loc, locs = [] := ⟨_, rfl⟩
  rw [← hlo] at hS ⊢
  have hrs0 : ∀ j : Nat, zs[j]? = zs[j]? := fun _  => rfl
  unfold sp_tm_partOf at hsp
  refine lv_aload_n hx hb dX13_partOf_0 rfl (lv_at hl 0 rfl) ?_
  refine lv_aload_n hx hb dX13_partOf_1 rfl (lv_at hl 0 rfl) ?_
  refine va_get (D := (dC, dI)) (ci := 13) (v := .int v132) (C := RX13) (T := TX13) (N := 155) hx hb hts uV_h5_X13 hown hK hP 0 rfl rfl 132 (by decide) (hts (.fieldLink RX13 932 "ClassMillModel" "inClass" "I") mw_h5_118) (fun _ h9 => h9) hf132 dX13_partOf_2 ?_
  refine lv_aload_n hx hb dX13_partOf_5 rfl (lv_at hl 0 rfl) ?_
  refine va_get (D := (dC, dI)) (ci := 13) (v := .ref qf102) (C := RX13) (T := TX13) (N := 155) hx hb hts uV_h5_X13 hown hK hP 0 rfl rfl 102 (by decide) (hts (.fieldLink RX13 215 "ClassMillModel" "constantAt" "[I") mw_h5_88) (fun _ h9 => h9) hf102 dX13_partOf_6 ?_
  refine lv_sipush (v := 256) hx hb dX13_partOf_9 (by decide) ?_
  refine lv_aload_n hx hb dX13_partOf_12 rfl (lv_at hl 0 rfl) ?_
  refine va_get (D := (dC, dI)) (ci := 13) (v := .int v132) (C := RX13) (T := TX13) (N := 155) hx hb hts uV_h5_X13 hown hK hP 0 rfl rfl 132 (by decide) (hts (.fieldLink RX13 932 "ClassMillModel" "inClass" "I") mw_h5_118) (fun _ h9 => h9) hf132 dX13_partOf_13 ?_
  refine lv_imul hx hb dX13_partOf_16 ?_
  refine lv_iload_n hx hb dX13_partOf_17 rfl (lv_at hl 1 rfl) ?_
  refine lv_iadd hx hb dX13_partOf_18 ?_
  obtain ⟨hi_1, hsp⟩ := ox_in hsp
  refine va_iald hx hb hK hP 1 0 rfl rfl (i := ((256 * v132) + a1)) hi_1 dX13_partOf_19 ?_
  refine lv_iconst (v := 1) hx hb dX13_partOf_20 (by decide) ?_
  refine lv_iadd hx hb dX13_partOf_21 ?_
  refine lv_iload_n hx hb dX13_partOf_22 rfl (lv_at hl 2 rfl) ?_
  refine lv_iadd hx hb dX13_partOf_23 ?_
  obtain ⟨u1_0, hu_1, hsp⟩ := ox_bind hsp
  try dsimp only at hsp
  have hPc := hP.sub (ws' := [(h0, .inr (13, zs)), (qf100, .inl (cf100, 48000, .inl f100))]) [0, 2] rfl
  have hDc := hD.sub (ws' := [(h0, .inr (13, zs)), (qf100, .inl (cf100, 48000, .inl f100))]) [0, 2] (by decide) rfl
  have hKc := hK.sub (tys' := [(cf100, .int)]) [1] rfl
  have hFc := va_free (wc := [(h0, .inr (13, zs)), (qf100, .inl (cf100, 48000, .inl f100))]) hD hS hA [0, 2] rfl
  refine va_calli (va_runV (As := [.int v132, .int (((f102 (((256 * v132) + a1) : Int32).toNatClampNeg) + 1) + a2)]) (rest := []) ⟨hx, hb, hml, hown, hts⟩ (tm_byteAt l dC dI H.size h0 zs v132 ((((f102 (((256 * v132) + a1) : Int32).toNatClampNeg) + 1) + a2)) qf100 cf100 f100 nf u1_0 hlen hf100 hu_1) (cwV 2 hts gv_h5_13 rfl rfl rfl (by decide +kernel) ⟨Nat.le_of_ble_eq_true rfl, Nat.le_of_ble_eq_true rfl⟩) ⟨fun a U g mk q => by obtain ⟨q0, q1, qP, qK, qD⟩ := q; exact ⟨q0, q1, qP, va_K.moved (u := U) (U := U.calling g mk a) (Vm.Alike.refl U.vm) qK, qD⟩, va_recv hKc hPc (ci := 13) (q0 := 0) rfl rfl, fun U hU hW => ⟨rfl, by rw [hU], by rw [hU]; exact hPc, va_K.moved hW.alike hKc, hDc.weaken (fun _ _ _ _ => trivial)⟩⟩ rfl rfl hl.1 rfl (lv_room (Nat.le_of_ble_eq_true rfl)) dX13_partOf_24 ⟨Nat.le_of_ble_eq_true rfl, Nat.le_of_ble_eq_true rfl⟩) hS (fun q _ h => hFc q h) hFc ?_
  clear hS
  intro r_2 u t H1 locs ht hvm hw hB hz1 hk1 hS
  obtain ⟨z_1, rfl⟩ : ∃ z, z = u := ⟨_, rfl⟩
  obtain ⟨hP1, hK1, hD1⟩ := hB
  rw [ht] at hP1
  have hK1 := va_K.moved hvm.symm hK1
  try dsimp only at hw
  have hPD := va_join (wr := [(qf102, .inl (cf102, 2048, .inl f102))]) (w1 := [(h0, .inr (13, z_1)), (qf100, .inl (cf100, 48000, .inl f100))]) hP hD [0, 2] [1] rfl rfl (by decide) (by decide) hk1 hFc hP1 hD1
  clear hP hD
  obtain ⟨hP, hD⟩ := hPD
  replace hK := (hK.sub (tys' := [(cf102, .int)]) [0] rfl).app hK1
  clear hPc hDc hKc hFc hP1 hK1 hD1 hz1 hk1 ht hvm
  generalize H1 = H at hP hS ⊢
  replace hP : va_P (dC, dI) vwCl [(qf102, .inl (cf102, 2048, .inl f102)), (h0, .inr (13, z_1)), (qf100, .inl (cf100, 48000, .inl f100))] H := hP
  replace hD : va_D A [(qf102, .inl (cf102, 2048, .inl f102)), (h0, .inr (13, z_1)), (qf100, .inl (cf100, 48000, .inl f100))] := hD
  replace hK : va_K (dC, dI) vwCl [(cf102, .int), (cf100, .int)] s := hK
  obtain ⟨hwa_1, hln_1, hre_1⟩ := hw
  have hfk_1_100 : z_1[100]? = some (.ref qf100) := (hre_1 100 ).trans (hf100)
  have hfk_1_102 : z_1[102]? = some (.ref qf102) := (hre_1 102 ).trans (hf102)
  have hfk_1_132 : z_1[132]? = some (.int v132) := (hre_1 132 ).trans (hf132)
  have hrq_1 : ∀ j : Nat, z_1[j]? = zs[j]? := fun j  => (hre_1 j ).trans (hrs0 j )
  obtain rfl := hwa_1
  have hr0 := Option.some.inj hsp
  clear hsp
  subst hr0
  have hP9 := hP.sub (ws' := [(h0, .inr (13, z_1)), (qf102, .inl (cf102, 2048, .inl f102)), (qf100, .inl (cf100, 48000, .inl f100))]) [1, 0, 2] rfl
  have hD9 := hD.sub (ws' := [(h0, .inr (13, z_1)), (qf102, .inl (cf102, 2048, .inl f102)), (qf100, .inl (cf100, 48000, .inl f100))]) [1, 0, 2] (by decide) rfl
  have hK9 := hK.sub (tys' := [(cf102, .int), (cf100, .int)]) [0, 1] rfl
  exact W.iret hx hb hr (fun t ht hW => ⟨⟨(u1_0), (z_1), rfl, ⟨rfl, hln_1, hrq_1⟩, by rw [ht]; exact hP9, va_K.moved hW.alike hK9, hD9⟩, hS.F ht⟩) hS.2.2 dX13_partOf_27
def sp_tm_comesBack (nf : Nat) (a1 : Int32) (v130 : Int32) (v131 : Int32) (f128 : Nat → Int32) : Option (Int32 × (Nat → Int32) × Int32) := (if v131 < v130 then (if v131 < 0 then none else if 31 ≤ (v131 : Int32).toNatClampNeg then none else (some (1, (upd f128 (v131 : Int32).toNatClampNeg a1), (v131 + 1)))) else (some (0, f128, v131)))
set_option maxHeartbeats 4000000 in
set_option maxRecDepth 100000 in
/-- ClassMillModel.comesBack -/
theorem tm_comesBack (l : Launch) (dC : Nat → ClassId) (dI : Nat → Nat → Nat) (sz : Nat) (h0 : Nat) (zs : (List Value)) (a1 : Int32) (qf128 : Nat) (v130 : Int32) (v131 : Int32) (cf128 : ClassId) (f128 : (Nat → Int32)) (nf : Nat) (r0 : Int32) (o128 : (Nat → Int32)) (w131 : Int32) (hlen : zs.length = 155) (hf128 : zs[128]? = some (.ref qf128)) (hf130 : zs[130]? = some (.int v130)) (hf131 : zs[131]? = some (.int v131)) (hsp : sp_tm_comesBack nf a1 v130 v131 f128 = some (r0, o128, w131)) : Met l yX13_comesBack (.code yX13_comesBack cX13_comesBack 2 (some .boolean) :: VS_h5) ({ frames := 0, cells := 0, slots := 0, locals := 0 }) (va_Pc [.ref h0, .int a1] (fun U => U.heap.size = sz ∧ va_P (dC, dI) vwCl [(h0, .inr (13, zs)), (qf128, .inl (cf128, 31, .inl f128))] U.heap ∧ va_K (dC, dI) vwCl [(cf128, .int)] U ∧ va_D (fun _ => True) [(h0, .inr (13, zs)), (qf128, .inl (cf128, 31, .inl f128))])) (va_Qi (fun (r : Int32) (u : (List Value)) => match u with | (zo1) => (r0 = r ∧ (r0 = 0 ∨ r0 = 1)) ∧ zo1.length = 155 ∧ (∀ j : Nat, j ≠ 131 → zo1[j]? = zs[j]?) ∧ zo1[131]? = some (.int w131)) (fun (u : (List Value)) (t : State) => match u with | (zo1) => va_P (dC, dI) vwCl [(h0, .inr (13, zo1)), (qf128, .inl (cf128, 31, .inl o128))] t.heap ∧ va_K (dC, dI) vwCl [(cf128, .int)] t ∧ va_D (va_A [(h0, .inr (13, zs)), (qf128, .inl (cf128, 31, .inl f128))] sz) [(h0, .inr (13, zo1)), (qf128, .inl (cf128, 31, .inl o128))]) (va_A [(h0, .inr (13, zs)), (qf128, .inl (cf128, 31, .inl f128))] sz)) 0 0 (va_A [(h0, .inr (13, zs)), (qf128, .inl (cf128, 31, .inl f128))] sz) := by
  refine Met.ofW (cc := cX13_comesBack) (maxL := 2) (ret := (some .boolean)) (by decide) rfl ?_
  intro p e s m args below meth c s₁ B hml hv
  obtain ⟨rfl, hsz, hP, hK, hD0⟩ := hv
  have hx := B.exec
  have hb := B.bytes
  have hr := B.returns
  have hts := atoms_spec (ws := (.code yX13_comesBack cX13_comesBack 2 (some .boolean) :: VS_h5)) B.pre
  replace hts := fun w (h : w ∈ VS_h5) => hts w (List.mem_cons_of_mem _ h)
  have hown : s.vm.findClass RX13 = some m.cls := findClass_of_methodNamed B.named
  have hlocks := B.notSynchronized
  subst hsz
  have hD := hD0.self (sz := s.heap.size)
  generalize hAe : va_A [(h0, .inr (13, zs)), (qf128, .inl (cf128, 31, .inl f128))] s.heap.size = A at hD  ⊢
  have hA : ∀ q : Nat, s.heap.size ≤ q → A q := fun q h => by rw [← hAe]; exact Or.inr h
  have hP : va_P (dC, dI) vwCl [(h0, .inr (13, zs)), (qf128, .inl (cf128, 31, .inl f128))] s.heap := hP
  have hl := lv_entry ([.ref h0, .int a1]) (n := 2) (Nat.le_of_ble_eq_true rfl)
  rw [lg_entry_eq]
  generalize (lg_sl ([.ref h0, .int a1]) ++ List.replicate (2 - (lg_sl ([.ref h0, .int a1])).length) Slot.unset).toArray = ls at hl ⊢
  have hl : lv_has ls 2 [(0, .ref h0), (1, .int a1)] := hl
  obtain ⟨H, hH⟩ : ∃ H : Heap, s.heap = H := ⟨_, rfl⟩
  rw [hH] at hP ⊢
  have hS : va_S A s.heap H [] := by rw [← hH]; exact va_S.rf
  obtain ⟨locs, hlo⟩ : ∃ locs : List Loc, locs = [] := ⟨_, rfl⟩
  rw [← hlo] at hS ⊢
  have hrs0 : ∀ j : Nat, j ≠ 131 → zs[j]? = zs[j]? := fun _ _  => rfl
  unfold sp_tm_comesBack at hsp
  refine lv_aload_n hx hb dX13_comesBack_0 rfl (lv_at hl 0 rfl) ?_
  refine va_get (D := (dC, dI)) (ci := 13) (v := .int v131) (C := RX13) (T := TX13) (N := 155) hx hb hts uV_h5_X13 hown hK hP 0 rfl rfl 131 (by decide) (hts (.fieldLink RX13 961 "ClassMillModel" "stackMany" "I") mw_h5_126) (fun _ h9 => h9) hf131 dX13_comesBack_1 ?_
  refine lv_aload_n hx hb dX13_comesBack_4 rfl (lv_at hl 0 rfl) ?_
  refine va_get (D := (dC, dI)) (ci := 13) (v := .int v130) (C := RX13) (T := TX13) (N := 155) hx hb hts uV_h5_X13 hown hK hP 0 rfl rfl 130 (by decide) (hts (.fieldLink RX13 967 "ClassMillModel" "stackMost" "I") mw_h5_127) (fun _ h9 => h9) hf130 dX13_comesBack_5 ?_
  refine lv_icmp_lt (tgt := 13) hx hb dX13_comesBack_8 (by decide) (fun c_1 => ?_) (fun c_1 => ?_)
  · rw [if_pos c_1] at hsp
    refine lv_aload_n hx hb dX13_comesBack_13 rfl (lv_at hl 0 rfl) ?_
    refine va_get (D := (dC, dI)) (ci := 13) (v := .ref qf128) (C := RX13) (T := TX13) (N := 155) hx hb hts uV_h5_X13 hown hK hP 0 rfl rfl 128 (by decide) (hts (.fieldLink RX13 273 "ClassMillModel" "stack" "[I") mw_h5_128) (fun _ h9 => h9) hf128 dX13_comesBack_14 ?_
    refine lv_aload_n hx hb dX13_comesBack_17 rfl (lv_at hl 0 rfl) ?_
    refine va_get (D := (dC, dI)) (ci := 13) (v := .int v131) (C := RX13) (T := TX13) (N := 155) hx hb hts uV_h5_X13 hown hK hP 0 rfl rfl 131 (by decide) (hts (.fieldLink RX13 961 "ClassMillModel" "stackMany" "I") mw_h5_126) (fun _ h9 => h9) hf131 dX13_comesBack_18 ?_
    refine lv_iload_n hx hb dX13_comesBack_21 rfl (lv_at hl 1 rfl) ?_
    obtain ⟨hi_2, hsp⟩ := ox_in hsp
    refine va_iast hx hb hK hP hD hS 1 0 rfl rfl (i := v131) (x := a1) hi_2 dX13_comesBack_22 ?_
    clear hP hD hS
    intro H locs hP hD hS
    replace hP : va_P (dC, dI) vwCl [(h0, .inr (13, zs)), (qf128, .inl (cf128, 31, .inl (upd f128 (v131 : Int32).toNatClampNeg a1)))] H := hP
    replace hD : va_D A [(h0, .inr (13, zs)), (qf128, .inl (cf128, 31, .inl (upd f128 (v131 : Int32).toNatClampNeg a1)))] := hD
    refine lv_aload_n hx hb dX13_comesBack_23 rfl (lv_at hl 0 rfl) ?_
    refine lv_dup hx hb dX13_comesBack_24 rfl ?_
    refine va_get (D := (dC, dI)) (ci := 13) (v := .int v131) (C := RX13) (T := TX13) (N := 155) hx hb hts uV_h5_X13 hown hK hP 0 rfl rfl 131 (by decide) (hts (.fieldLink RX13 961 "ClassMillModel" "stackMany" "I") mw_h5_126) (fun _ h9 => h9) hf131 dX13_comesBack_25 ?_
    refine lv_iconst (v := 1) hx hb dX13_comesBack_28 (by decide) ?_
    refine lv_iadd hx hb dX13_comesBack_29 ?_
    refine va_put (D := (dC, dI)) (ci := 13) (v := .int (v131 + 1)) (ty := .int) (C := RX13) (T := TX13) (N := 155) hx hb hts uV_h5_X13 tyX13 tyX13_ok nmX13 hown hK hP hD hS 0 rfl rfl 131 (by decide) (hts (.fieldLink RX13 961 "ClassMillModel" "stackMany" "I") mw_h5_126) (fun _ h9 => h9) rfl (by decide +kernel) rfl rfl (by rw [hlen]; decide) dX13_comesBack_30 ?_
    clear hP hD hS
    intro H locs hP hD hS
    obtain ⟨fs_3, efs_3⟩ : ∃ zf : List Value, zf = zs.set 131 (.int (v131 + 1)) := ⟨_, rfl⟩
    rw [← efs_3] at hP hD
    have hlfs_3 : fs_3.length = 155 := by rw [efs_3, List.length_set]; exact hlen
    have hfs_3_128 : fs_3[128]? = some (.ref qf128) := by rw [efs_3, List.getElem?_set_ne (by decide)]; exact hf128
    have hfs_3_130 : fs_3[130]? = some (.int v130) := by rw [efs_3, List.getElem?_set_ne (by decide)]; exact hf130
    have hfs_3_131 : fs_3[131]? = some (.int (v131 + 1)) := by rw [efs_3, List.getElem?_set_self (by rw [hlen]; decide)]
    replace hP : va_P (dC, dI) vwCl [(h0, .inr (13, fs_3)), (qf128, .inl (cf128, 31, .inl (upd f128 (v131 : Int32).toNatClampNeg a1)))] H := hP
    replace hD : va_D A [(h0, .inr (13, fs_3)), (qf128, .inl (cf128, 31, .inl (upd f128 (v131 : Int32).toNatClampNeg a1)))] := hD
    have hrs_4 : ∀ j : Nat, j ≠ 131 → fs_3[j]? = zs[j]? := fun j g131 => ((congrArg (fun z : List Value => z[j]?) efs_3).trans (List.getElem?_set_ne (Ne.symm g131))).trans (hrs0 j g131)
    refine lv_iconst (v := 1) hx hb dX13_comesBack_33 (by decide) ?_
    have hr0 := Option.some.inj hsp
    clear hsp
    obtain ⟨hq0, hr1⟩ := Prod.mk.inj hr0
    clear hr0
    obtain ⟨hq1, hr2⟩ := Prod.mk.inj hr1
    clear hr1
    subst hq0
    subst hq1
    subst hr2
    have hP9 := hP.sub (ws' := [(h0, .inr (13, fs_3)), (qf128, .inl (cf128, 31, .inl (upd f128 (v131 : Int32).toNatClampNeg a1)))]) [0, 1] rfl
    have hD9 := hD.sub (ws' := [(h0, .inr (13, fs_3)), (qf128, .inl (cf128, 31, .inl (upd f128 (v131 : Int32).toNatClampNeg a1)))]) [0, 1] (by decide) rfl
    have hK9 := hK.sub (tys' := [(cf128, .int)]) [0] rfl
    exact W.zret hx hb hr (by decide) (fun t ht hW => ⟨⟨(1), (fs_3), rfl, ⟨⟨rfl, Or.inr rfl⟩, hlfs_3, hrs_4, hfs_3_131⟩, by rw [ht]; exact hP9, va_K.moved hW.alike hK9, hD9⟩, hS.F ht⟩) hS.2.2 dX13_comesBack_34
  · rw [if_neg c_1] at hsp
    refine lv_iconst (v := 0) hx hb dX13_comesBack_11 (by decide) ?_
    have hr0 := Option.some.inj hsp
    clear hsp
    obtain ⟨hq0, hr1⟩ := Prod.mk.inj hr0
    clear hr0
    obtain ⟨hq1, hr2⟩ := Prod.mk.inj hr1
    clear hr1
    subst hq0
    subst hq1
    subst hr2
    have hP9 := hP.sub (ws' := [(h0, .inr (13, zs)), (qf128, .inl (cf128, 31, .inl f128))]) [0, 1] rfl
    have hD9 := hD.sub (ws' := [(h0, .inr (13, zs)), (qf128, .inl (cf128, 31, .inl f128))]) [0, 1] (by decide) rfl
    have hK9 := hK.sub (tys' := [(cf128, .int)]) [0] rfl
    exact W.zret hx hb hr (by decide) (fun t ht hW => ⟨⟨(0), (zs), rfl, ⟨⟨rfl, Or.inl rfl⟩, hlen, hrs0, hf131⟩, by rw [ht]; exact hP9, va_K.moved hW.alike hK9, hD9⟩, hS.F ht⟩) hS.2.2 dX13_comesBack_12
def sp_tm_pull (nf : Nat) (v131 : Int32) (f128 : Nat → Int32) : Option (Int32 × Int32) := (if v131 = 0 then (some ((-1), v131)) else (if (v131 - 1) < 0 then none else if 31 ≤ ((v131 - 1) : Int32).toNatClampNeg then none else (some ((f128 ((v131 - 1) : Int32).toNatClampNeg), (v131 - 1)))))
set_option maxHeartbeats 4000000 in
set_option maxRecDepth 100000 in
/-- ClassMillModel.pull -/
theorem tm_pull (l : Launch) (dC : Nat → ClassId) (dI : Nat → Nat → Nat) (sz : Nat) (h0 : Nat) (zs : (List Value)) (qf128 : Nat) (v131 : Int32) (cf128 : ClassId) (f128 : (Nat → Int32)) (nf : Nat) (r0 : Int32) (w131 : Int32) (hlen : zs.length = 155) (hf128 : zs[128]? = some (.ref qf128)) (hf131 : zs[131]? = some (.int v131)) (hsp : sp_tm_pull nf v131 f128 = some (r0, w131)) : Met l yX13_pull (.code yX13_pull cX13_pull 1 (some .int) :: VS_h5) ({ frames := 0, cells := 0, slots := 0, locals := 0 }) (va_Pc [.ref h0] (fun U => U.heap.size = sz ∧ va_P (dC, dI) vwCl [(h0, .inr (13, zs)), (qf128, .inl (cf128, 31, .inl f128))] U.heap ∧ va_K (dC, dI) vwCl [(cf128, .int)] U ∧ va_D (fun _ => True) [(h0, .inr (13, zs)), (qf128, .inl (cf128, 31, .inl f128))])) (va_Qi (fun (r : Int32) (u : (List Value)) => match u with | (zo1) => r0 = r ∧ zo1.length = 155 ∧ (∀ j : Nat, j ≠ 131 → zo1[j]? = zs[j]?) ∧ zo1[131]? = some (.int w131)) (fun (u : (List Value)) (t : State) => match u with | (zo1) => va_P (dC, dI) vwCl [(h0, .inr (13, zo1)), (qf128, .inl (cf128, 31, .inl f128))] t.heap ∧ va_K (dC, dI) vwCl [(cf128, .int)] t ∧ va_D (va_A [(h0, .inr (13, zs)), (qf128, .inl (cf128, 31, .inl f128))] sz) [(h0, .inr (13, zo1)), (qf128, .inl (cf128, 31, .inl f128))]) (va_A [(h0, .inr (13, zs)), (qf128, .inl (cf128, 31, .inl f128))] sz)) 0 0 (va_A [(h0, .inr (13, zs)), (qf128, .inl (cf128, 31, .inl f128))] sz) := by
  refine Met.ofW (cc := cX13_pull) (maxL := 1) (ret := (some .int)) (by decide) rfl ?_
  intro p e s m args below meth c s₁ B hml hv
  obtain ⟨rfl, hsz, hP, hK, hD0⟩ := hv
  have hx := B.exec
  have hb := B.bytes
  have hr := B.returns
  have hts := atoms_spec (ws := (.code yX13_pull cX13_pull 1 (some .int) :: VS_h5)) B.pre
  replace hts := fun w (h : w ∈ VS_h5) => hts w (List.mem_cons_of_mem _ h)
  have hown : s.vm.findClass RX13 = some m.cls := findClass_of_methodNamed B.named
  have hlocks := B.notSynchronized
  subst hsz
  have hD := hD0.self (sz := s.heap.size)
  generalize hAe : va_A [(h0, .inr (13, zs)), (qf128, .inl (cf128, 31, .inl f128))] s.heap.size = A at hD  ⊢
  have hA : ∀ q : Nat, s.heap.size ≤ q → A q := fun q h => by rw [← hAe]; exact Or.inr h
  have hP : va_P (dC, dI) vwCl [(h0, .inr (13, zs)), (qf128, .inl (cf128, 31, .inl f128))] s.heap := hP
  have hl := lv_entry ([.ref h0]) (n := 1) (Nat.le_of_ble_eq_true rfl)
  rw [lg_entry_eq]
  generalize (lg_sl ([.ref h0]) ++ List.replicate (1 - (lg_sl ([.ref h0])).length) Slot.unset).toArray = ls at hl ⊢
  have hl : lv_has ls 1 [(0, .ref h0)] := hl
  obtain ⟨H, hH⟩ : ∃ H : Heap, s.heap = H := ⟨_, rfl⟩
  rw [hH] at hP ⊢
  have hS : va_S A s.heap H [] := by rw [← hH]; exact va_S.rf
  obtain ⟨locs, hlo⟩ : ∃ locs : List Loc, locs = [] := ⟨_, rfl⟩
  rw [← hlo] at hS ⊢
  have hrs0 : ∀ j : Nat, j ≠ 131 → zs[j]? = zs[j]? := fun _ _  => rfl
  unfold sp_tm_pull at hsp
  refine lv_aload_n hx hb dX13_pull_0 rfl (lv_at hl 0 rfl) ?_
  refine va_get (D := (dC, dI)) (ci := 13) (v := .int v131) (C := RX13) (T := TX13) (N := 155) hx hb hts uV_h5_X13 hown hK hP 0 rfl rfl 131 (by decide) (hts (.fieldLink RX13 961 "ClassMillModel" "stackMany" "I") mw_h5_126) (fun _ h9 => h9) hf131 dX13_pull_1 ?_
  refine lv_if_ne (tgt := 9) hx hb dX13_pull_4 (by decide) (fun c_1 => ?_) (fun c_1 => ?_)
  · rw [if_neg c_1] at hsp
    refine lv_aload_n hx hb dX13_pull_9 rfl (lv_at hl 0 rfl) ?_
    refine lv_dup hx hb dX13_pull_10 rfl ?_
    refine va_get (D := (dC, dI)) (ci := 13) (v := .int v131) (C := RX13) (T := TX13) (N := 155) hx hb hts uV_h5_X13 hown hK hP 0 rfl rfl 131 (by decide) (hts (.fieldLink RX13 961 "ClassMillModel" "stackMany" "I") mw_h5_126) (fun _ h9 => h9) hf131 dX13_pull_11 ?_
    refine lv_iconst (v := 1) hx hb dX13_pull_14 (by decide) ?_
    refine lv_isub hx hb dX13_pull_15 ?_
    refine va_put (D := (dC, dI)) (ci := 13) (v := .int (v131 - 1)) (ty := .int) (C := RX13) (T := TX13) (N := 155) hx hb hts uV_h5_X13 tyX13 tyX13_ok nmX13 hown hK hP hD hS 0 rfl rfl 131 (by decide) (hts (.fieldLink RX13 961 "ClassMillModel" "stackMany" "I") mw_h5_126) (fun _ h9 => h9) rfl (by decide +kernel) rfl rfl (by rw [hlen]; decide) dX13_pull_16 ?_
    clear hP hD hS
    intro H locs hP hD hS
    obtain ⟨fs_2, efs_2⟩ : ∃ zf : List Value, zf = zs.set 131 (.int (v131 - 1)) := ⟨_, rfl⟩
    rw [← efs_2] at hP hD
    have hlfs_2 : fs_2.length = 155 := by rw [efs_2, List.length_set]; exact hlen
    have hfs_2_128 : fs_2[128]? = some (.ref qf128) := by rw [efs_2, List.getElem?_set_ne (by decide)]; exact hf128
    have hfs_2_131 : fs_2[131]? = some (.int (v131 - 1)) := by rw [efs_2, List.getElem?_set_self (by rw [hlen]; decide)]
    replace hP : va_P (dC, dI) vwCl [(h0, .inr (13, fs_2)), (qf128, .inl (cf128, 31, .inl f128))] H := hP
    replace hD : va_D A [(h0, .inr (13, fs_2)), (qf128, .inl (cf128, 31, .inl f128))] := hD
    have hrs_3 : ∀ j : Nat, j ≠ 131 → fs_2[j]? = zs[j]? := fun j g131 => ((congrArg (fun z : List Value => z[j]?) efs_2).trans (List.getElem?_set_ne (Ne.symm g131))).trans (hrs0 j g131)
    refine lv_aload_n hx hb dX13_pull_19 rfl (lv_at hl 0 rfl) ?_
    refine va_get (D := (dC, dI)) (ci := 13) (v := .ref qf128) (C := RX13) (T := TX13) (N := 155) hx hb hts uV_h5_X13 hown hK hP 0 rfl rfl 128 (by decide) (hts (.fieldLink RX13 273 "ClassMillModel" "stack" "[I") mw_h5_128) (fun _ h9 => h9) hfs_2_128 dX13_pull_20 ?_
    refine lv_aload_n hx hb dX13_pull_23 rfl (lv_at hl 0 rfl) ?_
    refine va_get (D := (dC, dI)) (ci := 13) (v := .int (v131 - 1)) (C := RX13) (T := TX13) (N := 155) hx hb hts uV_h5_X13 hown hK hP 0 rfl rfl 131 (by decide) (hts (.fieldLink RX13 961 "ClassMillModel" "stackMany" "I") mw_h5_126) (fun _ h9 => h9) hfs_2_131 dX13_pull_24 ?_
    obtain ⟨hi_4, hsp⟩ := ox_in hsp
    refine va_iald hx hb hK hP 1 0 rfl rfl (i := (v131 - 1)) hi_4 dX13_pull_27 ?_
    have hr0 := Option.some.inj hsp
    clear hsp
    obtain ⟨hq0, hr1⟩ := Prod.mk.inj hr0
    clear hr0
    subst hq0
    subst hr1
    have hP9 := hP.sub (ws' := [(h0, .inr (13, fs_2)), (qf128, .inl (cf128, 31, .inl f128))]) [0, 1] rfl
    have hD9 := hD.sub (ws' := [(h0, .inr (13, fs_2)), (qf128, .inl (cf128, 31, .inl f128))]) [0, 1] (by decide) rfl
    have hK9 := hK.sub (tys' := [(cf128, .int)]) [0] rfl
    exact W.iret hx hb hr (fun t ht hW => ⟨⟨((f128 ((v131 - 1) : Int32).toNatClampNeg)), (fs_2), rfl, ⟨rfl, hlfs_2, hrs_3, hfs_2_131⟩, by rw [ht]; exact hP9, va_K.moved hW.alike hK9, hD9⟩, hS.F ht⟩) hS.2.2 dX13_pull_28
  · rw [if_pos c_1] at hsp
    refine lv_iconst (v := (-1)) hx hb dX13_pull_7 (by decide) ?_
    have hr0 := Option.some.inj hsp
    clear hsp
    obtain ⟨hq0, hr1⟩ := Prod.mk.inj hr0
    clear hr0
    subst hq0
    subst hr1
    have hP9 := hP.sub (ws' := [(h0, .inr (13, zs)), (qf128, .inl (cf128, 31, .inl f128))]) [0, 1] rfl
    have hD9 := hD.sub (ws' := [(h0, .inr (13, zs)), (qf128, .inl (cf128, 31, .inl f128))]) [0, 1] (by decide) rfl
    have hK9 := hK.sub (tys' := [(cf128, .int)]) [0] rfl
    exact W.iret hx hb hr (fun t ht hW => ⟨⟨((-1)), (zs), rfl, ⟨rfl, hlen, hrs0, hf131⟩, by rw [ht]; exact hP9, va_K.moved hW.alike hK9, hD9⟩, hS.F ht⟩) hS.2.2 dX13_pull_8
def sp_tm_pullThing (nf : Nat) (v131 : Int32) (f128 : Nat → Int32) : Option (Int32 × Int32) := ((sp_tm_pull nf v131 f128).bind (fun p1 => (if p1.1 < 2 then (some (0, p1.2)) else (some (1, p1.2)))))
set_option maxHeartbeats 4000000 in
set_option maxRecDepth 100000 in
/-- ClassMillModel.pullThing -/
theorem tm_pullThing (l : Launch) (dC : Nat → ClassId) (dI : Nat → Nat → Nat) (sz : Nat) (h0 : Nat) (zs : (List Value)) (qf128 : Nat) (v131 : Int32) (cf128 : ClassId) (f128 : (Nat → Int32)) (nf : Nat) (r0 : Int32) (w131 : Int32) (hlen : zs.length = 155) (hf128 : zs[128]? = some (.ref qf128)) (hf131 : zs[131]? = some (.int v131)) (hsp : sp_tm_pullThing nf v131 f128 = some (r0, w131)) : Met l yX13_pullThing (.code yX13_pullThing cX13_pullThing 1 (some .boolean) :: VS_h5) ({ frames := 1, cells := 0, slots := 0, locals := 20 }) (va_Pc [.ref h0] (fun U => U.heap.size = sz ∧ va_P (dC, dI) vwCl [(h0, .inr (13, zs)), (qf128, .inl (cf128, 31, .inl f128))] U.heap ∧ va_K (dC, dI) vwCl [(cf128, .int)] U ∧ va_D (fun _ => True) [(h0, .inr (13, zs)), (qf128, .inl (cf128, 31, .inl f128))])) (va_Qi (fun (r : Int32) (u : (List Value)) => match u with | (zo1) => (r0 = r ∧ (r0 = 0 ∨ r0 = 1)) ∧ zo1.length = 155 ∧ (∀ j : Nat, j ≠ 131 → zo1[j]? = zs[j]?) ∧ zo1[131]? = some (.int w131)) (fun (u : (List Value)) (t : State) => match u with | (zo1) => va_P (dC, dI) vwCl [(h0, .inr (13, zo1)), (qf128, .inl (cf128, 31, .inl f128))] t.heap ∧ va_K (dC, dI) vwCl [(cf128, .int)] t ∧ va_D (va_A [(h0, .inr (13, zs)), (qf128, .inl (cf128, 31, .inl f128))] sz) [(h0, .inr (13, zo1)), (qf128, .inl (cf128, 31, .inl f128))]) (va_A [(h0, .inr (13, zs)), (qf128, .inl (cf128, 31, .inl f128))] sz)) 0 0 (va_A [(h0, .inr (13, zs)), (qf128, .inl (cf128, 31, .inl f128))] sz) := by
  refine Met.ofW (cc := cX13_pullThing) (maxL := 1) (ret := (some .boolean)) (by decide) rfl ?_
  intro p e s m args below meth c s₁ B hml hv
  obtain ⟨rfl, hsz, hP, hK, hD0⟩ := hv
  have hx := B.exec
  have hb := B.bytes
  have hr := B.returns
  have hts := atoms_spec (ws := (.code yX13_pullThing cX13_pullThing 1 (some .boolean) :: VS_h5)) B.pre
  replace hts := fun w (h : w ∈ VS_h5) => hts w (List.mem_cons_of_mem _ h)
  have hown : s.vm.findClass RX13 = some m.cls := findClass_of_methodNamed B.named
  have hlocks := B.notSynchronized
  subst hsz
  have hD := hD0.self (sz := s.heap.size)
  generalize hAe : va_A [(h0, .inr (13, zs)), (qf128, .inl (cf128, 31, .inl f128))] s.heap.size = A at hD  ⊢
  have hA : ∀ q : Nat, s.heap.size ≤ q → A q := fun q h => by rw [← hAe]; exact Or.inr h
  have hP : va_P (dC, dI) vwCl [(h0, .inr (13, zs)), (qf128, .inl (cf128, 31, .inl f128))] s.heap := hP
  have hl := lv_entry ([.ref h0]) (n := 1) (Nat.le_of_ble_eq_true rfl)
  rw [lg_entry_eq]
  generalize (lg_sl ([.ref h0]) ++ List.replicate (1 - (lg_sl ([.ref h0])).length) Slot.unset).toArray = ls at hl ⊢
  have hl : lv_has ls 1 [(0, .ref h0)] := hl
  obtain ⟨H, hH⟩ : ∃ H : Heap, s.heap = H := ⟨_, rfl⟩
  rw [hH] at hP ⊢
  have hS : va_S A s.heap H [] := by rw [← hH]; exact va_S.rf
  obtain ⟨locs, hlo⟩ : ∃ locs : List Loc, locs = [] := ⟨_, rfl⟩
  rw [← hlo] at hS ⊢
  have hrs0 : ∀ j : Nat, j ≠ 131 → zs[j]? = zs[j]? := fun _ _  => rfl
  unfold sp_tm_pullThing at hsp
  refine lv_aload_n hx hb dX13_pullThing_0 rfl (lv_at hl 0 rfl) ?_
  obtain ⟨⟨u1_0, u1_1⟩, hu_1, hsp⟩ := ox_bind hsp
  try dsimp only at hsp
  have hPc := hP.sub (ws' := [(h0, .inr (13, zs)), (qf128, .inl (cf128, 31, .inl f128))]) [0, 1] rfl
  have hDc := hD.sub (ws' := [(h0, .inr (13, zs)), (qf128, .inl (cf128, 31, .inl f128))]) [0, 1] (by decide) rfl
  have hKc := hK.sub (tys' := [(cf128, .int)]) [0] rfl
  have hFc := va_free (wc := [(h0, .inr (13, zs)), (qf128, .inl (cf128, 31, .inl f128))]) hD hS hA [0, 1] rfl
  refine va_calli (va_runV (As := []) (rest := []) ⟨hx, hb, hml, hown, hts⟩ (tm_pull l dC dI H.size h0 zs qf128 v131 cf128 f128 nf u1_0 u1_1 hlen hf128 hf131 hu_1) (cwV 0 hts gv_h5_16 rfl rfl rfl (by decide +kernel) ⟨Nat.le_of_ble_eq_true rfl, Nat.le_of_ble_eq_true rfl⟩) ⟨fun a U g mk q => by obtain ⟨q0, q1, qP, qK, qD⟩ := q; exact ⟨q0, q1, qP, va_K.moved (u := U) (U := U.calling g mk a) (Vm.Alike.refl U.vm) qK, qD⟩, va_recv hKc hPc (ci := 13) (q0 := 0) rfl rfl, fun U hU hW => ⟨rfl, by rw [hU], by rw [hU]; exact hPc, va_K.moved hW.alike hKc, hDc.weaken (fun _ _ _ _ => trivial)⟩⟩ rfl rfl hl.1 rfl (lv_room (Nat.le_of_ble_eq_true rfl)) dX13_pullThing_1 ⟨Nat.le_of_ble_eq_true rfl, Nat.le_of_ble_eq_true rfl⟩) hS (fun q _ h => hFc q h) hFc ?_
  clear hS
  intro r_1 u t H1 locs ht hvm hw hB hz1 hk1 hS
  obtain ⟨z_1, rfl⟩ : ∃ z, z = u := ⟨_, rfl⟩
  obtain ⟨hP1, hK1, hD1⟩ := hB
  rw [ht] at hP1
  have hK1 := va_K.moved hvm.symm hK1
  try dsimp only at hw
  have hPD := va_join (wr := []) (w1 := [(h0, .inr (13, z_1)), (qf128, .inl (cf128, 31, .inl f128))]) hP hD [0, 1] [] rfl rfl (by decide) (by decide) hk1 hFc hP1 hD1
  clear hP hD
  obtain ⟨hP, hD⟩ := hPD
  replace hK := (hK.sub (tys' := []) [] rfl).app hK1
  clear hPc hDc hKc hFc hP1 hK1 hD1 hz1 hk1 ht hvm
  generalize H1 = H at hP hS ⊢
  replace hP : va_P (dC, dI) vwCl [(h0, .inr (13, z_1)), (qf128, .inl (cf128, 31, .inl f128))] H := hP
  replace hD : va_D A [(h0, .inr (13, z_1)), (qf128, .inl (cf128, 31, .inl f128))] := hD
  replace hK : va_K (dC, dI) vwCl [(cf128, .int)] s := hK
  obtain ⟨hwa_1, hln_1, hre_1, hch_1_131⟩ := hw
  have hfk_1_128 : z_1[128]? = some (.ref qf128) := (hre_1 128 (by decide)).trans (hf128)
  have hrq_1 : ∀ j : Nat, j ≠ 131 → z_1[j]? = zs[j]? := fun j g131 => (hre_1 j g131).trans (hrs0 j g131)
  obtain rfl := hwa_1
  refine lv_iconst (v := 2) hx hb dX13_pullThing_4 (by decide) ?_
  refine lv_icmp_lt (tgt := 12) hx hb dX13_pullThing_5 (by decide) (fun c_2 => ?_) (fun c_2 => ?_)
  · rw [if_pos c_2] at hsp
    refine lv_iconst (v := 0) hx hb dX13_pullThing_12 (by decide) ?_
    have hr0 := Option.some.inj hsp
    clear hsp
    obtain ⟨hq0, hr1⟩ := Prod.mk.inj hr0
    clear hr0
    subst hq0
    subst hr1
    have hP9 := hP.sub (ws' := [(h0, .inr (13, z_1)), (qf128, .inl (cf128, 31, .inl f128))]) [0, 1] rfl
    have hD9 := hD.sub (ws' := [(h0, .inr (13, z_1)), (qf128, .inl (cf128, 31, .inl f128))]) [0, 1] (by decide) rfl
    have hK9 := hK.sub (tys' := [(cf128, .int)]) [0] rfl
    exact W.zret hx hb hr (by decide) (fun t ht hW => ⟨⟨(0), (z_1), rfl, ⟨⟨rfl, Or.inl rfl⟩, hln_1, hrq_1, hch_1_131⟩, by rw [ht]; exact hP9, va_K.moved hW.alike hK9, hD9⟩, hS.F ht⟩) hS.2.2 dX13_pullThing_13
  · rw [if_neg c_2] at hsp
    refine lv_iconst (v := 1) hx hb dX13_pullThing_8 (by decide) ?_
    refine lv_goto (tgt := 13) hx hb dX13_pullThing_9 (by decide) ?_
    have hr0 := Option.some.inj hsp
    clear hsp
    obtain ⟨hq0, hr1⟩ := Prod.mk.inj hr0
    clear hr0
    subst hq0
    subst hr1
    have hP9 := hP.sub (ws' := [(h0, .inr (13, z_1)), (qf128, .inl (cf128, 31, .inl f128))]) [0, 1] rfl
    have hD9 := hD.sub (ws' := [(h0, .inr (13, z_1)), (qf128, .inl (cf128, 31, .inl f128))]) [0, 1] (by decide) rfl
    have hK9 := hK.sub (tys' := [(cf128, .int)]) [0] rfl
    exact W.zret hx hb hr (by decide) (fun t ht hW => ⟨⟨(1), (z_1), rfl, ⟨⟨rfl, Or.inr rfl⟩, hln_1, hrq_1, hch_1_131⟩, by rw [ht]; exact hP9, va_K.moved hW.alike hK9, hD9⟩, hS.F ht⟩) hS.2.2 dX13_pullThing_13
def sp_tm_give (nf : Nat) (a1 : Int32) (v149 : Int32) (f153 : Nat → Int32) (f154 : Nat → Int32) : Option ((Nat → Int32) × (Nat → Int32)) := (if (v149 - 1) < 0 then none else if 60 ≤ ((v149 - 1) : Int32).toNatClampNeg then none else (if (((60 * (v149 - 1)) + 30) + (f153 ((v149 - 1) : Int32).toNatClampNeg)) < 0 then none else if 3600 ≤ ((((60 * (v149 - 1)) + 30) + (f153 ((v149 - 1) : Int32).toNatClampNeg)) : Int32).toNatClampNeg then none else (if (v149 - 1) < 0 then none else if 60 ≤ ((v149 - 1) : Int32).toNatClampNeg then none else (if (v149 - 1) < 0 then none else if 60 ≤ ((v149 - 1) : Int32).toNatClampNeg then none else (some ((upd f153 ((v149 - 1) : Int32).toNatClampNeg ((f153 ((v149 - 1) : Int32).toNatClampNeg) + 1)), (upd f154 ((((60 * (v149 - 1)) + 30) + (f153 ((v149 - 1) : Int32).toNatClampNeg)) : Int32).toNatClampNeg a1)))))))
set_option maxHeartbeats 4000000 in
set_option maxRecDepth 100000 in
/-- ClassMillModel.give -/
theorem tm_give (l : Launch) (dC : Nat → ClassId) (dI : Nat → Nat → Nat) (sz : Nat) (h0 : Nat) (zs : (List Value)) (a1 : Int32) (v149 : Int32) (qf153 : Nat) (qf154 : Nat) (cf153 : ClassId) (f153 : (Nat → Int32)) (cf154 : ClassId) (f154 : (Nat → Int32)) (nf : Nat) (o153 : (Nat → Int32)) (o154 : (Nat → Int32)) (hlen : zs.length = 155) (hf149 : zs[149]? = some (.int v149)) (hf153 : zs[153]? = some (.ref qf153)) (hf154 : zs[154]? = some (.ref qf154)) (hsp : sp_tm_give nf a1 v149 f153 f154 = some (o153, o154)) : Met l yX13_give (.code yX13_give cX13_give 3 none :: VS_h5) ({ frames := 0, cells := 0, slots := 0, locals := 0 }) (va_Pc [.ref h0, .int a1] (fun U => U.heap.size = sz ∧ va_P (dC, dI) vwCl [(h0, .inr (13, zs)), (qf153, .inl (cf153, 60, .inl f153)), (qf154, .inl (cf154, 3600, .inl f154))] U.heap ∧ va_K (dC, dI) vwCl [(cf153, .int), (cf154, .int)] U ∧ va_D (fun _ => True) [(h0, .inr (13, zs)), (qf153, .inl (cf153, 60, .inl f153)), (qf154, .inl (cf154, 3600, .inl f154))])) (va_Qv (fun (u : (List Value)) => match u with | (zo1) => True ∧ zo1.length = 155 ∧ (∀ j : Nat, zo1[j]? = zs[j]?)) (fun (u : (List Value)) (t : State) => match u with | (zo1) => va_P (dC, dI) vwCl [(h0, .inr (13, zo1)), (qf153, .inl (cf153, 60, .inl o153)), (qf154, .inl (cf154, 3600, .inl o154))] t.heap ∧ va_K (dC, dI) vwCl [(cf153, .int), (cf154, .int)] t ∧ va_D (va_A [(h0, .inr (13, zs)), (qf153, .inl (cf153, 60, .inl f153)), (qf154, .inl (cf154, 3600, .inl f154))] sz) [(h0, .inr (13, zo1)), (qf153, .inl (cf153, 60, .inl o153)), (qf154, .inl (cf154, 3600, .inl o154))]) (va_A [(h0, .inr (13, zs)), (qf153, .inl (cf153, 60, .inl f153)), (qf154, .inl (cf154, 3600, .inl f154))] sz)) 0 0 (va_A [(h0, .inr (13, zs)), (qf153, .inl (cf153, 60, .inl f153)), (qf154, .inl (cf154, 3600, .inl f154))] sz) := by
  refine Met.ofW (cc := cX13_give) (maxL := 3) (ret := none) (by decide) rfl ?_
  intro p e s m args below meth c s₁ B hml hv
  obtain ⟨rfl, hsz, hP, hK, hD0⟩ := hv
  have hx := B.exec
  have hb := B.bytes
  have hr := B.returns
  have hts := atoms_spec (ws := (.code yX13_give cX13_give 3 none :: VS_h5)) B.pre
  replace hts := fun w (h : w ∈ VS_h5) => hts w (List.mem_cons_of_mem _ h)
  have hown : s.vm.findClass RX13 = some m.cls := findClass_of_methodNamed B.named
  have hlocks := B.notSynchronized
  subst hsz
  have hD := hD0.self (sz := s.heap.size)
  generalize hAe : va_A [(h0, .inr (13, zs)), (qf153, .inl (cf153, 60, .inl f153)), (qf154, .inl (cf154, 3600, .inl f154))] s.heap.size = A at hD  ⊢
  have hA : ∀ q : Nat, s.heap.size ≤ q → A q := fun q h => by rw [← hAe]; exact Or.inr h
  have hP : va_P (dC, dI) vwCl [(h0, .inr (13, zs)), (qf153, .inl (cf153, 60, .inl f153)), (qf154, .inl (cf154, 3600, .inl f154))] s.heap := hP
  have hl := lv_entry ([.ref h0, .int a1]) (n := 3) (Nat.le_of_ble_eq_true rfl)
  rw [lg_entry_eq]
  generalize (lg_sl ([.ref h0, .int a1]) ++ List.replicate (3 - (lg_sl ([.ref h0, .int a1])).length) Slot.unset).toArray = ls at hl ⊢
  have hl : lv_has ls 3 [(0, .ref h0), (1, .int a1)] := hl
  obtain ⟨H, hH⟩ : ∃ H : Heap, s.heap = H := ⟨_, rfl⟩
  rw [hH] at hP ⊢
  have hS : va_S A s.heap H [] := by rw [← hH]; exact va_S.rf
  obtain ⟨locs, hlo⟩ : ∃ locs : List Loc, locs = [] := ⟨_, rfl⟩
  rw [← hlo] at hS ⊢
  have hrs0 : ∀ j : Nat, zs[j]? = zs[j]? := fun _  => rfl
  unfold sp_tm_give at hsp
  refine lv_aload_n hx hb dX13_give_0 rfl (lv_at hl 0 rfl) ?_
  refine va_get (D := (dC, dI)) (ci := 13) (v := .int v149) (C := RX13) (T := TX13) (N := 155) hx hb hts uV_h5_X13 hown hK hP 0 rfl rfl 149 (by decide) (hts (.fieldLink RX13 1058 "ClassMillModel" "depth" "I") mw_h5_133) (fun _ h9 => h9) hf149 dX13_give_1 ?_
  refine lv_iconst (v := 1) hx hb dX13_give_4 (by decide) ?_
  refine lv_isub hx hb dX13_give_5 ?_
  refine lv_istore_n (lv' := [(2, .int (v149 - 1)), (0, .ref h0), (1, .int a1)]) hx hb dX13_give_6 rfl hl (by decide) rfl (fun ls hl => ?_)
  refine lv_aload_n hx hb dX13_give_7 rfl (lv_at hl 1 rfl) ?_
  refine va_get (D := (dC, dI)) (ci := 13) (v := .ref qf154) (C := RX13) (T := TX13) (N := 155) hx hb hts uV_h5_X13 hown hK hP 0 rfl rfl 154 (by decide) (hts (.fieldLink RX13 306 "ClassMillModel" "cells" "[I") mw_h5_134) (fun _ h9 => h9) hf154 dX13_give_8 ?_
  refine lv_bipush (v := 60) hx hb dX13_give_11 (by decide) ?_
  refine lv_iload_n hx hb dX13_give_13 rfl (lv_at hl 0 rfl) ?_
  refine lv_imul hx hb dX13_give_14 ?_
  refine lv_bipush (v := 30) hx hb dX13_give_15 (by decide) ?_
  refine lv_iadd hx hb dX13_give_17 ?_
  refine lv_aload_n hx hb dX13_give_18 rfl (lv_at hl 1 rfl) ?_
  refine va_get (D := (dC, dI)) (ci := 13) (v := .ref qf153) (C := RX13) (T := TX13) (N := 155) hx hb hts uV_h5_X13 hown hK hP 0 rfl rfl 153 (by decide) (hts (.fieldLink RX13 303 "ClassMillModel" "runStack" "[I") mw_h5_135) (fun _ h9 => h9) hf153 dX13_give_19 ?_
  refine lv_iload_n hx hb dX13_give_22 rfl (lv_at hl 0 rfl) ?_
  obtain ⟨hi_1, hsp⟩ := ox_in hsp
  refine va_iald hx hb hK hP 1 0 rfl rfl (i := (v149 - 1)) hi_1 dX13_give_23 ?_
  refine lv_iadd hx hb dX13_give_24 ?_
  refine lv_iload_n hx hb dX13_give_25 rfl (lv_at hl 2 rfl) ?_
  obtain ⟨hi_2, hsp⟩ := ox_in hsp
  refine va_iast hx hb hK hP hD hS 2 1 rfl rfl (i := (((60 * (v149 - 1)) + 30) + (f153 ((v149 - 1) : Int32).toNatClampNeg))) (x := a1) hi_2 dX13_give_26 ?_
  clear hP hD hS
  intro H locs hP hD hS
  replace hP : va_P (dC, dI) vwCl [(h0, .inr (13, zs)), (qf153, .inl (cf153, 60, .inl f153)), (qf154, .inl (cf154, 3600, .inl (upd f154 ((((60 * (v149 - 1)) + 30) + (f153 ((v149 - 1) : Int32).toNatClampNeg)) : Int32).toNatClampNeg a1)))] H := hP
  replace hD : va_D A [(h0, .inr (13, zs)), (qf153, .inl (cf153, 60, .inl f153)), (qf154, .inl (cf154, 3600, .inl (upd f154 ((((60 * (v149 - 1)) + 30) + (f153 ((v149 - 1) : Int32).toNatClampNeg)) : Int32).toNatClampNeg a1)))] := hD
  refine lv_aload_n hx hb dX13_give_27 rfl (lv_at hl 1 rfl) ?_
  refine va_get (D := (dC, dI)) (ci := 13) (v := .ref qf153) (C := RX13) (T := TX13) (N := 155) hx hb hts uV_h5_X13 hown hK hP 0 rfl rfl 153 (by decide) (hts (.fieldLink RX13 303 "ClassMillModel" "runStack" "[I") mw_h5_135) (fun _ h9 => h9) hf153 dX13_give_28 ?_
  refine lv_iload_n hx hb dX13_give_31 rfl (lv_at hl 0 rfl) ?_
  refine lv_dup2_11 hx hb dX13_give_32 rfl rfl ?_
  obtain ⟨hi_3, hsp⟩ := ox_in hsp
  refine va_iald hx hb hK hP 1 0 rfl rfl (i := (v149 - 1)) hi_3 dX13_give_33 ?_
  refine lv_iconst (v := 1) hx hb dX13_give_34 (by decide) ?_
  refine lv_iadd hx hb dX13_give_35 ?_
  obtain ⟨hi_4, hsp⟩ := ox_in hsp
  refine va_iast hx hb hK hP hD hS 1 0 rfl rfl (i := (v149 - 1)) (x := ((f153 ((v149 - 1) : Int32).toNatClampNeg) + 1)) hi_4 dX13_give_36 ?_
  clear hP hD hS
  intro H locs hP hD hS
  replace hP : va_P (dC, dI) vwCl [(h0, .inr (13, zs)), (qf153, .inl (cf153, 60, .inl (upd f153 ((v149 - 1) : Int32).toNatClampNeg ((f153 ((v149 - 1) : Int32).toNatClampNeg) + 1)))), (qf154, .inl (cf154, 3600, .inl (upd f154 ((((60 * (v149 - 1)) + 30) + (f153 ((v149 - 1) : Int32).toNatClampNeg)) : Int32).toNatClampNeg a1)))] H := hP
  replace hD : va_D A [(h0, .inr (13, zs)), (qf153, .inl (cf153, 60, .inl (upd f153 ((v149 - 1) : Int32).toNatClampNeg ((f153 ((v149 - 1) : Int32).toNatClampNeg) + 1)))), (qf154, .inl (cf154, 3600, .inl (upd f154 ((((60 * (v149 - 1)) + 30) + (f153 ((v149 - 1) : Int32).toNatClampNeg)) : Int32).toNatClampNeg a1)))] := hD
  have hr0 := Option.some.inj hsp
  clear hsp
  obtain ⟨hq0, hr1⟩ := Prod.mk.inj hr0
  clear hr0
  subst hq0
  subst hr1
  have hP9 := hP.sub (ws' := [(h0, .inr (13, zs)), (qf153, .inl (cf153, 60, .inl (upd f153 ((v149 - 1) : Int32).toNatClampNeg ((f153 ((v149 - 1) : Int32).toNatClampNeg) + 1)))), (qf154, .inl (cf154, 3600, .inl (upd f154 ((((60 * (v149 - 1)) + 30) + (f153 ((v149 - 1) : Int32).toNatClampNeg)) : Int32).toNatClampNeg a1)))]) [0, 1, 2] rfl
  have hD9 := hD.sub (ws' := [(h0, .inr (13, zs)), (qf153, .inl (cf153, 60, .inl (upd f153 ((v149 - 1) : Int32).toNatClampNeg ((f153 ((v149 - 1) : Int32).toNatClampNeg) + 1)))), (qf154, .inl (cf154, 3600, .inl (upd f154 ((((60 * (v149 - 1)) + 30) + (f153 ((v149 - 1) : Int32).toNatClampNeg)) : Int32).toNatClampNeg a1)))]) [0, 1, 2] (by decide) rfl
  have hK9 := hK.sub (tys' := [(cf153, .int), (cf154, .int)]) [0, 1] rfl
  exact W.vret hx hb hr (fun t ht hW => ⟨⟨(zs), rfl, ⟨trivial, hlen, hrs0⟩, by rw [ht]; exact hP9, va_K.moved hW.alike hK9, hD9⟩, hS.F ht⟩) hS.2.2 dX13_give_37
def sp_tm_drop (nf : Nat) (v149 : Int32) (f153 : Nat → Int32) (f154 : Nat → Int32) : Option (Int32 × (Nat → Int32)) := (if (v149 - 1) < 0 then none else if 60 ≤ ((v149 - 1) : Int32).toNatClampNeg then none else (if (v149 - 1) < 0 then none else if 60 ≤ ((v149 - 1) : Int32).toNatClampNeg then none else (if (v149 - 1) < 0 then none else if 60 ≤ ((v149 - 1) : Int32).toNatClampNeg then none else (if (((60 * (v149 - 1)) + 30) + ((upd f153 ((v149 - 1) : Int32).toNatClampNeg ((f153 ((v149 - 1) : Int32).toNatClampNeg) - 1)) ((v149 - 1) : Int32).toNatClampNeg)) < 0 then none else if 3600 ≤ ((((60 * (v149 - 1)) + 30) + ((upd f153 ((v149 - 1) : Int32).toNatClampNeg ((f153 ((v149 - 1) : Int32).toNatClampNeg) - 1)) ((v149 - 1) : Int32).toNatClampNeg)) : Int32).toNatClampNeg then none else (some ((f154 ((((60 * (v149 - 1)) + 30) + ((upd f153 ((v149 - 1) : Int32).toNatClampNeg ((f153 ((v149 - 1) : Int32).toNatClampNeg) - 1)) ((v149 - 1) : Int32).toNatClampNeg)) : Int32).toNatClampNeg), (upd f153 ((v149 - 1) : Int32).toNatClampNeg ((f153 ((v149 - 1) : Int32).toNatClampNeg) - 1))))))))

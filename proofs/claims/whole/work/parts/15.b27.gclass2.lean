set_option maxHeartbeats 4000000 in
set_option maxRecDepth 100000 in
/-- ClassMill$Syntax.accept -/
theorem t8_accept (l : Launch) (dC : Nat → ClassId) (dI : Nat → Nat → Nat) (sz : Nat) (h0 : Nat) (a1 : Int32) (qf0 : Nat) (qf1 : Nat) (qf0_0 : Nat) (qf0_1 : Nat) (qf0_2 : Nat) (v0_3 : Int32) (qf0_4 : Nat) (qf0_5 : Nat) (qf0_6 : Nat) (qf0_7 : Nat) (qf0_8 : Nat) (v0_9 : Int32) (v0_10 : Int32) (v0_11 : Int32) (v0_12 : Int32) (cf0_0 : ClassId) (f0_0 : (Nat → Int32)) (nf : Nat) (r0 : Int32) (w0_10 : Int32) (hsp : sp_t8_accept nf a1 v0_3 v0_10 v0_11 f0_0 = some (r0, w0_10)) : Met l yX8_accept (.code yX8_accept cX8_accept 2 (some .boolean) :: VS_h4) ({ frames := 1, cells := 0, slots := 0, locals := 20 }) (va_Pc [.ref h0, .int a1] (fun U => U.heap.size = sz ∧ va_P (dC, dI) vwCl [(h0, .inr (8, [.ref qf0, .ref qf1])), (qf0, .inr (9, [.ref qf0_0, .ref qf0_1, .ref qf0_2, .int v0_3, .ref qf0_4, .ref qf0_5, .ref qf0_6, .ref qf0_7, .ref qf0_8, .int v0_9, .int v0_10, .int v0_11, .int v0_12])), (qf0_0, .inl (cf0_0, 3001, .inl f0_0))] U.heap ∧ va_K (dC, dI) vwCl [(cf0_0, .int)] U ∧ va_D (fun _ => True) [(h0, .inr (8, [.ref qf0, .ref qf1])), (qf0, .inr (9, [.ref qf0_0, .ref qf0_1, .ref qf0_2, .int v0_3, .ref qf0_4, .ref qf0_5, .ref qf0_6, .ref qf0_7, .ref qf0_8, .int v0_9, .int v0_10, .int v0_11, .int v0_12])), (qf0_0, .inl (cf0_0, 3001, .inl f0_0))])) (va_Qi (fun (r : Int32) (u : Unit) => match u with | () => r0 = r ∧ (r0 = 0 ∨ r0 = 1)) (fun (u : Unit) (t : State) => match u with | () => va_P (dC, dI) vwCl [(h0, .inr (8, [.ref qf0, .ref qf1])), (qf0, .inr (9, [.ref qf0_0, .ref qf0_1, .ref qf0_2, .int v0_3, .ref qf0_4, .ref qf0_5, .ref qf0_6, .ref qf0_7, .ref qf0_8, .int v0_9, .int w0_10, .int v0_11, .int v0_12])), (qf0_0, .inl (cf0_0, 3001, .inl f0_0))] t.heap ∧ va_K (dC, dI) vwCl [(cf0_0, .int)] t ∧ va_D (va_A [(h0, .inr (8, [.ref qf0, .ref qf1])), (qf0, .inr (9, [.ref qf0_0, .ref qf0_1, .ref qf0_2, .int v0_3, .ref qf0_4, .ref qf0_5, .ref qf0_6, .ref qf0_7, .ref qf0_8, .int v0_9, .int v0_10, .int v0_11, .int v0_12])), (qf0_0, .inl (cf0_0, 3001, .inl f0_0))] sz) [(h0, .inr (8, [.ref qf0, .ref qf1])), (qf0, .inr (9, [.ref qf0_0, .ref qf0_1, .ref qf0_2, .int v0_3, .ref qf0_4, .ref qf0_5, .ref qf0_6, .ref qf0_7, .ref qf0_8, .int v0_9, .int w0_10, .int v0_11, .int v0_12])), (qf0_0, .inl (cf0_0, 3001, .inl f0_0))]) (va_A [(h0, .inr (8, [.ref qf0, .ref qf1])), (qf0, .inr (9, [.ref qf0_0, .ref qf0_1, .ref qf0_2, .int v0_3, .ref qf0_4, .ref qf0_5, .ref qf0_6, .ref qf0_7, .ref qf0_8, .int v0_9, .int v0_10, .int v0_11, .int v0_12])), (qf0_0, .inl (cf0_0, 3001, .inl f0_0))] sz)) 0 0 (va_A [(h0, .inr (8, [.ref qf0, .ref qf1])), (qf0, .inr (9, [.ref qf0_0, .ref qf0_1, .ref qf0_2, .int v0_3, .ref qf0_4, .ref qf0_5, .ref qf0_6, .ref qf0_7, .ref qf0_8, .int v0_9, .int v0_10, .int v0_11, .int v0_12])), (qf0_0, .inl (cf0_0, 3001, .inl f0_0))] sz) := by
  refine Met.ofW (cc := cX8_accept) (maxL := 2) (ret := (some .boolean)) (by decide) rfl ?_
  intro p e s m args below meth c s₁ B hml hv
  obtain ⟨rfl, hsz, hP, hK, hD0⟩ := hv
  have hx := B.exec
  have hb := B.bytes
  have hr := B.returns
  have hts := atoms_spec (ws := (.code yX8_accept cX8_accept 2 (some .boolean) :: VS_h4)) B.pre
  replace hts := fun w (h : w ∈ VS_h4) => hts w (List.mem_cons_of_mem _ h)
  have hown : s.vm.findClass RX8 = some m.cls := findClass_of_methodNamed B.named
  have hlocks := B.notSynchronized
  subst hsz
  have hD := hD0.self (sz := s.heap.size)
  generalize hAe : va_A [(h0, .inr (8, [.ref qf0, .ref qf1])), (qf0, .inr (9, [.ref qf0_0, .ref qf0_1, .ref qf0_2, .int v0_3, .ref qf0_4, .ref qf0_5, .ref qf0_6, .ref qf0_7, .ref qf0_8, .int v0_9, .int v0_10, .int v0_11, .int v0_12])), (qf0_0, .inl (cf0_0, 3001, .inl f0_0))] s.heap.size = A at hD  ⊢
  have hA : ∀ q : Nat, s.heap.size ≤ q → A q := fun q h => by rw [← hAe]; exact Or.inr h
  have hP : va_P (dC, dI) vwCl [(h0, .inr (8, [.ref qf0, .ref qf1])), (qf0, .inr (9, [.ref qf0_0, .ref qf0_1, .ref qf0_2, .int v0_3, .ref qf0_4, .ref qf0_5, .ref qf0_6, .ref qf0_7, .ref qf0_8, .int v0_9, .int v0_10, .int v0_11, .int v0_12])), (qf0_0, .inl (cf0_0, 3001, .inl f0_0))] s.heap := hP
  have hl := lv_entry ([.ref h0, .int a1]) (n := 2) (Nat.le_of_ble_eq_true rfl)
  rw [lg_entry_eq]
  generalize (lg_sl ([.ref h0, .int a1]) ++ List.replicate (2 - (lg_sl ([.ref h0, .int a1])).length) Slot.unset).toArray = ls at hl ⊢
  have hl : lv_has ls 2 [(0, .ref h0), (1, .int a1)] := hl
  obtain ⟨H, hH⟩ : ∃ H : Heap, s.heap = H := ⟨_, rfl⟩
  rw [hH] at hP ⊢
  have hS : va_S A s.heap H [] := by rw [← hH]; exact va_S.rf
  obtain ⟨locs, hlo⟩ : ∃ locs : List Loc, locs = [] := ⟨_, rfl⟩
  rw [← hlo] at hS ⊢
  unfold sp_t8_accept at hsp
  refine lv_aload_n hx hb dX8_accept_0 rfl (lv_at hl 0 rfl) ?_
  refine va_get (D := (dC, dI)) (ci := 8) (v := .ref qf0) (C := RX8) (T := TX8) (N := 2) hx hb hts uV_h4_X8 hown hK hP 0 rfl rfl 0 (by decide) (hts (.fieldLink RX8 7 "ClassMill$Syntax" "text" "LClassMill$Text;") mw_h4_465) (fun _ h9 => h9) rfl dX8_accept_1 ?_
  obtain ⟨u1_0, hu_1, hsp⟩ := ox_bind hsp
  try dsimp only at hsp
  have hPc := hP.sub (ws' := [(qf0, .inr (9, [.ref qf0_0, .ref qf0_1, .ref qf0_2, .int v0_3, .ref qf0_4, .ref qf0_5, .ref qf0_6, .ref qf0_7, .ref qf0_8, .int v0_9, .int v0_10, .int v0_11, .int v0_12])), (qf0_0, .inl (cf0_0, 3001, .inl f0_0))]) [1, 2] rfl
  have hDc := hD.sub (ws' := [(qf0, .inr (9, [.ref qf0_0, .ref qf0_1, .ref qf0_2, .int v0_3, .ref qf0_4, .ref qf0_5, .ref qf0_6, .ref qf0_7, .ref qf0_8, .int v0_9, .int v0_10, .int v0_11, .int v0_12])), (qf0_0, .inl (cf0_0, 3001, .inl f0_0))]) [1, 2] (by decide) rfl
  have hKc := hK.sub (tys' := [(cf0_0, .int)]) [0] rfl
  have hFc := va_free (wc := [(qf0, .inr (9, [.ref qf0_0, .ref qf0_1, .ref qf0_2, .int v0_3, .ref qf0_4, .ref qf0_5, .ref qf0_6, .ref qf0_7, .ref qf0_8, .int v0_9, .int v0_10, .int v0_11, .int v0_12])), (qf0_0, .inl (cf0_0, 3001, .inl f0_0))]) hD hS hA [1, 2] rfl
  refine va_calli (va_runV (As := []) (rest := []) ⟨hx, hb, hml, hown, hts⟩ (t9_kind l dC dI H.size qf0 qf0_0 qf0_1 qf0_2 v0_3 qf0_4 qf0_5 qf0_6 qf0_7 qf0_8 v0_9 v0_10 v0_11 v0_12 cf0_0 f0_0 nf u1_0 hu_1) (cwV 0 hts gv_h4_122 rfl rfl rfl (by decide +kernel) ⟨Nat.le_of_ble_eq_true rfl, Nat.le_of_ble_eq_true rfl⟩) ⟨fun a U g mk q => by obtain ⟨q0, q1, qP, qK, qD⟩ := q; exact ⟨q0, q1, qP, va_K.moved (u := U) (U := U.calling g mk a) (Vm.Alike.refl U.vm) qK, qD⟩, va_recv hKc hPc (ci := 9) (q0 := 0) rfl rfl, fun U hU hW => ⟨rfl, by rw [hU], by rw [hU]; exact hPc, va_K.moved hW.alike hKc, hDc.weaken (fun _ _ _ _ => trivial)⟩⟩ rfl rfl hl.1 rfl (lv_room (Nat.le_of_ble_eq_true rfl)) dX8_accept_4 ⟨Nat.le_of_ble_eq_true rfl, Nat.le_of_ble_eq_true rfl⟩) hS (fun q _ h => hFc q h) hFc ?_
  clear hS
  intro r_1 u t H1 locs ht hvm hw hB hz1 hk1 hS
  obtain ⟨⟩ := u
  obtain ⟨hP1, hK1, hD1⟩ := hB
  rw [ht] at hP1
  have hK1 := va_K.moved hvm.symm hK1
  try dsimp only at hw
  have hPD := va_join (wr := [(h0, .inr (8, [.ref qf0, .ref qf1]))]) (w1 := [(qf0, .inr (9, [.ref qf0_0, .ref qf0_1, .ref qf0_2, .int v0_3, .ref qf0_4, .ref qf0_5, .ref qf0_6, .ref qf0_7, .ref qf0_8, .int v0_9, .int v0_10, .int v0_11, .int v0_12])), (qf0_0, .inl (cf0_0, 3001, .inl f0_0))]) hP hD [1, 2] [0] rfl rfl (by decide) (by decide) hk1 hFc hP1 hD1
  clear hP hD
  obtain ⟨hP, hD⟩ := hPD
  replace hK := (hK.sub (tys' := []) [] rfl).app hK1
  clear hPc hDc hKc hFc hP1 hK1 hD1 hz1 hk1 ht hvm
  generalize H1 = H at hP hS ⊢
  replace hP : va_P (dC, dI) vwCl [(h0, .inr (8, [.ref qf0, .ref qf1])), (qf0, .inr (9, [.ref qf0_0, .ref qf0_1, .ref qf0_2, .int v0_3, .ref qf0_4, .ref qf0_5, .ref qf0_6, .ref qf0_7, .ref qf0_8, .int v0_9, .int v0_10, .int v0_11, .int v0_12])), (qf0_0, .inl (cf0_0, 3001, .inl f0_0))] H := hP
  replace hD : va_D A [(h0, .inr (8, [.ref qf0, .ref qf1])), (qf0, .inr (9, [.ref qf0_0, .ref qf0_1, .ref qf0_2, .int v0_3, .ref qf0_4, .ref qf0_5, .ref qf0_6, .ref qf0_7, .ref qf0_8, .int v0_9, .int v0_10, .int v0_11, .int v0_12])), (qf0_0, .inl (cf0_0, 3001, .inl f0_0))] := hD
  replace hK : va_K (dC, dI) vwCl [(cf0_0, .int)] s := hK
  obtain rfl := hw
  refine lv_iload_n hx hb dX8_accept_7 rfl (lv_at hl 1 rfl) ?_
  refine lv_icmp_eq (tgt := 13) hx hb dX8_accept_8 (by decide) (fun c_2 => ?_) (fun c_2 => ?_)
  · rw [if_pos c_2] at hsp
    refine lv_aload_n hx hb dX8_accept_13 rfl (lv_at hl 0 rfl) ?_
    refine va_get (D := (dC, dI)) (ci := 8) (v := .ref qf0) (C := RX8) (T := TX8) (N := 2) hx hb hts uV_h4_X8 hown hK hP 0 rfl rfl 0 (by decide) (hts (.fieldLink RX8 7 "ClassMill$Syntax" "text" "LClassMill$Text;") mw_h4_465) (fun _ h9 => h9) rfl dX8_accept_14 ?_
    refine lv_dup hx hb dX8_accept_17 rfl ?_
    refine va_get (D := (dC, dI)) (ci := 9) (v := .int v0_10) (C := RX9) (T := TX9) (N := 13) hx hb hts uV_h4_X9 hown hK hP 1 rfl rfl 10 (by decide) (hts (.fieldLink RX8 30 "ClassMill$Text" "pos" "I") mw_h4_466) (fun _ h9 => h9) rfl dX8_accept_18 ?_
    refine lv_iconst (v := 1) hx hb dX8_accept_21 (by decide) ?_
    refine lv_iadd hx hb dX8_accept_22 ?_
    refine va_put (D := (dC, dI)) (ci := 9) (v := .int (v0_10 + 1)) (ty := .int) (C := RX9) (T := TX9) (N := 13) hx hb hts uV_h4_X9 tyX9 tyX9_ok nmX9 hown hK hP hD hS 1 rfl rfl 10 (by decide) (hts (.fieldLink RX8 30 "ClassMill$Text" "pos" "I") mw_h4_466) (fun _ h9 => h9) rfl (by decide +kernel) rfl rfl (Nat.le_of_ble_eq_true rfl) dX8_accept_23 ?_
    clear hP hD hS
    intro H locs hP hD hS
    replace hP : va_P (dC, dI) vwCl [(h0, .inr (8, [.ref qf0, .ref qf1])), (qf0, .inr (9, [.ref qf0_0, .ref qf0_1, .ref qf0_2, .int v0_3, .ref qf0_4, .ref qf0_5, .ref qf0_6, .ref qf0_7, .ref qf0_8, .int v0_9, .int (v0_10 + 1), .int v0_11, .int v0_12])), (qf0_0, .inl (cf0_0, 3001, .inl f0_0))] H := hP
    replace hD : va_D A [(h0, .inr (8, [.ref qf0, .ref qf1])), (qf0, .inr (9, [.ref qf0_0, .ref qf0_1, .ref qf0_2, .int v0_3, .ref qf0_4, .ref qf0_5, .ref qf0_6, .ref qf0_7, .ref qf0_8, .int v0_9, .int (v0_10 + 1), .int v0_11, .int v0_12])), (qf0_0, .inl (cf0_0, 3001, .inl f0_0))] := hD
    refine lv_iconst (v := 1) hx hb dX8_accept_26 (by decide) ?_
    have hr0 := Option.some.inj hsp
    clear hsp
    obtain ⟨hq0, hr1⟩ := Prod.mk.inj hr0
    clear hr0
    subst hq0
    subst hr1
    have hP9 := hP.sub (ws' := [(h0, .inr (8, [.ref qf0, .ref qf1])), (qf0, .inr (9, [.ref qf0_0, .ref qf0_1, .ref qf0_2, .int v0_3, .ref qf0_4, .ref qf0_5, .ref qf0_6, .ref qf0_7, .ref qf0_8, .int v0_9, .int (v0_10 + 1), .int v0_11, .int v0_12])), (qf0_0, .inl (cf0_0, 3001, .inl f0_0))]) [0, 1, 2] rfl
    have hD9 := hD.sub (ws' := [(h0, .inr (8, [.ref qf0, .ref qf1])), (qf0, .inr (9, [.ref qf0_0, .ref qf0_1, .ref qf0_2, .int v0_3, .ref qf0_4, .ref qf0_5, .ref qf0_6, .ref qf0_7, .ref qf0_8, .int v0_9, .int (v0_10 + 1), .int v0_11, .int v0_12])), (qf0_0, .inl (cf0_0, 3001, .inl f0_0))]) [0, 1, 2] (by decide) rfl
    have hK9 := hK.sub (tys' := [(cf0_0, .int)]) [0] rfl
    exact W.zret hx hb hr (by decide) (fun t ht hW => ⟨⟨(1), (), rfl, ⟨rfl, Or.inr rfl⟩, by rw [ht]; exact hP9, va_K.moved hW.alike hK9, hD9⟩, hS.F ht⟩) hS.2.2 dX8_accept_27
  · rw [if_neg c_2] at hsp
    refine lv_iconst (v := 0) hx hb dX8_accept_11 (by decide) ?_
    have hr0 := Option.some.inj hsp
    clear hsp
    obtain ⟨hq0, hr1⟩ := Prod.mk.inj hr0
    clear hr0
    subst hq0
    subst hr1
    have hP9 := hP.sub (ws' := [(h0, .inr (8, [.ref qf0, .ref qf1])), (qf0, .inr (9, [.ref qf0_0, .ref qf0_1, .ref qf0_2, .int v0_3, .ref qf0_4, .ref qf0_5, .ref qf0_6, .ref qf0_7, .ref qf0_8, .int v0_9, .int v0_10, .int v0_11, .int v0_12])), (qf0_0, .inl (cf0_0, 3001, .inl f0_0))]) [0, 1, 2] rfl
    have hD9 := hD.sub (ws' := [(h0, .inr (8, [.ref qf0, .ref qf1])), (qf0, .inr (9, [.ref qf0_0, .ref qf0_1, .ref qf0_2, .int v0_3, .ref qf0_4, .ref qf0_5, .ref qf0_6, .ref qf0_7, .ref qf0_8, .int v0_9, .int v0_10, .int v0_11, .int v0_12])), (qf0_0, .inl (cf0_0, 3001, .inl f0_0))]) [0, 1, 2] (by decide) rfl
    have hK9 := hK.sub (tys' := [(cf0_0, .int)]) [0] rfl
    exact W.zret hx hb hr (by decide) (fun t ht hW => ⟨⟨(0), (), rfl, ⟨rfl, Or.inl rfl⟩, by rw [ht]; exact hP9, va_K.moved hW.alike hK9, hD9⟩, hS.F ht⟩) hS.2.2 dX8_accept_12
def sp_t8_tooDeep (nf : Nat) (a1 : Int32) (v0_3 : Int32) (v0_10 : Int32) (v0_11 : Int32) (v0_12 : Int32) (f0_0 : Nat → Int32) (f0_1 : Nat → Int32) : Option (Int32 × Int32 × Int32) := (if a1 < 40 then (if v0_11 = 0 then (some (0, v0_11, v0_12)) else (some (1, v0_11, v0_12))) else ((sp_t9_tellHere nf 3 v0_3 v0_10 v0_11 v0_12 f0_0 f0_1).bind (fun p1 => (if p1.1 = 0 then (some (0, p1.1, p1.2)) else (some (1, p1.1, p1.2))))))
set_option maxHeartbeats 4000000 in
set_option maxRecDepth 100000 in
/-- ClassMill$Syntax.tooDeep -/
theorem t8_tooDeep (l : Launch) (dC : Nat → ClassId) (dI : Nat → Nat → Nat) (sz : Nat) (h0 : Nat) (a1 : Int32) (qf0 : Nat) (qf1 : Nat) (qf0_0 : Nat) (qf0_1 : Nat) (qf0_2 : Nat) (v0_3 : Int32) (qf0_4 : Nat) (qf0_5 : Nat) (qf0_6 : Nat) (qf0_7 : Nat) (qf0_8 : Nat) (v0_9 : Int32) (v0_10 : Int32) (v0_11 : Int32) (v0_12 : Int32) (cf0_0 : ClassId) (f0_0 : (Nat → Int32)) (cf0_1 : ClassId) (f0_1 : (Nat → Int32)) (nf : Nat) (r0 : Int32) (w0_11 : Int32) (w0_12 : Int32) (hsp : sp_t8_tooDeep nf a1 v0_3 v0_10 v0_11 v0_12 f0_0 f0_1 = some (r0, w0_11, w0_12)) : Met l yX8_tooDeep (.code yX8_tooDeep cX8_tooDeep 2 (some .boolean) :: VS_h4) ({ frames := 1, cells := 0, slots := 0, locals := 21 }) (va_Pc [.ref h0, .int a1] (fun U => U.heap.size = sz ∧ va_P (dC, dI) vwCl [(h0, .inr (8, [.ref qf0, .ref qf1])), (qf0, .inr (9, [.ref qf0_0, .ref qf0_1, .ref qf0_2, .int v0_3, .ref qf0_4, .ref qf0_5, .ref qf0_6, .ref qf0_7, .ref qf0_8, .int v0_9, .int v0_10, .int v0_11, .int v0_12])), (qf0_0, .inl (cf0_0, 3001, .inl f0_0)), (qf0_1, .inl (cf0_1, 3001, .inl f0_1))] U.heap ∧ va_K (dC, dI) vwCl [(cf0_0, .int), (cf0_1, .int)] U ∧ va_D (fun _ => True) [(h0, .inr (8, [.ref qf0, .ref qf1])), (qf0, .inr (9, [.ref qf0_0, .ref qf0_1, .ref qf0_2, .int v0_3, .ref qf0_4, .ref qf0_5, .ref qf0_6, .ref qf0_7, .ref qf0_8, .int v0_9, .int v0_10, .int v0_11, .int v0_12])), (qf0_0, .inl (cf0_0, 3001, .inl f0_0)), (qf0_1, .inl (cf0_1, 3001, .inl f0_1))])) (va_Qi (fun (r : Int32) (u : Unit) => match u with | () => r0 = r ∧ (r0 = 0 ∨ r0 = 1)) (fun (u : Unit) (t : State) => match u with | () => va_P (dC, dI) vwCl [(h0, .inr (8, [.ref qf0, .ref qf1])), (qf0, .inr (9, [.ref qf0_0, .ref qf0_1, .ref qf0_2, .int v0_3, .ref qf0_4, .ref qf0_5, .ref qf0_6, .ref qf0_7, .ref qf0_8, .int v0_9, .int v0_10, .int w0_11, .int w0_12])), (qf0_0, .inl (cf0_0, 3001, .inl f0_0)), (qf0_1, .inl (cf0_1, 3001, .inl f0_1))] t.heap ∧ va_K (dC, dI) vwCl [(cf0_0, .int), (cf0_1, .int)] t ∧ va_D (va_A [(h0, .inr (8, [.ref qf0, .ref qf1])), (qf0, .inr (9, [.ref qf0_0, .ref qf0_1, .ref qf0_2, .int v0_3, .ref qf0_4, .ref qf0_5, .ref qf0_6, .ref qf0_7, .ref qf0_8, .int v0_9, .int v0_10, .int v0_11, .int v0_12])), (qf0_0, .inl (cf0_0, 3001, .inl f0_0)), (qf0_1, .inl (cf0_1, 3001, .inl f0_1))] sz) [(h0, .inr (8, [.ref qf0, .ref qf1])), (qf0, .inr (9, [.ref qf0_0, .ref qf0_1, .ref qf0_2, .int v0_3, .ref qf0_4, .ref qf0_5, .ref qf0_6, .ref qf0_7, .ref qf0_8, .int v0_9, .int v0_10, .int w0_11, .int w0_12])), (qf0_0, .inl (cf0_0, 3001, .inl f0_0)), (qf0_1, .inl (cf0_1, 3001, .inl f0_1))]) (va_A [(h0, .inr (8, [.ref qf0, .ref qf1])), (qf0, .inr (9, [.ref qf0_0, .ref qf0_1, .ref qf0_2, .int v0_3, .ref qf0_4, .ref qf0_5, .ref qf0_6, .ref qf0_7, .ref qf0_8, .int v0_9, .int v0_10, .int v0_11, .int v0_12])), (qf0_0, .inl (cf0_0, 3001, .inl f0_0)), (qf0_1, .inl (cf0_1, 3001, .inl f0_1))] sz)) 0 0 (va_A [(h0, .inr (8, [.ref qf0, .ref qf1])), (qf0, .inr (9, [.ref qf0_0, .ref qf0_1, .ref qf0_2, .int v0_3, .ref qf0_4, .ref qf0_5, .ref qf0_6, .ref qf0_7, .ref qf0_8, .int v0_9, .int v0_10, .int v0_11, .int v0_12])), (qf0_0, .inl (cf0_0, 3001, .inl f0_0)), (qf0_1, .inl (cf0_1, 3001, .inl f0_1))] sz) := by
  refine Met.ofW (cc := cX8_tooDeep) (maxL := 2) (ret := (some .boolean)) (by decide) rfl ?_
  intro p e s m args below meth c s₁ B hml hv
  obtain ⟨rfl, hsz, hP, hK, hD0⟩ := hv
  have hx := B.exec
  have hb := B.bytes
  have hr := B.returns
  have hts := atoms_spec (ws := (.code yX8_tooDeep cX8_tooDeep 2 (some .boolean) :: VS_h4)) B.pre
  replace hts := fun w (h : w ∈ VS_h4) => hts w (List.mem_cons_of_mem _ h)
  have hown : s.vm.findClass RX8 = some m.cls := findClass_of_methodNamed B.named
  have hlocks := B.notSynchronized
  subst hsz
  have hD := hD0.self (sz := s.heap.size)
  generalize hAe : va_A [(h0, .inr (8, [.ref qf0, .ref qf1])), (qf0, .inr (9, [.ref qf0_0, .ref qf0_1, .ref qf0_2, .int v0_3, .ref qf0_4, .ref qf0_5, .ref qf0_6, .ref qf0_7, .ref qf0_8, .int v0_9, .int v0_10, .int v0_11, .int v0_12])), (qf0_0, .inl (cf0_0, 3001, .inl f0_0)), (qf0_1, .inl (cf0_1, 3001, .inl f0_1))] s.heap.size = A at hD  ⊢
  have hA : ∀ q : Nat, s.heap.size ≤ q → A q := fun q h => by rw [← hAe]; exact Or.inr h
  have hP : va_P (dC, dI) vwCl [(h0, .inr (8, [.ref qf0, .ref qf1])), (qf0, .inr (9, [.ref qf0_0, .ref qf0_1, .ref qf0_2, .int v0_3, .ref qf0_4, .ref qf0_5, .ref qf0_6, .ref qf0_7, .ref qf0_8, .int v0_9, .int v0_10, .int v0_11, .int v0_12])), (qf0_0, .inl (cf0_0, 3001, .inl f0_0)), (qf0_1, .inl (cf0_1, 3001, .inl f0_1))] s.heap := hP
  have hl := lv_entry ([.ref h0, .int a1]) (n := 2) (Nat.le_of_ble_eq_true rfl)
  rw [lg_entry_eq]
  generalize (lg_sl ([.ref h0, .int a1]) ++ List.replicate (2 - (lg_sl ([.ref h0, .int a1])).length) Slot.unset).toArray = ls at hl ⊢
  have hl : lv_has ls 2 [(0, .ref h0), (1, .int a1)] := hl
  obtain ⟨H, hH⟩ : ∃ H : Heap, s.heap = H := ⟨_, rfl⟩
  rw [hH] at hP ⊢
  have hS : va_S A s.heap H [] := by rw [← hH]; exact va_S.rf
  obtain ⟨locs, hlo⟩ : ∃ locs : List Loc, locs = [] := ⟨_, rfl⟩
  rw [← hlo] at hS ⊢
  unfold sp_t8_tooDeep at hsp
  refine lv_iload_n hx hb dX8_tooDeep_0 rfl (lv_at hl 1 rfl) ?_
  refine lv_bipush (v := 40) hx hb dX8_tooDeep_1 (by decide) ?_
  refine lv_icmp_lt (tgt := 14) hx hb dX8_tooDeep_3 (by decide) (fun c_1 => ?_) (fun c_1 => ?_)
  · rw [if_pos c_1] at hsp
    refine lv_aload_n hx hb dX8_tooDeep_14 rfl (lv_at hl 0 rfl) ?_
    refine va_get (D := (dC, dI)) (ci := 8) (v := .ref qf0) (C := RX8) (T := TX8) (N := 2) hx hb hts uV_h4_X8 hown hK hP 0 rfl rfl 0 (by decide) (hts (.fieldLink RX8 7 "ClassMill$Syntax" "text" "LClassMill$Text;") mw_h4_465) (fun _ h9 => h9) rfl dX8_tooDeep_15 ?_
    refine va_get (D := (dC, dI)) (ci := 9) (v := .int v0_11) (C := RX9) (T := TX9) (N := 13) hx hb hts uV_h4_X9 hown hK hP 1 rfl rfl 11 (by decide) (hts (.fieldLink RX8 19 "ClassMill$Text" "fault" "I") mw_h4_467) (fun _ h9 => h9) rfl dX8_tooDeep_18 ?_
    refine lv_if_eq (tgt := 28) hx hb dX8_tooDeep_21 (by decide) (fun c_2 => ?_) (fun c_2 => ?_)
    · rw [if_pos c_2] at hsp
      refine lv_iconst (v := 0) hx hb dX8_tooDeep_28 (by decide) ?_
      have hr0 := Option.some.inj hsp
      clear hsp
      obtain ⟨hq0, hr1⟩ := Prod.mk.inj hr0
      clear hr0
      obtain ⟨hq1, hr2⟩ := Prod.mk.inj hr1
      clear hr1
      subst hq0
      subst hq1
      subst hr2
      have hP9 := hP.sub (ws' := [(h0, .inr (8, [.ref qf0, .ref qf1])), (qf0, .inr (9, [.ref qf0_0, .ref qf0_1, .ref qf0_2, .int v0_3, .ref qf0_4, .ref qf0_5, .ref qf0_6, .ref qf0_7, .ref qf0_8, .int v0_9, .int v0_10, .int v0_11, .int v0_12])), (qf0_0, .inl (cf0_0, 3001, .inl f0_0)), (qf0_1, .inl (cf0_1, 3001, .inl f0_1))]) [0, 1, 2, 3] rfl
      have hD9 := hD.sub (ws' := [(h0, .inr (8, [.ref qf0, .ref qf1])), (qf0, .inr (9, [.ref qf0_0, .ref qf0_1, .ref qf0_2, .int v0_3, .ref qf0_4, .ref qf0_5, .ref qf0_6, .ref qf0_7, .ref qf0_8, .int v0_9, .int v0_10, .int v0_11, .int v0_12])), (qf0_0, .inl (cf0_0, 3001, .inl f0_0)), (qf0_1, .inl (cf0_1, 3001, .inl f0_1))]) [0, 1, 2, 3] (by decide) rfl
      have hK9 := hK.sub (tys' := [(cf0_0, .int), (cf0_1, .int)]) [0, 1] rfl
      exact W.zret hx hb hr (by decide) (fun t ht hW => ⟨⟨(0), (), rfl, ⟨rfl, Or.inl rfl⟩, by rw [ht]; exact hP9, va_K.moved hW.alike hK9, hD9⟩, hS.F ht⟩) hS.2.2 dX8_tooDeep_29
    · rw [if_neg c_2] at hsp
      refine lv_iconst (v := 1) hx hb dX8_tooDeep_24 (by decide) ?_
      refine lv_goto (tgt := 29) hx hb dX8_tooDeep_25 (by decide) ?_
      have hr0 := Option.some.inj hsp
      clear hsp
      obtain ⟨hq0, hr1⟩ := Prod.mk.inj hr0
      clear hr0
      obtain ⟨hq1, hr2⟩ := Prod.mk.inj hr1
      clear hr1
      subst hq0
      subst hq1
      subst hr2
      have hP9 := hP.sub (ws' := [(h0, .inr (8, [.ref qf0, .ref qf1])), (qf0, .inr (9, [.ref qf0_0, .ref qf0_1, .ref qf0_2, .int v0_3, .ref qf0_4, .ref qf0_5, .ref qf0_6, .ref qf0_7, .ref qf0_8, .int v0_9, .int v0_10, .int v0_11, .int v0_12])), (qf0_0, .inl (cf0_0, 3001, .inl f0_0)), (qf0_1, .inl (cf0_1, 3001, .inl f0_1))]) [0, 1, 2, 3] rfl
      have hD9 := hD.sub (ws' := [(h0, .inr (8, [.ref qf0, .ref qf1])), (qf0, .inr (9, [.ref qf0_0, .ref qf0_1, .ref qf0_2, .int v0_3, .ref qf0_4, .ref qf0_5, .ref qf0_6, .ref qf0_7, .ref qf0_8, .int v0_9, .int v0_10, .int v0_11, .int v0_12])), (qf0_0, .inl (cf0_0, 3001, .inl f0_0)), (qf0_1, .inl (cf0_1, 3001, .inl f0_1))]) [0, 1, 2, 3] (by decide) rfl
      have hK9 := hK.sub (tys' := [(cf0_0, .int), (cf0_1, .int)]) [0, 1] rfl
      exact W.zret hx hb hr (by decide) (fun t ht hW => ⟨⟨(1), (), rfl, ⟨rfl, Or.inr rfl⟩, by rw [ht]; exact hP9, va_K.moved hW.alike hK9, hD9⟩, hS.F ht⟩) hS.2.2 dX8_tooDeep_29
  · rw [if_neg c_1] at hsp
    refine lv_aload_n hx hb dX8_tooDeep_6 rfl (lv_at hl 0 rfl) ?_
    refine va_get (D := (dC, dI)) (ci := 8) (v := .ref qf0) (C := RX8) (T := TX8) (N := 2) hx hb hts uV_h4_X8 hown hK hP 0 rfl rfl 0 (by decide) (hts (.fieldLink RX8 7 "ClassMill$Syntax" "text" "LClassMill$Text;") mw_h4_465) (fun _ h9 => h9) rfl dX8_tooDeep_7 ?_
    refine lv_iconst (v := 3) hx hb dX8_tooDeep_10 (by decide) ?_
    obtain ⟨⟨u1_0, u1_1⟩, hu_1, hsp⟩ := ox_bind hsp
    try dsimp only at hsp
    have hPc := hP.sub (ws' := [(qf0, .inr (9, [.ref qf0_0, .ref qf0_1, .ref qf0_2, .int v0_3, .ref qf0_4, .ref qf0_5, .ref qf0_6, .ref qf0_7, .ref qf0_8, .int v0_9, .int v0_10, .int v0_11, .int v0_12])), (qf0_0, .inl (cf0_0, 3001, .inl f0_0)), (qf0_1, .inl (cf0_1, 3001, .inl f0_1))]) [1, 2, 3] rfl
    have hDc := hD.sub (ws' := [(qf0, .inr (9, [.ref qf0_0, .ref qf0_1, .ref qf0_2, .int v0_3, .ref qf0_4, .ref qf0_5, .ref qf0_6, .ref qf0_7, .ref qf0_8, .int v0_9, .int v0_10, .int v0_11, .int v0_12])), (qf0_0, .inl (cf0_0, 3001, .inl f0_0)), (qf0_1, .inl (cf0_1, 3001, .inl f0_1))]) [1, 2, 3] (by decide) rfl
    have hKc := hK.sub (tys' := [(cf0_0, .int), (cf0_1, .int)]) [0, 1] rfl
    have hFc := va_free (wc := [(qf0, .inr (9, [.ref qf0_0, .ref qf0_1, .ref qf0_2, .int v0_3, .ref qf0_4, .ref qf0_5, .ref qf0_6, .ref qf0_7, .ref qf0_8, .int v0_9, .int v0_10, .int v0_11, .int v0_12])), (qf0_0, .inl (cf0_0, 3001, .inl f0_0)), (qf0_1, .inl (cf0_1, 3001, .inl f0_1))]) hD hS hA [1, 2, 3] rfl
    refine va_callv (va_runV (As := [.int 3]) (rest := []) ⟨hx, hb, hml, hown, hts⟩ (t9_tellHere l dC dI H.size qf0 3 qf0_0 qf0_1 qf0_2 v0_3 qf0_4 qf0_5 qf0_6 qf0_7 qf0_8 v0_9 v0_10 v0_11 v0_12 cf0_0 f0_0 cf0_1 f0_1 nf u1_0 u1_1 hu_1) (cwV 1 hts gv_h4_123 rfl rfl rfl (by decide +kernel) ⟨Nat.le_of_ble_eq_true rfl, Nat.le_of_ble_eq_true rfl⟩) ⟨fun a U g mk q => by obtain ⟨q0, q1, qP, qK, qD⟩ := q; exact ⟨q0, q1, qP, va_K.moved (u := U) (U := U.calling g mk a) (Vm.Alike.refl U.vm) qK, qD⟩, va_recv hKc hPc (ci := 9) (q0 := 0) rfl rfl, fun U hU hW => ⟨rfl, by rw [hU], by rw [hU]; exact hPc, va_K.moved hW.alike hKc, hDc.weaken (fun _ _ _ _ => trivial)⟩⟩ rfl rfl hl.1 rfl (lv_room (Nat.le_of_ble_eq_true rfl)) dX8_tooDeep_11 ⟨Nat.le_of_ble_eq_true rfl, Nat.le_of_ble_eq_true rfl⟩) hS (fun q _ h => hFc q h) hFc ?_
    clear hS
    intro u t H1 locs ht hvm hw hB hz1 hk1 hS
    obtain ⟨⟩ := u
    obtain ⟨hP1, hK1, hD1⟩ := hB
    rw [ht] at hP1
    have hK1 := va_K.moved hvm.symm hK1
    try dsimp only at hw
    have hPD := va_join (wr := [(h0, .inr (8, [.ref qf0, .ref qf1]))]) (w1 := [(qf0, .inr (9, [.ref qf0_0, .ref qf0_1, .ref qf0_2, .int v0_3, .ref qf0_4, .ref qf0_5, .ref qf0_6, .ref qf0_7, .ref qf0_8, .int v0_9, .int v0_10, .int u1_0, .int u1_1])), (qf0_0, .inl (cf0_0, 3001, .inl f0_0)), (qf0_1, .inl (cf0_1, 3001, .inl f0_1))]) hP hD [1, 2, 3] [0] rfl rfl (by decide) (by decide) hk1 hFc hP1 hD1
    clear hP hD
    obtain ⟨hP, hD⟩ := hPD
    replace hK := (hK.sub (tys' := []) [] rfl).app hK1
    clear hPc hDc hKc hFc hP1 hK1 hD1 hz1 hk1 ht hvm
    generalize H1 = H at hP hS ⊢
    replace hP : va_P (dC, dI) vwCl [(h0, .inr (8, [.ref qf0, .ref qf1])), (qf0, .inr (9, [.ref qf0_0, .ref qf0_1, .ref qf0_2, .int v0_3, .ref qf0_4, .ref qf0_5, .ref qf0_6, .ref qf0_7, .ref qf0_8, .int v0_9, .int v0_10, .int u1_0, .int u1_1])), (qf0_0, .inl (cf0_0, 3001, .inl f0_0)), (qf0_1, .inl (cf0_1, 3001, .inl f0_1))] H := hP
    replace hD : va_D A [(h0, .inr (8, [.ref qf0, .ref qf1])), (qf0, .inr (9, [.ref qf0_0, .ref qf0_1, .ref qf0_2, .int v0_3, .ref qf0_4, .ref qf0_5, .ref qf0_6, .ref qf0_7, .ref qf0_8, .int v0_9, .int v0_10, .int u1_0, .int u1_1])), (qf0_0, .inl (cf0_0, 3001, .inl f0_0)), (qf0_1, .inl (cf0_1, 3001, .inl f0_1))] := hD
    replace hK : va_K (dC, dI) vwCl [(cf0_0, .int), (cf0_1, .int)] s := hK
    refine lv_aload_n hx hb dX8_tooDeep_14 rfl (lv_at hl 0 rfl) ?_
    refine va_get (D := (dC, dI)) (ci := 8) (v := .ref qf0) (C := RX8) (T := TX8) (N := 2) hx hb hts uV_h4_X8 hown hK hP 0 rfl rfl 0 (by decide) (hts (.fieldLink RX8 7 "ClassMill$Syntax" "text" "LClassMill$Text;") mw_h4_465) (fun _ h9 => h9) rfl dX8_tooDeep_15 ?_
    refine va_get (D := (dC, dI)) (ci := 9) (v := .int u1_0) (C := RX9) (T := TX9) (N := 13) hx hb hts uV_h4_X9 hown hK hP 1 rfl rfl 11 (by decide) (hts (.fieldLink RX8 19 "ClassMill$Text" "fault" "I") mw_h4_467) (fun _ h9 => h9) rfl dX8_tooDeep_18 ?_
    refine lv_if_eq (tgt := 28) hx hb dX8_tooDeep_21 (by decide) (fun c_3 => ?_) (fun c_3 => ?_)
    · rw [if_pos c_3] at hsp
      refine lv_iconst (v := 0) hx hb dX8_tooDeep_28 (by decide) ?_
      have hr0 := Option.some.inj hsp
      clear hsp
      obtain ⟨hq0, hr1⟩ := Prod.mk.inj hr0
      clear hr0
      obtain ⟨hq1, hr2⟩ := Prod.mk.inj hr1
      clear hr1
      subst hq0
      subst hq1
      subst hr2
      have hP9 := hP.sub (ws' := [(h0, .inr (8, [.ref qf0, .ref qf1])), (qf0, .inr (9, [.ref qf0_0, .ref qf0_1, .ref qf0_2, .int v0_3, .ref qf0_4, .ref qf0_5, .ref qf0_6, .ref qf0_7, .ref qf0_8, .int v0_9, .int v0_10, .int u1_0, .int u1_1])), (qf0_0, .inl (cf0_0, 3001, .inl f0_0)), (qf0_1, .inl (cf0_1, 3001, .inl f0_1))]) [0, 1, 2, 3] rfl
      have hD9 := hD.sub (ws' := [(h0, .inr (8, [.ref qf0, .ref qf1])), (qf0, .inr (9, [.ref qf0_0, .ref qf0_1, .ref qf0_2, .int v0_3, .ref qf0_4, .ref qf0_5, .ref qf0_6, .ref qf0_7, .ref qf0_8, .int v0_9, .int v0_10, .int u1_0, .int u1_1])), (qf0_0, .inl (cf0_0, 3001, .inl f0_0)), (qf0_1, .inl (cf0_1, 3001, .inl f0_1))]) [0, 1, 2, 3] (by decide) rfl
      have hK9 := hK.sub (tys' := [(cf0_0, .int), (cf0_1, .int)]) [0, 1] rfl
      exact W.zret hx hb hr (by decide) (fun t ht hW => ⟨⟨(0), (), rfl, ⟨rfl, Or.inl rfl⟩, by rw [ht]; exact hP9, va_K.moved hW.alike hK9, hD9⟩, hS.F ht⟩) hS.2.2 dX8_tooDeep_29
    · rw [if_neg c_3] at hsp
      refine lv_iconst (v := 1) hx hb dX8_tooDeep_24 (by decide) ?_
      refine lv_goto (tgt := 29) hx hb dX8_tooDeep_25 (by decide) ?_
      have hr0 := Option.some.inj hsp
      clear hsp
      obtain ⟨hq0, hr1⟩ := Prod.mk.inj hr0
      clear hr0
      obtain ⟨hq1, hr2⟩ := Prod.mk.inj hr1
      clear hr1
      subst hq0
      subst hq1
      subst hr2
      have hP9 := hP.sub (ws' := [(h0, .inr (8, [.ref qf0, .ref qf1])), (qf0, .inr (9, [.ref qf0_0, .ref qf0_1, .ref qf0_2, .int v0_3, .ref qf0_4, .ref qf0_5, .ref qf0_6, .ref qf0_7, .ref qf0_8, .int v0_9, .int v0_10, .int u1_0, .int u1_1])), (qf0_0, .inl (cf0_0, 3001, .inl f0_0)), (qf0_1, .inl (cf0_1, 3001, .inl f0_1))]) [0, 1, 2, 3] rfl
      have hD9 := hD.sub (ws' := [(h0, .inr (8, [.ref qf0, .ref qf1])), (qf0, .inr (9, [.ref qf0_0, .ref qf0_1, .ref qf0_2, .int v0_3, .ref qf0_4, .ref qf0_5, .ref qf0_6, .ref qf0_7, .ref qf0_8, .int v0_9, .int v0_10, .int u1_0, .int u1_1])), (qf0_0, .inl (cf0_0, 3001, .inl f0_0)), (qf0_1, .inl (cf0_1, 3001, .inl f0_1))]) [0, 1, 2, 3] (by decide) rfl
      have hK9 := hK.sub (tys' := [(cf0_0, .int), (cf0_1, .int)]) [0, 1] rfl
      exact W.zret hx hb hr (by decide) (fun t ht hW => ⟨⟨(1), (), rfl, ⟨rfl, Or.inr rfl⟩, by rw [ht]; exact hP9, va_K.moved hW.alike hK9, hD9⟩, hS.F ht⟩) hS.2.2 dX8_tooDeep_29
def sp_t8_readType (nf : Nat) (v0_3 : Int32) (v0_10 : Int32) (v0_11 : Int32) (v0_12 : Int32) (f0_0 : Nat → Int32) (f0_1 : Nat → Int32) : Option (Int32 × Int32 × Int32) := ((sp_t8_accept nf 10 v0_3 v0_10 v0_11 f0_0).bind (fun p1 => (if p1.1 = 0 then ((sp_t8_accept nf 20 v0_3 p1.2 v0_11 f0_0).bind (fun p2 => (if p2.1 = 0 then ((sp_t8_need nf 2 v0_3 p2.2 v0_11 v0_12 f0_0 f0_1).bind (fun p3 => ((sp_t8_accept nf 44 v0_3 p3.1 p3.2.1 f0_0).bind (fun p4 => (if p4.1 = 0 then (some (p4.2, p3.2.1, p3.2.2)) else ((sp_t8_need nf 45 v0_3 p4.2 p3.2.1 p3.2.2 f0_0 f0_1).bind (fun p5 => (some (p5.1, p5.2.1, p5.2.2))))))))) else ((sp_t8_accept nf 44 v0_3 p2.2 v0_11 f0_0).bind (fun p6 => (if p6.1 = 0 then (some (p6.2, v0_11, v0_12)) else ((sp_t8_need nf 45 v0_3 p6.2 v0_11 v0_12 f0_0 f0_1).bind (fun p7 => (some (p7.1, p7.2.1, p7.2.2)))))))))) else (some (p1.2, v0_11, v0_12)))))
set_option maxHeartbeats 4000000 in
set_option maxRecDepth 100000 in
/-- ClassMill$Syntax.readType -/
theorem t8_readType (l : Launch) (dC : Nat → ClassId) (dI : Nat → Nat → Nat) (sz : Nat) (h0 : Nat) (qf0 : Nat) (qf1 : Nat) (qf0_0 : Nat) (qf0_1 : Nat) (qf0_2 : Nat) (v0_3 : Int32) (qf0_4 : Nat) (qf0_5 : Nat) (qf0_6 : Nat) (qf0_7 : Nat) (qf0_8 : Nat) (v0_9 : Int32) (v0_10 : Int32) (v0_11 : Int32) (v0_12 : Int32) (cf0_0 : ClassId) (f0_0 : (Nat → Int32)) (cf0_1 : ClassId) (f0_1 : (Nat → Int32)) (nf : Nat) (w0_10 : Int32) (w0_11 : Int32) (w0_12 : Int32) (hsp : sp_t8_readType nf v0_3 v0_10 v0_11 v0_12 f0_0 f0_1 = some (w0_10, w0_11, w0_12)) : Met l yX8_readType (.code yX8_readType cX8_readType 1 none :: VS_h4) ({ frames := 2, cells := 0, slots := 0, locals := 42 }) (va_Pc [.ref h0] (fun U => U.heap.size = sz ∧ va_P (dC, dI) vwCl [(h0, .inr (8, [.ref qf0, .ref qf1])), (qf0, .inr (9, [.ref qf0_0, .ref qf0_1, .ref qf0_2, .int v0_3, .ref qf0_4, .ref qf0_5, .ref qf0_6, .ref qf0_7, .ref qf0_8, .int v0_9, .int v0_10, .int v0_11, .int v0_12])), (qf0_0, .inl (cf0_0, 3001, .inl f0_0)), (qf0_1, .inl (cf0_1, 3001, .inl f0_1))] U.heap ∧ va_K (dC, dI) vwCl [(cf0_0, .int), (cf0_1, .int)] U ∧ va_D (fun _ => True) [(h0, .inr (8, [.ref qf0, .ref qf1])), (qf0, .inr (9, [.ref qf0_0, .ref qf0_1, .ref qf0_2, .int v0_3, .ref qf0_4, .ref qf0_5, .ref qf0_6, .ref qf0_7, .ref qf0_8, .int v0_9, .int v0_10, .int v0_11, .int v0_12])), (qf0_0, .inl (cf0_0, 3001, .inl f0_0)), (qf0_1, .inl (cf0_1, 3001, .inl f0_1))])) (va_Qv (fun (u : Unit) => match u with | () => True) (fun (u : Unit) (t : State) => match u with | () => va_P (dC, dI) vwCl [(h0, .inr (8, [.ref qf0, .ref qf1])), (qf0, .inr (9, [.ref qf0_0, .ref qf0_1, .ref qf0_2, .int v0_3, .ref qf0_4, .ref qf0_5, .ref qf0_6, .ref qf0_7, .ref qf0_8, .int v0_9, .int w0_10, .int w0_11, .int w0_12])), (qf0_0, .inl (cf0_0, 3001, .inl f0_0)), (qf0_1, .inl (cf0_1, 3001, .inl f0_1))] t.heap ∧ va_K (dC, dI) vwCl [(cf0_0, .int), (cf0_1, .int)] t ∧ va_D (va_A [(h0, .inr (8, [.ref qf0, .ref qf1])), (qf0, .inr (9, [.ref qf0_0, .ref qf0_1, .ref qf0_2, .int v0_3, .ref qf0_4, .ref qf0_5, .ref qf0_6, .ref qf0_7, .ref qf0_8, .int v0_9, .int v0_10, .int v0_11, .int v0_12])), (qf0_0, .inl (cf0_0, 3001, .inl f0_0)), (qf0_1, .inl (cf0_1, 3001, .inl f0_1))] sz) [(h0, .inr (8, [.ref qf0, .ref qf1])), (qf0, .inr (9, [.ref qf0_0, .ref qf0_1, .ref qf0_2, .int v0_3, .ref qf0_4, .ref qf0_5, .ref qf0_6, .ref qf0_7, .ref qf0_8, .int v0_9, .int w0_10, .int w0_11, .int w0_12])), (qf0_0, .inl (cf0_0, 3001, .inl f0_0)), (qf0_1, .inl (cf0_1, 3001, .inl f0_1))]) (va_A [(h0, .inr (8, [.ref qf0, .ref qf1])), (qf0, .inr (9, [.ref qf0_0, .ref qf0_1, .ref qf0_2, .int v0_3, .ref qf0_4, .ref qf0_5, .ref qf0_6, .ref qf0_7, .ref qf0_8, .int v0_9, .int v0_10, .int v0_11, .int v0_12])), (qf0_0, .inl (cf0_0, 3001, .inl f0_0)), (qf0_1, .inl (cf0_1, 3001, .inl f0_1))] sz)) 0 0 (va_A [(h0, .inr (8, [.ref qf0, .ref qf1])), (qf0, .inr (9, [.ref qf0_0, .ref qf0_1, .ref qf0_2, .int v0_3, .ref qf0_4, .ref qf0_5, .ref qf0_6, .ref qf0_7, .ref qf0_8, .int v0_9, .int v0_10, .int v0_11, .int v0_12])), (qf0_0, .inl (cf0_0, 3001, .inl f0_0)), (qf0_1, .inl (cf0_1, 3001, .inl f0_1))] sz) := by
  refine Met.ofW (cc := cX8_readType) (maxL := 1) (ret := none) (by decide) rfl ?_
  intro p e s m args below meth c s₁ B hml hv
  obtain ⟨rfl, hsz, hP, hK, hD0⟩ := hv
  have hx := B.exec
  have hb := B.bytes
  have hr := B.returns
  have hts := atoms_spec (ws := (.code yX8_readType cX8_readType 1 none :: VS_h4)) B.pre
  replace hts := fun w (h : w ∈ VS_h4) => hts w (List.mem_cons_of_mem _ h)
  have hown : s.vm.findClass RX8 = some m.cls := findClass_of_methodNamed B.named
  have hlocks := B.notSynchronized
  subst hsz
  have hD := hD0.self (sz := s.heap.size)
  generalize hAe : va_A [(h0, .inr (8, [.ref qf0, .ref qf1])), (qf0, .inr (9, [.ref qf0_0, .ref qf0_1, .ref qf0_2, .int v0_3, .ref qf0_4, .ref qf0_5, .ref qf0_6, .ref qf0_7, .ref qf0_8, .int v0_9, .int v0_10, .int v0_11, .int v0_12])), (qf0_0, .inl (cf0_0, 3001, .inl f0_0)), (qf0_1, .inl (cf0_1, 3001, .inl f0_1))] s.heap.size = A at hD  ⊢
  have hA : ∀ q : Nat, s.heap.size ≤ q → A q := fun q h => by rw [← hAe]; exact Or.inr h
  have hP : va_P (dC, dI) vwCl [(h0, .inr (8, [.ref qf0, .ref qf1])), (qf0, .inr (9, [.ref qf0_0, .ref qf0_1, .ref qf0_2, .int v0_3, .ref qf0_4, .ref qf0_5, .ref qf0_6, .ref qf0_7, .ref qf0_8, .int v0_9, .int v0_10, .int v0_11, .int v0_12])), (qf0_0, .inl (cf0_0, 3001, .inl f0_0)), (qf0_1, .inl (cf0_1, 3001, .inl f0_1))] s.heap := hP
  have hl := lv_entry ([.ref h0]) (n := 1) (Nat.le_of_ble_eq_true rfl)
  rw [lg_entry_eq]
  generalize (lg_sl ([.ref h0]) ++ List.replicate (1 - (lg_sl ([.ref h0])).length) Slot.unset).toArray = ls at hl ⊢
  have hl : lv_has ls 1 [(0, .ref h0)] := hl
  obtain ⟨H, hH⟩ : ∃ H : Heap, s.heap = H := ⟨_, rfl⟩
  rw [hH] at hP ⊢
  have hS : va_S A s.heap H [] := by rw [← hH]; exact va_S.rf
  obtain ⟨locs, hlo⟩ : ∃ locs : List Loc, locs = [] := ⟨_, rfl⟩
  rw [← hlo] at hS ⊢
  unfold sp_t8_readType at hsp
  refine lv_aload_n hx hb dX8_readType_0 rfl (lv_at hl 0 rfl) ?_
  refine lv_bipush (v := 10) hx hb dX8_readType_1 (by decide) ?_
  obtain ⟨⟨u1_0, u1_1⟩, hu_1, hsp⟩ := ox_bind hsp
  try dsimp only at hsp
  have hPc := hP.sub (ws' := [(h0, .inr (8, [.ref qf0, .ref qf1])), (qf0, .inr (9, [.ref qf0_0, .ref qf0_1, .ref qf0_2, .int v0_3, .ref qf0_4, .ref qf0_5, .ref qf0_6, .ref qf0_7, .ref qf0_8, .int v0_9, .int v0_10, .int v0_11, .int v0_12])), (qf0_0, .inl (cf0_0, 3001, .inl f0_0))]) [0, 1, 2] rfl
  have hDc := hD.sub (ws' := [(h0, .inr (8, [.ref qf0, .ref qf1])), (qf0, .inr (9, [.ref qf0_0, .ref qf0_1, .ref qf0_2, .int v0_3, .ref qf0_4, .ref qf0_5, .ref qf0_6, .ref qf0_7, .ref qf0_8, .int v0_9, .int v0_10, .int v0_11, .int v0_12])), (qf0_0, .inl (cf0_0, 3001, .inl f0_0))]) [0, 1, 2] (by decide) rfl
  have hKc := hK.sub (tys' := [(cf0_0, .int)]) [0] rfl
  have hFc := va_free (wc := [(h0, .inr (8, [.ref qf0, .ref qf1])), (qf0, .inr (9, [.ref qf0_0, .ref qf0_1, .ref qf0_2, .int v0_3, .ref qf0_4, .ref qf0_5, .ref qf0_6, .ref qf0_7, .ref qf0_8, .int v0_9, .int v0_10, .int v0_11, .int v0_12])), (qf0_0, .inl (cf0_0, 3001, .inl f0_0))]) hD hS hA [0, 1, 2] rfl
  refine va_calli (va_runV (As := [.int 10]) (rest := []) ⟨hx, hb, hml, hown, hts⟩ (t8_accept l dC dI H.size h0 10 qf0 qf1 qf0_0 qf0_1 qf0_2 v0_3 qf0_4 qf0_5 qf0_6 qf0_7 qf0_8 v0_9 v0_10 v0_11 v0_12 cf0_0 f0_0 nf u1_0 u1_1 hu_1) (cwV 1 hts gv_h4_126 rfl rfl rfl (by decide +kernel) ⟨Nat.le_of_ble_eq_true rfl, Nat.le_of_ble_eq_true rfl⟩) ⟨fun a U g mk q => by obtain ⟨q0, q1, qP, qK, qD⟩ := q; exact ⟨q0, q1, qP, va_K.moved (u := U) (U := U.calling g mk a) (Vm.Alike.refl U.vm) qK, qD⟩, va_recv hKc hPc (ci := 8) (q0 := 0) rfl rfl, fun U hU hW => ⟨rfl, by rw [hU], by rw [hU]; exact hPc, va_K.moved hW.alike hKc, hDc.weaken (fun _ _ _ _ => trivial)⟩⟩ rfl rfl hl.1 rfl (lv_room (Nat.le_of_ble_eq_true rfl)) dX8_readType_3 ⟨Nat.le_of_ble_eq_true rfl, Nat.le_of_ble_eq_true rfl⟩) hS (fun q _ h => hFc q h) hFc ?_
  clear hS
  intro r_1 u t H1 locs ht hvm hw hB hz1 hk1 hS
  obtain ⟨⟩ := u
  obtain ⟨hP1, hK1, hD1⟩ := hB
  rw [ht] at hP1
  have hK1 := va_K.moved hvm.symm hK1
  try dsimp only at hw
  have hPD := va_join (wr := [(qf0_1, .inl (cf0_1, 3001, .inl f0_1))]) (w1 := [(h0, .inr (8, [.ref qf0, .ref qf1])), (qf0, .inr (9, [.ref qf0_0, .ref qf0_1, .ref qf0_2, .int v0_3, .ref qf0_4, .ref qf0_5, .ref qf0_6, .ref qf0_7, .ref qf0_8, .int v0_9, .int u1_1, .int v0_11, .int v0_12])), (qf0_0, .inl (cf0_0, 3001, .inl f0_0))]) hP hD [0, 1, 2] [3] rfl rfl (by decide) (by decide) hk1 hFc hP1 hD1
  clear hP hD
  obtain ⟨hP, hD⟩ := hPD
  replace hK := (hK.sub (tys' := [(cf0_1, .int)]) [1] rfl).app hK1
  clear hPc hDc hKc hFc hP1 hK1 hD1 hz1 hk1 ht hvm
  generalize H1 = H at hP hS ⊢
  replace hP : va_P (dC, dI) vwCl [(qf0_1, .inl (cf0_1, 3001, .inl f0_1)), (h0, .inr (8, [.ref qf0, .ref qf1])), (qf0, .inr (9, [.ref qf0_0, .ref qf0_1, .ref qf0_2, .int v0_3, .ref qf0_4, .ref qf0_5, .ref qf0_6, .ref qf0_7, .ref qf0_8, .int v0_9, .int u1_1, .int v0_11, .int v0_12])), (qf0_0, .inl (cf0_0, 3001, .inl f0_0))] H := hP
  replace hD : va_D A [(qf0_1, .inl (cf0_1, 3001, .inl f0_1)), (h0, .inr (8, [.ref qf0, .ref qf1])), (qf0, .inr (9, [.ref qf0_0, .ref qf0_1, .ref qf0_2, .int v0_3, .ref qf0_4, .ref qf0_5, .ref qf0_6, .ref qf0_7, .ref qf0_8, .int v0_9, .int u1_1, .int v0_11, .int v0_12])), (qf0_0, .inl (cf0_0, 3001, .inl f0_0))] := hD
  replace hK : va_K (dC, dI) vwCl [(cf0_1, .int), (cf0_0, .int)] s := hK
  obtain ⟨rfl, hz_1⟩ := hw
  rcases hz_1 with rfl | rfl
  · rw [if_pos rfl] at hsp
    refine lv_if_eq (tgt := 10) hx hb dX8_readType_6 (by decide) (fun c_2 => ?_) (fun c_2 => (show False by revert c_2; decide).elim)
    refine lv_aload_n hx hb dX8_readType_10 rfl (lv_at hl 0 rfl) ?_
    refine lv_bipush (v := 20) hx hb dX8_readType_11 (by decide) ?_
    obtain ⟨⟨u2_0, u2_1⟩, hu_2, hsp⟩ := ox_bind hsp
    try dsimp only at hsp
    have hPc := hP.sub (ws' := [(h0, .inr (8, [.ref qf0, .ref qf1])), (qf0, .inr (9, [.ref qf0_0, .ref qf0_1, .ref qf0_2, .int v0_3, .ref qf0_4, .ref qf0_5, .ref qf0_6, .ref qf0_7, .ref qf0_8, .int v0_9, .int u1_1, .int v0_11, .int v0_12])), (qf0_0, .inl (cf0_0, 3001, .inl f0_0))]) [1, 2, 3] rfl
    have hDc := hD.sub (ws' := [(h0, .inr (8, [.ref qf0, .ref qf1])), (qf0, .inr (9, [.ref qf0_0, .ref qf0_1, .ref qf0_2, .int v0_3, .ref qf0_4, .ref qf0_5, .ref qf0_6, .ref qf0_7, .ref qf0_8, .int v0_9, .int u1_1, .int v0_11, .int v0_12])), (qf0_0, .inl (cf0_0, 3001, .inl f0_0))]) [1, 2, 3] (by decide) rfl
    have hKc := hK.sub (tys' := [(cf0_0, .int)]) [1] rfl
    have hFc := va_free (wc := [(h0, .inr (8, [.ref qf0, .ref qf1])), (qf0, .inr (9, [.ref qf0_0, .ref qf0_1, .ref qf0_2, .int v0_3, .ref qf0_4, .ref qf0_5, .ref qf0_6, .ref qf0_7, .ref qf0_8, .int v0_9, .int u1_1, .int v0_11, .int v0_12])), (qf0_0, .inl (cf0_0, 3001, .inl f0_0))]) hD hS hA [1, 2, 3] rfl
    refine va_calli (va_runV (As := [.int 20]) (rest := []) ⟨hx, hb, hml, hown, hts⟩ (t8_accept l dC dI H.size h0 20 qf0 qf1 qf0_0 qf0_1 qf0_2 v0_3 qf0_4 qf0_5 qf0_6 qf0_7 qf0_8 v0_9 u1_1 v0_11 v0_12 cf0_0 f0_0 nf u2_0 u2_1 hu_2) (cwV 1 hts gv_h4_126 rfl rfl rfl (by decide +kernel) ⟨Nat.le_of_ble_eq_true rfl, Nat.le_of_ble_eq_true rfl⟩) ⟨fun a U g mk q => by obtain ⟨q0, q1, qP, qK, qD⟩ := q; exact ⟨q0, q1, qP, va_K.moved (u := U) (U := U.calling g mk a) (Vm.Alike.refl U.vm) qK, qD⟩, va_recv hKc hPc (ci := 8) (q0 := 0) rfl rfl, fun U hU hW => ⟨rfl, by rw [hU], by rw [hU]; exact hPc, va_K.moved hW.alike hKc, hDc.weaken (fun _ _ _ _ => trivial)⟩⟩ rfl rfl hl.1 rfl (lv_room (Nat.le_of_ble_eq_true rfl)) dX8_readType_13 ⟨Nat.le_of_ble_eq_true rfl, Nat.le_of_ble_eq_true rfl⟩) hS (fun q _ h => hFc q h) hFc ?_
    clear hS
    intro r_3 u t H1 locs ht hvm hw hB hz1 hk1 hS
    obtain ⟨⟩ := u
    obtain ⟨hP1, hK1, hD1⟩ := hB
    rw [ht] at hP1
    have hK1 := va_K.moved hvm.symm hK1
    try dsimp only at hw
    have hPD := va_join (wr := [(qf0_1, .inl (cf0_1, 3001, .inl f0_1))]) (w1 := [(h0, .inr (8, [.ref qf0, .ref qf1])), (qf0, .inr (9, [.ref qf0_0, .ref qf0_1, .ref qf0_2, .int v0_3, .ref qf0_4, .ref qf0_5, .ref qf0_6, .ref qf0_7, .ref qf0_8, .int v0_9, .int u2_1, .int v0_11, .int v0_12])), (qf0_0, .inl (cf0_0, 3001, .inl f0_0))]) hP hD [1, 2, 3] [0] rfl rfl (by decide) (by decide) hk1 hFc hP1 hD1
    clear hP hD
    obtain ⟨hP, hD⟩ := hPD
    replace hK := (hK.sub (tys' := [(cf0_1, .int)]) [0] rfl).app hK1
    clear hPc hDc hKc hFc hP1 hK1 hD1 hz1 hk1 ht hvm
    generalize H1 = H at hP hS ⊢
    replace hP : va_P (dC, dI) vwCl [(qf0_1, .inl (cf0_1, 3001, .inl f0_1)), (h0, .inr (8, [.ref qf0, .ref qf1])), (qf0, .inr (9, [.ref qf0_0, .ref qf0_1, .ref qf0_2, .int v0_3, .ref qf0_4, .ref qf0_5, .ref qf0_6, .ref qf0_7, .ref qf0_8, .int v0_9, .int u2_1, .int v0_11, .int v0_12])), (qf0_0, .inl (cf0_0, 3001, .inl f0_0))] H := hP
    replace hD : va_D A [(qf0_1, .inl (cf0_1, 3001, .inl f0_1)), (h0, .inr (8, [.ref qf0, .ref qf1])), (qf0, .inr (9, [.ref qf0_0, .ref qf0_1, .ref qf0_2, .int v0_3, .ref qf0_4, .ref qf0_5, .ref qf0_6, .ref qf0_7, .ref qf0_8, .int v0_9, .int u2_1, .int v0_11, .int v0_12])), (qf0_0, .inl (cf0_0, 3001, .inl f0_0))] := hD
    replace hK : va_K (dC, dI) vwCl [(cf0_1, .int), (cf0_0, .int)] s := hK
    obtain ⟨rfl, hz_2⟩ := hw
    rcases hz_2 with rfl | rfl
    · rw [if_pos rfl] at hsp
      refine lv_if_ne (tgt := 24) hx hb dX8_readType_16 (by decide) (fun c_4 => (show False by revert c_4; decide).elim) (fun c_4 => ?_)
      refine lv_aload_n hx hb dX8_readType_19 rfl (lv_at hl 0 rfl) ?_
      refine lv_iconst (v := 2) hx hb dX8_readType_20 (by decide) ?_
      obtain ⟨⟨u3_0, u3_1, u3_2⟩, hu_3, hsp⟩ := ox_bind hsp
      try dsimp only at hsp
      have hPc := hP.sub (ws' := [(h0, .inr (8, [.ref qf0, .ref qf1])), (qf0, .inr (9, [.ref qf0_0, .ref qf0_1, .ref qf0_2, .int v0_3, .ref qf0_4, .ref qf0_5, .ref qf0_6, .ref qf0_7, .ref qf0_8, .int v0_9, .int u2_1, .int v0_11, .int v0_12])), (qf0_0, .inl (cf0_0, 3001, .inl f0_0)), (qf0_1, .inl (cf0_1, 3001, .inl f0_1))]) [1, 2, 3, 0] rfl
      have hDc := hD.sub (ws' := [(h0, .inr (8, [.ref qf0, .ref qf1])), (qf0, .inr (9, [.ref qf0_0, .ref qf0_1, .ref qf0_2, .int v0_3, .ref qf0_4, .ref qf0_5, .ref qf0_6, .ref qf0_7, .ref qf0_8, .int v0_9, .int u2_1, .int v0_11, .int v0_12])), (qf0_0, .inl (cf0_0, 3001, .inl f0_0)), (qf0_1, .inl (cf0_1, 3001, .inl f0_1))]) [1, 2, 3, 0] (by decide) rfl
      have hKc := hK.sub (tys' := [(cf0_0, .int), (cf0_1, .int)]) [1, 0] rfl
      have hFc := va_free (wc := [(h0, .inr (8, [.ref qf0, .ref qf1])), (qf0, .inr (9, [.ref qf0_0, .ref qf0_1, .ref qf0_2, .int v0_3, .ref qf0_4, .ref qf0_5, .ref qf0_6, .ref qf0_7, .ref qf0_8, .int v0_9, .int u2_1, .int v0_11, .int v0_12])), (qf0_0, .inl (cf0_0, 3001, .inl f0_0)), (qf0_1, .inl (cf0_1, 3001, .inl f0_1))]) hD hS hA [1, 2, 3, 0] rfl
      refine va_callv (va_runV (As := [.int 2]) (rest := []) ⟨hx, hb, hml, hown, hts⟩ (t8_need l dC dI H.size h0 2 qf0 qf1 qf0_0 qf0_1 qf0_2 v0_3 qf0_4 qf0_5 qf0_6 qf0_7 qf0_8 v0_9 u2_1 v0_11 v0_12 cf0_0 f0_0 cf0_1 f0_1 nf u3_0 u3_1 u3_2 hu_3) (cwV 1 hts gv_h4_124 rfl rfl rfl (by decide +kernel) ⟨Nat.le_of_ble_eq_true rfl, Nat.le_of_ble_eq_true rfl⟩) ⟨fun a U g mk q => by obtain ⟨q0, q1, qP, qK, qD⟩ := q; exact ⟨q0, q1, qP, va_K.moved (u := U) (U := U.calling g mk a) (Vm.Alike.refl U.vm) qK, qD⟩, va_recv hKc hPc (ci := 8) (q0 := 0) rfl rfl, fun U hU hW => ⟨rfl, by rw [hU], by rw [hU]; exact hPc, va_K.moved hW.alike hKc, hDc.weaken (fun _ _ _ _ => trivial)⟩⟩ rfl rfl hl.1 rfl (lv_room (Nat.le_of_ble_eq_true rfl)) dX8_readType_21 ⟨Nat.le_of_ble_eq_true rfl, Nat.le_of_ble_eq_true rfl⟩) hS (fun q _ h => hFc q h) hFc ?_
      clear hS
      intro u t H1 locs ht hvm hw hB hz1 hk1 hS
      obtain ⟨⟩ := u
      obtain ⟨hP1, hK1, hD1⟩ := hB
      rw [ht] at hP1
      have hK1 := va_K.moved hvm.symm hK1
      try dsimp only at hw
      have hPD := va_join (wr := []) (w1 := [(h0, .inr (8, [.ref qf0, .ref qf1])), (qf0, .inr (9, [.ref qf0_0, .ref qf0_1, .ref qf0_2, .int v0_3, .ref qf0_4, .ref qf0_5, .ref qf0_6, .ref qf0_7, .ref qf0_8, .int v0_9, .int u3_0, .int u3_1, .int u3_2])), (qf0_0, .inl (cf0_0, 3001, .inl f0_0)), (qf0_1, .inl (cf0_1, 3001, .inl f0_1))]) hP hD [1, 2, 3, 0] [] rfl rfl (by decide) (by decide) hk1 hFc hP1 hD1
      clear hP hD
      obtain ⟨hP, hD⟩ := hPD
      replace hK := (hK.sub (tys' := []) [] rfl).app hK1
      clear hPc hDc hKc hFc hP1 hK1 hD1 hz1 hk1 ht hvm
      generalize H1 = H at hP hS ⊢
      replace hP : va_P (dC, dI) vwCl [(h0, .inr (8, [.ref qf0, .ref qf1])), (qf0, .inr (9, [.ref qf0_0, .ref qf0_1, .ref qf0_2, .int v0_3, .ref qf0_4, .ref qf0_5, .ref qf0_6, .ref qf0_7, .ref qf0_8, .int v0_9, .int u3_0, .int u3_1, .int u3_2])), (qf0_0, .inl (cf0_0, 3001, .inl f0_0)), (qf0_1, .inl (cf0_1, 3001, .inl f0_1))] H := hP
      replace hD : va_D A [(h0, .inr (8, [.ref qf0, .ref qf1])), (qf0, .inr (9, [.ref qf0_0, .ref qf0_1, .ref qf0_2, .int v0_3, .ref qf0_4, .ref qf0_5, .ref qf0_6, .ref qf0_7, .ref qf0_8, .int v0_9, .int u3_0, .int u3_1, .int u3_2])), (qf0_0, .inl (cf0_0, 3001, .inl f0_0)), (qf0_1, .inl (cf0_1, 3001, .inl f0_1))] := hD
      replace hK : va_K (dC, dI) vwCl [(cf0_0, .int), (cf0_1, .int)] s := hK
      refine lv_aload_n hx hb dX8_readType_24 rfl (lv_at hl 0 rfl) ?_
      refine lv_bipush (v := 44) hx hb dX8_readType_25 (by decide) ?_
      obtain ⟨⟨u4_0, u4_1⟩, hu_4, hsp⟩ := ox_bind hsp
      try dsimp only at hsp
      have hPc := hP.sub (ws' := [(h0, .inr (8, [.ref qf0, .ref qf1])), (qf0, .inr (9, [.ref qf0_0, .ref qf0_1, .ref qf0_2, .int v0_3, .ref qf0_4, .ref qf0_5, .ref qf0_6, .ref qf0_7, .ref qf0_8, .int v0_9, .int u3_0, .int u3_1, .int u3_2])), (qf0_0, .inl (cf0_0, 3001, .inl f0_0))]) [0, 1, 2] rfl
      have hDc := hD.sub (ws' := [(h0, .inr (8, [.ref qf0, .ref qf1])), (qf0, .inr (9, [.ref qf0_0, .ref qf0_1, .ref qf0_2, .int v0_3, .ref qf0_4, .ref qf0_5, .ref qf0_6, .ref qf0_7, .ref qf0_8, .int v0_9, .int u3_0, .int u3_1, .int u3_2])), (qf0_0, .inl (cf0_0, 3001, .inl f0_0))]) [0, 1, 2] (by decide) rfl
      have hKc := hK.sub (tys' := [(cf0_0, .int)]) [0] rfl
      have hFc := va_free (wc := [(h0, .inr (8, [.ref qf0, .ref qf1])), (qf0, .inr (9, [.ref qf0_0, .ref qf0_1, .ref qf0_2, .int v0_3, .ref qf0_4, .ref qf0_5, .ref qf0_6, .ref qf0_7, .ref qf0_8, .int v0_9, .int u3_0, .int u3_1, .int u3_2])), (qf0_0, .inl (cf0_0, 3001, .inl f0_0))]) hD hS hA [0, 1, 2] rfl
      refine va_calli (va_runV (As := [.int 44]) (rest := []) ⟨hx, hb, hml, hown, hts⟩ (t8_accept l dC dI H.size h0 44 qf0 qf1 qf0_0 qf0_1 qf0_2 v0_3 qf0_4 qf0_5 qf0_6 qf0_7 qf0_8 v0_9 u3_0 u3_1 u3_2 cf0_0 f0_0 nf u4_0 u4_1 hu_4) (cwV 1 hts gv_h4_126 rfl rfl rfl (by decide +kernel) ⟨Nat.le_of_ble_eq_true rfl, Nat.le_of_ble_eq_true rfl⟩) ⟨fun a U g mk q => by obtain ⟨q0, q1, qP, qK, qD⟩ := q; exact ⟨q0, q1, qP, va_K.moved (u := U) (U := U.calling g mk a) (Vm.Alike.refl U.vm) qK, qD⟩, va_recv hKc hPc (ci := 8) (q0 := 0) rfl rfl, fun U hU hW => ⟨rfl, by rw [hU], by rw [hU]; exact hPc, va_K.moved hW.alike hKc, hDc.weaken (fun _ _ _ _ => trivial)⟩⟩ rfl rfl hl.1 rfl (lv_room (Nat.le_of_ble_eq_true rfl)) dX8_readType_27 ⟨Nat.le_of_ble_eq_true rfl, Nat.le_of_ble_eq_true rfl⟩) hS (fun q _ h => hFc q h) hFc ?_
      clear hS
      intro r_5 u t H1 locs ht hvm hw hB hz1 hk1 hS
      obtain ⟨⟩ := u
      obtain ⟨hP1, hK1, hD1⟩ := hB
      rw [ht] at hP1
      have hK1 := va_K.moved hvm.symm hK1
      try dsimp only at hw
      have hPD := va_join (wr := [(qf0_1, .inl (cf0_1, 3001, .inl f0_1))]) (w1 := [(h0, .inr (8, [.ref qf0, .ref qf1])), (qf0, .inr (9, [.ref qf0_0, .ref qf0_1, .ref qf0_2, .int v0_3, .ref qf0_4, .ref qf0_5, .ref qf0_6, .ref qf0_7, .ref qf0_8, .int v0_9, .int u4_1, .int u3_1, .int u3_2])), (qf0_0, .inl (cf0_0, 3001, .inl f0_0))]) hP hD [0, 1, 2] [3] rfl rfl (by decide) (by decide) hk1 hFc hP1 hD1
      clear hP hD
      obtain ⟨hP, hD⟩ := hPD
      replace hK := (hK.sub (tys' := [(cf0_1, .int)]) [1] rfl).app hK1
      clear hPc hDc hKc hFc hP1 hK1 hD1 hz1 hk1 ht hvm
      generalize H1 = H at hP hS ⊢
      replace hP : va_P (dC, dI) vwCl [(qf0_1, .inl (cf0_1, 3001, .inl f0_1)), (h0, .inr (8, [.ref qf0, .ref qf1])), (qf0, .inr (9, [.ref qf0_0, .ref qf0_1, .ref qf0_2, .int v0_3, .ref qf0_4, .ref qf0_5, .ref qf0_6, .ref qf0_7, .ref qf0_8, .int v0_9, .int u4_1, .int u3_1, .int u3_2])), (qf0_0, .inl (cf0_0, 3001, .inl f0_0))] H := hP
      replace hD : va_D A [(qf0_1, .inl (cf0_1, 3001, .inl f0_1)), (h0, .inr (8, [.ref qf0, .ref qf1])), (qf0, .inr (9, [.ref qf0_0, .ref qf0_1, .ref qf0_2, .int v0_3, .ref qf0_4, .ref qf0_5, .ref qf0_6, .ref qf0_7, .ref qf0_8, .int v0_9, .int u4_1, .int u3_1, .int u3_2])), (qf0_0, .inl (cf0_0, 3001, .inl f0_0))] := hD
      replace hK : va_K (dC, dI) vwCl [(cf0_1, .int), (cf0_0, .int)] s := hK
      obtain ⟨rfl, hz_4⟩ := hw
      rcases hz_4 with rfl | rfl
      · rw [if_pos rfl] at hsp
        refine lv_if_eq (tgt := 39) hx hb dX8_readType_30 (by decide) (fun c_6 => ?_) (fun c_6 => (show False by revert c_6; decide).elim)
        have hr0 := Option.some.inj hsp
        clear hsp
        obtain ⟨hq0, hr1⟩ := Prod.mk.inj hr0
        clear hr0
        obtain ⟨hq1, hr2⟩ := Prod.mk.inj hr1
        clear hr1
        subst hq0
        subst hq1
        subst hr2
        have hP9 := hP.sub (ws' := [(h0, .inr (8, [.ref qf0, .ref qf1])), (qf0, .inr (9, [.ref qf0_0, .ref qf0_1, .ref qf0_2, .int v0_3, .ref qf0_4, .ref qf0_5, .ref qf0_6, .ref qf0_7, .ref qf0_8, .int v0_9, .int u4_1, .int u3_1, .int u3_2])), (qf0_0, .inl (cf0_0, 3001, .inl f0_0)), (qf0_1, .inl (cf0_1, 3001, .inl f0_1))]) [1, 2, 3, 0] rfl
        have hD9 := hD.sub (ws' := [(h0, .inr (8, [.ref qf0, .ref qf1])), (qf0, .inr (9, [.ref qf0_0, .ref qf0_1, .ref qf0_2, .int v0_3, .ref qf0_4, .ref qf0_5, .ref qf0_6, .ref qf0_7, .ref qf0_8, .int v0_9, .int u4_1, .int u3_1, .int u3_2])), (qf0_0, .inl (cf0_0, 3001, .inl f0_0)), (qf0_1, .inl (cf0_1, 3001, .inl f0_1))]) [1, 2, 3, 0] (by decide) rfl
        have hK9 := hK.sub (tys' := [(cf0_0, .int), (cf0_1, .int)]) [1, 0] rfl
        exact W.vret hx hb hr (fun t ht hW => ⟨⟨(), rfl, trivial, by rw [ht]; exact hP9, va_K.moved hW.alike hK9, hD9⟩, hS.F ht⟩) hS.2.2 dX8_readType_39
      · rw [if_neg (by decide)] at hsp
        refine lv_if_eq (tgt := 39) hx hb dX8_readType_30 (by decide) (fun c_7 => (show False by revert c_7; decide).elim) (fun c_7 => ?_)
        refine lv_aload_n hx hb dX8_readType_33 rfl (lv_at hl 0 rfl) ?_
        refine lv_bipush (v := 45) hx hb dX8_readType_34 (by decide) ?_
        obtain ⟨⟨u5_0, u5_1, u5_2⟩, hu_5, hsp⟩ := ox_bind hsp
        try dsimp only at hsp
        have hPc := hP.sub (ws' := [(h0, .inr (8, [.ref qf0, .ref qf1])), (qf0, .inr (9, [.ref qf0_0, .ref qf0_1, .ref qf0_2, .int v0_3, .ref qf0_4, .ref qf0_5, .ref qf0_6, .ref qf0_7, .ref qf0_8, .int v0_9, .int u4_1, .int u3_1, .int u3_2])), (qf0_0, .inl (cf0_0, 3001, .inl f0_0)), (qf0_1, .inl (cf0_1, 3001, .inl f0_1))]) [1, 2, 3, 0] rfl
        have hDc := hD.sub (ws' := [(h0, .inr (8, [.ref qf0, .ref qf1])), (qf0, .inr (9, [.ref qf0_0, .ref qf0_1, .ref qf0_2, .int v0_3, .ref qf0_4, .ref qf0_5, .ref qf0_6, .ref qf0_7, .ref qf0_8, .int v0_9, .int u4_1, .int u3_1, .int u3_2])), (qf0_0, .inl (cf0_0, 3001, .inl f0_0)), (qf0_1, .inl (cf0_1, 3001, .inl f0_1))]) [1, 2, 3, 0] (by decide) rfl
        have hKc := hK.sub (tys' := [(cf0_0, .int), (cf0_1, .int)]) [1, 0] rfl
        have hFc := va_free (wc := [(h0, .inr (8, [.ref qf0, .ref qf1])), (qf0, .inr (9, [.ref qf0_0, .ref qf0_1, .ref qf0_2, .int v0_3, .ref qf0_4, .ref qf0_5, .ref qf0_6, .ref qf0_7, .ref qf0_8, .int v0_9, .int u4_1, .int u3_1, .int u3_2])), (qf0_0, .inl (cf0_0, 3001, .inl f0_0)), (qf0_1, .inl (cf0_1, 3001, .inl f0_1))]) hD hS hA [1, 2, 3, 0] rfl
        refine va_callv (va_runV (As := [.int 45]) (rest := []) ⟨hx, hb, hml, hown, hts⟩ (t8_need l dC dI H.size h0 45 qf0 qf1 qf0_0 qf0_1 qf0_2 v0_3 qf0_4 qf0_5 qf0_6 qf0_7 qf0_8 v0_9 u4_1 u3_1 u3_2 cf0_0 f0_0 cf0_1 f0_1 nf u5_0 u5_1 u5_2 hu_5) (cwV 1 hts gv_h4_124 rfl rfl rfl (by decide +kernel) ⟨Nat.le_of_ble_eq_true rfl, Nat.le_of_ble_eq_true rfl⟩) ⟨fun a U g mk q => by obtain ⟨q0, q1, qP, qK, qD⟩ := q; exact ⟨q0, q1, qP, va_K.moved (u := U) (U := U.calling g mk a) (Vm.Alike.refl U.vm) qK, qD⟩, va_recv hKc hPc (ci := 8) (q0 := 0) rfl rfl, fun U hU hW => ⟨rfl, by rw [hU], by rw [hU]; exact hPc, va_K.moved hW.alike hKc, hDc.weaken (fun _ _ _ _ => trivial)⟩⟩ rfl rfl hl.1 rfl (lv_room (Nat.le_of_ble_eq_true rfl)) dX8_readType_36 ⟨Nat.le_of_ble_eq_true rfl, Nat.le_of_ble_eq_true rfl⟩) hS (fun q _ h => hFc q h) hFc ?_
        clear hS
        intro u t H1 locs ht hvm hw hB hz1 hk1 hS
        obtain ⟨⟩ := u
        obtain ⟨hP1, hK1, hD1⟩ := hB
        rw [ht] at hP1
        have hK1 := va_K.moved hvm.symm hK1
        try dsimp only at hw
        have hPD := va_join (wr := []) (w1 := [(h0, .inr (8, [.ref qf0, .ref qf1])), (qf0, .inr (9, [.ref qf0_0, .ref qf0_1, .ref qf0_2, .int v0_3, .ref qf0_4, .ref qf0_5, .ref qf0_6, .ref qf0_7, .ref qf0_8, .int v0_9, .int u5_0, .int u5_1, .int u5_2])), (qf0_0, .inl (cf0_0, 3001, .inl f0_0)), (qf0_1, .inl (cf0_1, 3001, .inl f0_1))]) hP hD [1, 2, 3, 0] [] rfl rfl (by decide) (by decide) hk1 hFc hP1 hD1
        clear hP hD
        obtain ⟨hP, hD⟩ := hPD
        replace hK := (hK.sub (tys' := []) [] rfl).app hK1
        clear hPc hDc hKc hFc hP1 hK1 hD1 hz1 hk1 ht hvm
        generalize H1 = H at hP hS ⊢
        replace hP : va_P (dC, dI) vwCl [(h0, .inr (8, [.ref qf0, .ref qf1])), (qf0, .inr (9, [.ref qf0_0, .ref qf0_1, .ref qf0_2, .int v0_3, .ref qf0_4, .ref qf0_5, .ref qf0_6, .ref qf0_7, .ref qf0_8, .int v0_9, .int u5_0, .int u5_1, .int u5_2])), (qf0_0, .inl (cf0_0, 3001, .inl f0_0)), (qf0_1, .inl (cf0_1, 3001, .inl f0_1))] H := hP
        replace hD : va_D A [(h0, .inr (8, [.ref qf0, .ref qf1])), (qf0, .inr (9, [.ref qf0_0, .ref qf0_1, .ref qf0_2, .int v0_3, .ref qf0_4, .ref qf0_5, .ref qf0_6, .ref qf0_7, .ref qf0_8, .int v0_9, .int u5_0, .int u5_1, .int u5_2])), (qf0_0, .inl (cf0_0, 3001, .inl f0_0)), (qf0_1, .inl (cf0_1, 3001, .inl f0_1))] := hD
        replace hK : va_K (dC, dI) vwCl [(cf0_0, .int), (cf0_1, .int)] s := hK
        have hr0 := Option.some.inj hsp
        clear hsp
        obtain ⟨hq0, hr1⟩ := Prod.mk.inj hr0
        clear hr0
        obtain ⟨hq1, hr2⟩ := Prod.mk.inj hr1
        clear hr1
        subst hq0
        subst hq1
        subst hr2
        have hP9 := hP.sub (ws' := [(h0, .inr (8, [.ref qf0, .ref qf1])), (qf0, .inr (9, [.ref qf0_0, .ref qf0_1, .ref qf0_2, .int v0_3, .ref qf0_4, .ref qf0_5, .ref qf0_6, .ref qf0_7, .ref qf0_8, .int v0_9, .int u5_0, .int u5_1, .int u5_2])), (qf0_0, .inl (cf0_0, 3001, .inl f0_0)), (qf0_1, .inl (cf0_1, 3001, .inl f0_1))]) [0, 1, 2, 3] rfl
        have hD9 := hD.sub (ws' := [(h0, .inr (8, [.ref qf0, .ref qf1])), (qf0, .inr (9, [.ref qf0_0, .ref qf0_1, .ref qf0_2, .int v0_3, .ref qf0_4, .ref qf0_5, .ref qf0_6, .ref qf0_7, .ref qf0_8, .int v0_9, .int u5_0, .int u5_1, .int u5_2])), (qf0_0, .inl (cf0_0, 3001, .inl f0_0)), (qf0_1, .inl (cf0_1, 3001, .inl f0_1))]) [0, 1, 2, 3] (by decide) rfl
        have hK9 := hK.sub (tys' := [(cf0_0, .int), (cf0_1, .int)]) [0, 1] rfl
        exact W.vret hx hb hr (fun t ht hW => ⟨⟨(), rfl, trivial, by rw [ht]; exact hP9, va_K.moved hW.alike hK9, hD9⟩, hS.F ht⟩) hS.2.2 dX8_readType_39
    · rw [if_neg (by decide)] at hsp
      refine lv_if_ne (tgt := 24) hx hb dX8_readType_16 (by decide) (fun c_8 => ?_) (fun c_8 => (show False by revert c_8; decide).elim)
      refine lv_aload_n hx hb dX8_readType_24 rfl (lv_at hl 0 rfl) ?_
      refine lv_bipush (v := 44) hx hb dX8_readType_25 (by decide) ?_
      obtain ⟨⟨u6_0, u6_1⟩, hu_6, hsp⟩ := ox_bind hsp
      try dsimp only at hsp
      have hPc := hP.sub (ws' := [(h0, .inr (8, [.ref qf0, .ref qf1])), (qf0, .inr (9, [.ref qf0_0, .ref qf0_1, .ref qf0_2, .int v0_3, .ref qf0_4, .ref qf0_5, .ref qf0_6, .ref qf0_7, .ref qf0_8, .int v0_9, .int u2_1, .int v0_11, .int v0_12])), (qf0_0, .inl (cf0_0, 3001, .inl f0_0))]) [1, 2, 3] rfl
      have hDc := hD.sub (ws' := [(h0, .inr (8, [.ref qf0, .ref qf1])), (qf0, .inr (9, [.ref qf0_0, .ref qf0_1, .ref qf0_2, .int v0_3, .ref qf0_4, .ref qf0_5, .ref qf0_6, .ref qf0_7, .ref qf0_8, .int v0_9, .int u2_1, .int v0_11, .int v0_12])), (qf0_0, .inl (cf0_0, 3001, .inl f0_0))]) [1, 2, 3] (by decide) rfl
      have hKc := hK.sub (tys' := [(cf0_0, .int)]) [1] rfl
      have hFc := va_free (wc := [(h0, .inr (8, [.ref qf0, .ref qf1])), (qf0, .inr (9, [.ref qf0_0, .ref qf0_1, .ref qf0_2, .int v0_3, .ref qf0_4, .ref qf0_5, .ref qf0_6, .ref qf0_7, .ref qf0_8, .int v0_9, .int u2_1, .int v0_11, .int v0_12])), (qf0_0, .inl (cf0_0, 3001, .inl f0_0))]) hD hS hA [1, 2, 3] rfl
      refine va_calli (va_runV (As := [.int 44]) (rest := []) ⟨hx, hb, hml, hown, hts⟩ (t8_accept l dC dI H.size h0 44 qf0 qf1 qf0_0 qf0_1 qf0_2 v0_3 qf0_4 qf0_5 qf0_6 qf0_7 qf0_8 v0_9 u2_1 v0_11 v0_12 cf0_0 f0_0 nf u6_0 u6_1 hu_6) (cwV 1 hts gv_h4_126 rfl rfl rfl (by decide +kernel) ⟨Nat.le_of_ble_eq_true rfl, Nat.le_of_ble_eq_true rfl⟩) ⟨fun a U g mk q => by obtain ⟨q0, q1, qP, qK, qD⟩ := q; exact ⟨q0, q1, qP, va_K.moved (u := U) (U := U.calling g mk a) (Vm.Alike.refl U.vm) qK, qD⟩, va_recv hKc hPc (ci := 8) (q0 := 0) rfl rfl, fun U hU hW => ⟨rfl, by rw [hU], by rw [hU]; exact hPc, va_K.moved hW.alike hKc, hDc.weaken (fun _ _ _ _ => trivial)⟩⟩ rfl rfl hl.1 rfl (lv_room (Nat.le_of_ble_eq_true rfl)) dX8_readType_27 ⟨Nat.le_of_ble_eq_true rfl, Nat.le_of_ble_eq_true rfl⟩) hS (fun q _ h => hFc q h) hFc ?_
      clear hS
      intro r_9 u t H1 locs ht hvm hw hB hz1 hk1 hS
      obtain ⟨⟩ := u
      obtain ⟨hP1, hK1, hD1⟩ := hB
      rw [ht] at hP1
      have hK1 := va_K.moved hvm.symm hK1
      try dsimp only at hw
      have hPD := va_join (wr := [(qf0_1, .inl (cf0_1, 3001, .inl f0_1))]) (w1 := [(h0, .inr (8, [.ref qf0, .ref qf1])), (qf0, .inr (9, [.ref qf0_0, .ref qf0_1, .ref qf0_2, .int v0_3, .ref qf0_4, .ref qf0_5, .ref qf0_6, .ref qf0_7, .ref qf0_8, .int v0_9, .int u6_1, .int v0_11, .int v0_12])), (qf0_0, .inl (cf0_0, 3001, .inl f0_0))]) hP hD [1, 2, 3] [0] rfl rfl (by decide) (by decide) hk1 hFc hP1 hD1
      clear hP hD
      obtain ⟨hP, hD⟩ := hPD
      replace hK := (hK.sub (tys' := [(cf0_1, .int)]) [0] rfl).app hK1
      clear hPc hDc hKc hFc hP1 hK1 hD1 hz1 hk1 ht hvm
      generalize H1 = H at hP hS ⊢
      replace hP : va_P (dC, dI) vwCl [(qf0_1, .inl (cf0_1, 3001, .inl f0_1)), (h0, .inr (8, [.ref qf0, .ref qf1])), (qf0, .inr (9, [.ref qf0_0, .ref qf0_1, .ref qf0_2, .int v0_3, .ref qf0_4, .ref qf0_5, .ref qf0_6, .ref qf0_7, .ref qf0_8, .int v0_9, .int u6_1, .int v0_11, .int v0_12])), (qf0_0, .inl (cf0_0, 3001, .inl f0_0))] H := hP
      replace hD : va_D A [(qf0_1, .inl (cf0_1, 3001, .inl f0_1)), (h0, .inr (8, [.ref qf0, .ref qf1])), (qf0, .inr (9, [.ref qf0_0, .ref qf0_1, .ref qf0_2, .int v0_3, .ref qf0_4, .ref qf0_5, .ref qf0_6, .ref qf0_7, .ref qf0_8, .int v0_9, .int u6_1, .int v0_11, .int v0_12])), (qf0_0, .inl (cf0_0, 3001, .inl f0_0))] := hD
      replace hK : va_K (dC, dI) vwCl [(cf0_1, .int), (cf0_0, .int)] s := hK
      obtain ⟨rfl, hz_6⟩ := hw
      rcases hz_6 with rfl | rfl
      · rw [if_pos rfl] at hsp
        refine lv_if_eq (tgt := 39) hx hb dX8_readType_30 (by decide) (fun c_10 => ?_) (fun c_10 => (show False by revert c_10; decide).elim)
        have hr0 := Option.some.inj hsp
        clear hsp
        obtain ⟨hq0, hr1⟩ := Prod.mk.inj hr0
        clear hr0
        obtain ⟨hq1, hr2⟩ := Prod.mk.inj hr1
        clear hr1
        subst hq0
        subst hq1
        subst hr2
        have hP9 := hP.sub (ws' := [(h0, .inr (8, [.ref qf0, .ref qf1])), (qf0, .inr (9, [.ref qf0_0, .ref qf0_1, .ref qf0_2, .int v0_3, .ref qf0_4, .ref qf0_5, .ref qf0_6, .ref qf0_7, .ref qf0_8, .int v0_9, .int u6_1, .int v0_11, .int v0_12])), (qf0_0, .inl (cf0_0, 3001, .inl f0_0)), (qf0_1, .inl (cf0_1, 3001, .inl f0_1))]) [1, 2, 3, 0] rfl
        have hD9 := hD.sub (ws' := [(h0, .inr (8, [.ref qf0, .ref qf1])), (qf0, .inr (9, [.ref qf0_0, .ref qf0_1, .ref qf0_2, .int v0_3, .ref qf0_4, .ref qf0_5, .ref qf0_6, .ref qf0_7, .ref qf0_8, .int v0_9, .int u6_1, .int v0_11, .int v0_12])), (qf0_0, .inl (cf0_0, 3001, .inl f0_0)), (qf0_1, .inl (cf0_1, 3001, .inl f0_1))]) [1, 2, 3, 0] (by decide) rfl
        have hK9 := hK.sub (tys' := [(cf0_0, .int), (cf0_1, .int)]) [1, 0] rfl
        exact W.vret hx hb hr (fun t ht hW => ⟨⟨(), rfl, trivial, by rw [ht]; exact hP9, va_K.moved hW.alike hK9, hD9⟩, hS.F ht⟩) hS.2.2 dX8_readType_39
      · rw [if_neg (by decide)] at hsp
        refine lv_if_eq (tgt := 39) hx hb dX8_readType_30 (by decide) (fun c_11 => (show False by revert c_11; decide).elim) (fun c_11 => ?_)
        refine lv_aload_n hx hb dX8_readType_33 rfl (lv_at hl 0 rfl) ?_
        refine lv_bipush (v := 45) hx hb dX8_readType_34 (by decide) ?_
        obtain ⟨⟨u7_0, u7_1, u7_2⟩, hu_7, hsp⟩ := ox_bind hsp
        try dsimp only at hsp
        have hPc := hP.sub (ws' := [(h0, .inr (8, [.ref qf0, .ref qf1])), (qf0, .inr (9, [.ref qf0_0, .ref qf0_1, .ref qf0_2, .int v0_3, .ref qf0_4, .ref qf0_5, .ref qf0_6, .ref qf0_7, .ref qf0_8, .int v0_9, .int u6_1, .int v0_11, .int v0_12])), (qf0_0, .inl (cf0_0, 3001, .inl f0_0)), (qf0_1, .inl (cf0_1, 3001, .inl f0_1))]) [1, 2, 3, 0] rfl
        have hDc := hD.sub (ws' := [(h0, .inr (8, [.ref qf0, .ref qf1])), (qf0, .inr (9, [.ref qf0_0, .ref qf0_1, .ref qf0_2, .int v0_3, .ref qf0_4, .ref qf0_5, .ref qf0_6, .ref qf0_7, .ref qf0_8, .int v0_9, .int u6_1, .int v0_11, .int v0_12])), (qf0_0, .inl (cf0_0, 3001, .inl f0_0)), (qf0_1, .inl (cf0_1, 3001, .inl f0_1))]) [1, 2, 3, 0] (by decide) rfl
        have hKc := hK.sub (tys' := [(cf0_0, .int), (cf0_1, .int)]) [1, 0] rfl
        have hFc := va_free (wc := [(h0, .inr (8, [.ref qf0, .ref qf1])), (qf0, .inr (9, [.ref qf0_0, .ref qf0_1, .ref qf0_2, .int v0_3, .ref qf0_4, .ref qf0_5, .ref qf0_6, .ref qf0_7, .ref qf0_8, .int v0_9, .int u6_1, .int v0_11, .int v0_12])), (qf0_0, .inl (cf0_0, 3001, .inl f0_0)), (qf0_1, .inl (cf0_1, 3001, .inl f0_1))]) hD hS hA [1, 2, 3, 0] rfl
        refine va_callv (va_runV (As := [.int 45]) (rest := []) ⟨hx, hb, hml, hown, hts⟩ (t8_need l dC dI H.size h0 45 qf0 qf1 qf0_0 qf0_1 qf0_2 v0_3 qf0_4 qf0_5 qf0_6 qf0_7 qf0_8 v0_9 u6_1 v0_11 v0_12 cf0_0 f0_0 cf0_1 f0_1 nf u7_0 u7_1 u7_2 hu_7) (cwV 1 hts gv_h4_124 rfl rfl rfl (by decide +kernel) ⟨Nat.le_of_ble_eq_true rfl, Nat.le_of_ble_eq_true rfl⟩) ⟨fun a U g mk q => by obtain ⟨q0, q1, qP, qK, qD⟩ := q; exact ⟨q0, q1, qP, va_K.moved (u := U) (U := U.calling g mk a) (Vm.Alike.refl U.vm) qK, qD⟩, va_recv hKc hPc (ci := 8) (q0 := 0) rfl rfl, fun U hU hW => ⟨rfl, by rw [hU], by rw [hU]; exact hPc, va_K.moved hW.alike hKc, hDc.weaken (fun _ _ _ _ => trivial)⟩⟩ rfl rfl hl.1 rfl (lv_room (Nat.le_of_ble_eq_true rfl)) dX8_readType_36 ⟨Nat.le_of_ble_eq_true rfl, Nat.le_of_ble_eq_true rfl⟩) hS (fun q _ h => hFc q h) hFc ?_
        clear hS
        intro u t H1 locs ht hvm hw hB hz1 hk1 hS
        obtain ⟨⟩ := u
        obtain ⟨hP1, hK1, hD1⟩ := hB
        rw [ht] at hP1
        have hK1 := va_K.moved hvm.symm hK1
        try dsimp only at hw
        have hPD := va_join (wr := []) (w1 := [(h0, .inr (8, [.ref qf0, .ref qf1])), (qf0, .inr (9, [.ref qf0_0, .ref qf0_1, .ref qf0_2, .int v0_3, .ref qf0_4, .ref qf0_5, .ref qf0_6, .ref qf0_7, .ref qf0_8, .int v0_9, .int u7_0, .int u7_1, .int u7_2])), (qf0_0, .inl (cf0_0, 3001, .inl f0_0)), (qf0_1, .inl (cf0_1, 3001, .inl f0_1))]) hP hD [1, 2, 3, 0] [] rfl rfl (by decide) (by decide) hk1 hFc hP1 hD1
        clear hP hD
        obtain ⟨hP, hD⟩ := hPD
        replace hK := (hK.sub (tys' := []) [] rfl).app hK1
        clear hPc hDc hKc hFc hP1 hK1 hD1 hz1 hk1 ht hvm
        generalize H1 = H at hP hS ⊢
        replace hP : va_P (dC, dI) vwCl [(h0, .inr (8, [.ref qf0, .ref qf1])), (qf0, .inr (9, [.ref qf0_0, .ref qf0_1, .ref qf0_2, .int v0_3, .ref qf0_4, .ref qf0_5, .ref qf0_6, .ref qf0_7, .ref qf0_8, .int v0_9, .int u7_0, .int u7_1, .int u7_2])), (qf0_0, .inl (cf0_0, 3001, .inl f0_0)), (qf0_1, .inl (cf0_1, 3001, .inl f0_1))] H := hP
        replace hD : va_D A [(h0, .inr (8, [.ref qf0, .ref qf1])), (qf0, .inr (9, [.ref qf0_0, .ref qf0_1, .ref qf0_2, .int v0_3, .ref qf0_4, .ref qf0_5, .ref qf0_6, .ref qf0_7, .ref qf0_8, .int v0_9, .int u7_0, .int u7_1, .int u7_2])), (qf0_0, .inl (cf0_0, 3001, .inl f0_0)), (qf0_1, .inl (cf0_1, 3001, .inl f0_1))] := hD
        replace hK : va_K (dC, dI) vwCl [(cf0_0, .int), (cf0_1, .int)] s := hK
        have hr0 := Option.some.inj hsp
        clear hsp
        obtain ⟨hq0, hr1⟩ := Prod.mk.inj hr0
        clear hr0
        obtain ⟨hq1, hr2⟩ := Prod.mk.inj hr1
        clear hr1
        subst hq0
        subst hq1
        subst hr2
        have hP9 := hP.sub (ws' := [(h0, .inr (8, [.ref qf0, .ref qf1])), (qf0, .inr (9, [.ref qf0_0, .ref qf0_1, .ref qf0_2, .int v0_3, .ref qf0_4, .ref qf0_5, .ref qf0_6, .ref qf0_7, .ref qf0_8, .int v0_9, .int u7_0, .int u7_1, .int u7_2])), (qf0_0, .inl (cf0_0, 3001, .inl f0_0)), (qf0_1, .inl (cf0_1, 3001, .inl f0_1))]) [0, 1, 2, 3] rfl
        have hD9 := hD.sub (ws' := [(h0, .inr (8, [.ref qf0, .ref qf1])), (qf0, .inr (9, [.ref qf0_0, .ref qf0_1, .ref qf0_2, .int v0_3, .ref qf0_4, .ref qf0_5, .ref qf0_6, .ref qf0_7, .ref qf0_8, .int v0_9, .int u7_0, .int u7_1, .int u7_2])), (qf0_0, .inl (cf0_0, 3001, .inl f0_0)), (qf0_1, .inl (cf0_1, 3001, .inl f0_1))]) [0, 1, 2, 3] (by decide) rfl
        have hK9 := hK.sub (tys' := [(cf0_0, .int), (cf0_1, .int)]) [0, 1] rfl
        exact W.vret hx hb hr (fun t ht hW => ⟨⟨(), rfl, trivial, by rw [ht]; exact hP9, va_K.moved hW.alike hK9, hD9⟩, hS.F ht⟩) hS.2.2 dX8_readType_39
  · rw [if_neg (by decide)] at hsp
    refine lv_if_eq (tgt := 10) hx hb dX8_readType_6 (by decide) (fun c_12 => (show False by revert c_12; decide).elim) (fun c_12 => ?_)
    have hr0 := Option.some.inj hsp
    clear hsp
    obtain ⟨hq0, hr1⟩ := Prod.mk.inj hr0
    clear hr0
    obtain ⟨hq1, hr2⟩ := Prod.mk.inj hr1
    clear hr1
    subst hq0
    subst hq1
    subst hr2
    have hP9 := hP.sub (ws' := [(h0, .inr (8, [.ref qf0, .ref qf1])), (qf0, .inr (9, [.ref qf0_0, .ref qf0_1, .ref qf0_2, .int v0_3, .ref qf0_4, .ref qf0_5, .ref qf0_6, .ref qf0_7, .ref qf0_8, .int v0_9, .int u1_1, .int v0_11, .int v0_12])), (qf0_0, .inl (cf0_0, 3001, .inl f0_0)), (qf0_1, .inl (cf0_1, 3001, .inl f0_1))]) [1, 2, 3, 0] rfl
    have hD9 := hD.sub (ws' := [(h0, .inr (8, [.ref qf0, .ref qf1])), (qf0, .inr (9, [.ref qf0_0, .ref qf0_1, .ref qf0_2, .int v0_3, .ref qf0_4, .ref qf0_5, .ref qf0_6, .ref qf0_7, .ref qf0_8, .int v0_9, .int u1_1, .int v0_11, .int v0_12])), (qf0_0, .inl (cf0_0, 3001, .inl f0_0)), (qf0_1, .inl (cf0_1, 3001, .inl f0_1))]) [1, 2, 3, 0] (by decide) rfl
    have hK9 := hK.sub (tys' := [(cf0_0, .int), (cf0_1, .int)]) [1, 0] rfl
    exact W.vret hx hb hr (fun t ht hW => ⟨⟨(), rfl, trivial, by rw [ht]; exact hP9, va_K.moved hW.alike hK9, hD9⟩, hS.F ht⟩) hS.2.2 dX8_readType_9
def sp_t8_binaryAhead (nf : Nat) (a1 : Int32) (v0_3 : Int32) (v0_10 : Int32) (v0_11 : Int32) (f0_0 : Nat → Int32) : Option (Int32) := ((sp_t9_kind nf v0_3 v0_10 v0_11 f0_0).bind (fun p1 => ((sp_t9_level nf p1).bind (fun p2 => (if p2 ≤ 0 then (some 0) else (if a1 = 0 then (if 7 < p2 then (some 0) else (some 1)) else (some 1)))))))
set_option maxHeartbeats 4000000 in
set_option maxRecDepth 100000 in
/-- ClassMill$Syntax.binaryAhead -/
theorem t8_binaryAhead (l : Launch) (dC : Nat → ClassId) (dI : Nat → Nat → Nat) (sz : Nat) (h0 : Nat) (a1 : Int32) (qf0 : Nat) (qf1 : Nat) (qf0_0 : Nat) (qf0_1 : Nat) (qf0_2 : Nat) (v0_3 : Int32) (qf0_4 : Nat) (qf0_5 : Nat) (qf0_6 : Nat) (qf0_7 : Nat) (qf0_8 : Nat) (v0_9 : Int32) (v0_10 : Int32) (v0_11 : Int32) (v0_12 : Int32) (cf0_0 : ClassId) (f0_0 : (Nat → Int32)) (nf : Nat) (r0 : Int32) (hsp : sp_t8_binaryAhead nf a1 v0_3 v0_10 v0_11 f0_0 = some r0) : Met l yX8_binaryAhead (.code yX8_binaryAhead cX8_binaryAhead 3 (some .boolean) :: VS_h4) ({ frames := 1, cells := 0, slots := 0, locals := 20 }) (va_Pc [.ref h0, .int a1] (fun U => U.heap.size = sz ∧ va_P (dC, dI) vwCl [(h0, .inr (8, [.ref qf0, .ref qf1])), (qf0, .inr (9, [.ref qf0_0, .ref qf0_1, .ref qf0_2, .int v0_3, .ref qf0_4, .ref qf0_5, .ref qf0_6, .ref qf0_7, .ref qf0_8, .int v0_9, .int v0_10, .int v0_11, .int v0_12])), (qf0_0, .inl (cf0_0, 3001, .inl f0_0))] U.heap ∧ va_K (dC, dI) vwCl [(cf0_0, .int)] U ∧ va_D (fun _ => True) [(h0, .inr (8, [.ref qf0, .ref qf1])), (qf0, .inr (9, [.ref qf0_0, .ref qf0_1, .ref qf0_2, .int v0_3, .ref qf0_4, .ref qf0_5, .ref qf0_6, .ref qf0_7, .ref qf0_8, .int v0_9, .int v0_10, .int v0_11, .int v0_12])), (qf0_0, .inl (cf0_0, 3001, .inl f0_0))])) (va_Qi (fun (r : Int32) (u : Unit) => match u with | () => r0 = r ∧ (r0 = 0 ∨ r0 = 1)) (fun (u : Unit) (t : State) => match u with | () => va_P (dC, dI) vwCl [(h0, .inr (8, [.ref qf0, .ref qf1])), (qf0, .inr (9, [.ref qf0_0, .ref qf0_1, .ref qf0_2, .int v0_3, .ref qf0_4, .ref qf0_5, .ref qf0_6, .ref qf0_7, .ref qf0_8, .int v0_9, .int v0_10, .int v0_11, .int v0_12])), (qf0_0, .inl (cf0_0, 3001, .inl f0_0))] t.heap ∧ va_K (dC, dI) vwCl [(cf0_0, .int)] t ∧ va_D (va_A [(h0, .inr (8, [.ref qf0, .ref qf1])), (qf0, .inr (9, [.ref qf0_0, .ref qf0_1, .ref qf0_2, .int v0_3, .ref qf0_4, .ref qf0_5, .ref qf0_6, .ref qf0_7, .ref qf0_8, .int v0_9, .int v0_10, .int v0_11, .int v0_12])), (qf0_0, .inl (cf0_0, 3001, .inl f0_0))] sz) [(h0, .inr (8, [.ref qf0, .ref qf1])), (qf0, .inr (9, [.ref qf0_0, .ref qf0_1, .ref qf0_2, .int v0_3, .ref qf0_4, .ref qf0_5, .ref qf0_6, .ref qf0_7, .ref qf0_8, .int v0_9, .int v0_10, .int v0_11, .int v0_12])), (qf0_0, .inl (cf0_0, 3001, .inl f0_0))]) (va_A [(h0, .inr (8, [.ref qf0, .ref qf1])), (qf0, .inr (9, [.ref qf0_0, .ref qf0_1, .ref qf0_2, .int v0_3, .ref qf0_4, .ref qf0_5, .ref qf0_6, .ref qf0_7, .ref qf0_8, .int v0_9, .int v0_10, .int v0_11, .int v0_12])), (qf0_0, .inl (cf0_0, 3001, .inl f0_0))] sz)) 0 0 (va_A [(h0, .inr (8, [.ref qf0, .ref qf1])), (qf0, .inr (9, [.ref qf0_0, .ref qf0_1, .ref qf0_2, .int v0_3, .ref qf0_4, .ref qf0_5, .ref qf0_6, .ref qf0_7, .ref qf0_8, .int v0_9, .int v0_10, .int v0_11, .int v0_12])), (qf0_0, .inl (cf0_0, 3001, .inl f0_0))] sz) := by
  refine Met.ofW (cc := cX8_binaryAhead) (maxL := 3) (ret := (some .boolean)) (by decide) rfl ?_
  intro p e s m args below meth c s₁ B hml hv
  obtain ⟨rfl, hsz, hP, hK, hD0⟩ := hv
  have hx := B.exec
  have hb := B.bytes
  have hr := B.returns
  have hts := atoms_spec (ws := (.code yX8_binaryAhead cX8_binaryAhead 3 (some .boolean) :: VS_h4)) B.pre
  replace hts := fun w (h : w ∈ VS_h4) => hts w (List.mem_cons_of_mem _ h)
  have hown : s.vm.findClass RX8 = some m.cls := findClass_of_methodNamed B.named
  have hlocks := B.notSynchronized
  subst hsz
  have hD := hD0.self (sz := s.heap.size)
  generalize hAe : va_A [(h0, .inr (8, [.ref qf0, .ref qf1])), (qf0, .inr (9, [.ref qf0_0, .ref qf0_1, .ref qf0_2, .int v0_3, .ref qf0_4, .ref qf0_5, .ref qf0_6, .ref qf0_7, .ref qf0_8, .int v0_9, .int v0_10, .int v0_11, .int v0_12])), (qf0_0, .inl (cf0_0, 3001, .inl f0_0))] s.heap.size = A at hD  ⊢
  have hA : ∀ q : Nat, s.heap.size ≤ q → A q := fun q h => by rw [← hAe]; exact Or.inr h
  have hP : va_P (dC, dI) vwCl [(h0, .inr (8, [.ref qf0, .ref qf1])), (qf0, .inr (9, [.ref qf0_0, .ref qf0_1, .ref qf0_2, .int v0_3, .ref qf0_4, .ref qf0_5, .ref qf0_6, .ref qf0_7, .ref qf0_8, .int v0_9, .int v0_10, .int v0_11, .int v0_12])), (qf0_0, .inl (cf0_0, 3001, .inl f0_0))] s.heap := hP
  have hl := lv_entry ([.ref h0, .int a1]) (n := 3) (Nat.le_of_ble_eq_true rfl)
  rw [lg_entry_eq]
  generalize (lg_sl ([.ref h0, .int a1]) ++ List.replicate (3 - (lg_sl ([.ref h0, .int a1])).length) Slot.unset).toArray = ls at hl ⊢
  have hl : lv_has ls 3 [(0, .ref h0), (1, .int a1)] := hl
  obtain ⟨H, hH⟩ : ∃ H : Heap, s.heap = H := ⟨_, rfl⟩
  rw [hH] at hP ⊢
  have hS : va_S A s.heap H [] := by rw [← hH]; exact va_S.rf
  obtain ⟨locs, hlo⟩ : ∃ locs : List Loc, locs = [] := ⟨_, rfl⟩
  rw [← hlo] at hS ⊢
  unfold sp_t8_binaryAhead at hsp
  refine lv_aload_n hx hb dX8_binaryAhead_0 rfl (lv_at hl 0 rfl) ?_
  refine va_get (D := (dC, dI)) (ci := 8) (v := .ref qf0) (C := RX8) (T := TX8) (N := 2) hx hb hts uV_h4_X8 hown hK hP 0 rfl rfl 0 (by decide) (hts (.fieldLink RX8 7 "ClassMill$Syntax" "text" "LClassMill$Text;") mw_h4_465) (fun _ h9 => h9) rfl dX8_binaryAhead_1 ?_
  obtain ⟨u1_0, hu_1, hsp⟩ := ox_bind hsp
  try dsimp only at hsp
  have hPc := hP.sub (ws' := [(qf0, .inr (9, [.ref qf0_0, .ref qf0_1, .ref qf0_2, .int v0_3, .ref qf0_4, .ref qf0_5, .ref qf0_6, .ref qf0_7, .ref qf0_8, .int v0_9, .int v0_10, .int v0_11, .int v0_12])), (qf0_0, .inl (cf0_0, 3001, .inl f0_0))]) [1, 2] rfl
  have hDc := hD.sub (ws' := [(qf0, .inr (9, [.ref qf0_0, .ref qf0_1, .ref qf0_2, .int v0_3, .ref qf0_4, .ref qf0_5, .ref qf0_6, .ref qf0_7, .ref qf0_8, .int v0_9, .int v0_10, .int v0_11, .int v0_12])), (qf0_0, .inl (cf0_0, 3001, .inl f0_0))]) [1, 2] (by decide) rfl
  have hKc := hK.sub (tys' := [(cf0_0, .int)]) [0] rfl
  have hFc := va_free (wc := [(qf0, .inr (9, [.ref qf0_0, .ref qf0_1, .ref qf0_2, .int v0_3, .ref qf0_4, .ref qf0_5, .ref qf0_6, .ref qf0_7, .ref qf0_8, .int v0_9, .int v0_10, .int v0_11, .int v0_12])), (qf0_0, .inl (cf0_0, 3001, .inl f0_0))]) hD hS hA [1, 2] rfl
  refine va_calli (va_runV (As := []) (rest := []) ⟨hx, hb, hml, hown, hts⟩ (t9_kind l dC dI H.size qf0 qf0_0 qf0_1 qf0_2 v0_3 qf0_4 qf0_5 qf0_6 qf0_7 qf0_8 v0_9 v0_10 v0_11 v0_12 cf0_0 f0_0 nf u1_0 hu_1) (cwV 0 hts gv_h4_122 rfl rfl rfl (by decide +kernel) ⟨Nat.le_of_ble_eq_true rfl, Nat.le_of_ble_eq_true rfl⟩) ⟨fun a U g mk q => by obtain ⟨q0, q1, qP, qK, qD⟩ := q; exact ⟨q0, q1, qP, va_K.moved (u := U) (U := U.calling g mk a) (Vm.Alike.refl U.vm) qK, qD⟩, va_recv hKc hPc (ci := 9) (q0 := 0) rfl rfl, fun U hU hW => ⟨rfl, by rw [hU], by rw [hU]; exact hPc, va_K.moved hW.alike hKc, hDc.weaken (fun _ _ _ _ => trivial)⟩⟩ rfl rfl hl.1 rfl (lv_room (Nat.le_of_ble_eq_true rfl)) dX8_binaryAhead_4 ⟨Nat.le_of_ble_eq_true rfl, Nat.le_of_ble_eq_true rfl⟩) hS (fun q _ h => hFc q h) hFc ?_
  clear hS
  intro r_1 u t H1 locs ht hvm hw hB hz1 hk1 hS
  obtain ⟨⟩ := u
  obtain ⟨hP1, hK1, hD1⟩ := hB
  rw [ht] at hP1
  have hK1 := va_K.moved hvm.symm hK1
  try dsimp only at hw
  have hPD := va_join (wr := [(h0, .inr (8, [.ref qf0, .ref qf1]))]) (w1 := [(qf0, .inr (9, [.ref qf0_0, .ref qf0_1, .ref qf0_2, .int v0_3, .ref qf0_4, .ref qf0_5, .ref qf0_6, .ref qf0_7, .ref qf0_8, .int v0_9, .int v0_10, .int v0_11, .int v0_12])), (qf0_0, .inl (cf0_0, 3001, .inl f0_0))]) hP hD [1, 2] [0] rfl rfl (by decide) (by decide) hk1 hFc hP1 hD1
  clear hP hD
  obtain ⟨hP, hD⟩ := hPD
  replace hK := (hK.sub (tys' := []) [] rfl).app hK1
  clear hPc hDc hKc hFc hP1 hK1 hD1 hz1 hk1 ht hvm
  generalize H1 = H at hP hS ⊢
  replace hP : va_P (dC, dI) vwCl [(h0, .inr (8, [.ref qf0, .ref qf1])), (qf0, .inr (9, [.ref qf0_0, .ref qf0_1, .ref qf0_2, .int v0_3, .ref qf0_4, .ref qf0_5, .ref qf0_6, .ref qf0_7, .ref qf0_8, .int v0_9, .int v0_10, .int v0_11, .int v0_12])), (qf0_0, .inl (cf0_0, 3001, .inl f0_0))] H := hP
  replace hD : va_D A [(h0, .inr (8, [.ref qf0, .ref qf1])), (qf0, .inr (9, [.ref qf0_0, .ref qf0_1, .ref qf0_2, .int v0_3, .ref qf0_4, .ref qf0_5, .ref qf0_6, .ref qf0_7, .ref qf0_8, .int v0_9, .int v0_10, .int v0_11, .int v0_12])), (qf0_0, .inl (cf0_0, 3001, .inl f0_0))] := hD
  replace hK : va_K (dC, dI) vwCl [(cf0_0, .int)] s := hK
  obtain rfl := hw
  obtain ⟨u2_0, hu_2, hsp⟩ := ox_bind hsp
  try dsimp only at hsp
  have hPc := hP.sub (ws' := []) [] rfl
  have hDc := hD.sub (ws' := []) [] (by decide) rfl
  have hKc := hK.sub (tys' := []) [] rfl
  have hFc := va_free (wc := []) hD hS hA [] rfl
  refine va_calli (va_runS (As := [.int u1_0]) (rest := []) ⟨hx, hb, hml, hown, hts⟩ (t9_level l dC dI H.size u1_0 nf u2_0 hu_2) (va_cwS 1 hts gv_h4_129 rfl rfl rfl (by decide +kernel) ⟨Nat.le_of_ble_eq_true rfl, Nat.le_of_ble_eq_true rfl⟩) ⟨fun a U g mk q => by obtain ⟨q0, q1, qP, qK, qD⟩ := q; exact ⟨q0, q1, qP, va_K.moved (u := U) (U := U.calling g mk a) (Vm.Alike.refl U.vm) qK, qD⟩, fun U hU hW => ⟨rfl, by rw [hU], by rw [hU]; exact hPc, va_K.moved hW.alike hKc, hDc.weaken (fun _ _ _ _ => trivial)⟩⟩ rfl rfl hl.1 rfl (lv_room (Nat.le_of_ble_eq_true rfl)) dX8_binaryAhead_7 ⟨Nat.le_of_ble_eq_true rfl, Nat.le_of_ble_eq_true rfl⟩) hS (fun q _ h => hFc q h) hFc ?_
  clear hS
  intro r_2 u t H1 locs ht hvm hw hB hz1 hk1 hS
  obtain ⟨⟩ := u
  obtain ⟨hP1, hK1, hD1⟩ := hB
  rw [ht] at hP1
  have hK1 := va_K.moved hvm.symm hK1
  try dsimp only at hw
  have hPD := va_join (wr := [(h0, .inr (8, [.ref qf0, .ref qf1])), (qf0, .inr (9, [.ref qf0_0, .ref qf0_1, .ref qf0_2, .int v0_3, .ref qf0_4, .ref qf0_5, .ref qf0_6, .ref qf0_7, .ref qf0_8, .int v0_9, .int v0_10, .int v0_11, .int v0_12])), (qf0_0, .inl (cf0_0, 3001, .inl f0_0))]) (w1 := []) hP hD [] [0, 1, 2] rfl rfl (by decide) (by decide) hk1 hFc hP1 hD1
  clear hP hD
  obtain ⟨hP, hD⟩ := hPD
  replace hK := (hK.sub (tys' := [(cf0_0, .int)]) [0] rfl).app hK1
  clear hPc hDc hKc hFc hP1 hK1 hD1 hz1 hk1 ht hvm
  generalize H1 = H at hP hS ⊢
  replace hP : va_P (dC, dI) vwCl [(h0, .inr (8, [.ref qf0, .ref qf1])), (qf0, .inr (9, [.ref qf0_0, .ref qf0_1, .ref qf0_2, .int v0_3, .ref qf0_4, .ref qf0_5, .ref qf0_6, .ref qf0_7, .ref qf0_8, .int v0_9, .int v0_10, .int v0_11, .int v0_12])), (qf0_0, .inl (cf0_0, 3001, .inl f0_0))] H := hP
  replace hD : va_D A [(h0, .inr (8, [.ref qf0, .ref qf1])), (qf0, .inr (9, [.ref qf0_0, .ref qf0_1, .ref qf0_2, .int v0_3, .ref qf0_4, .ref qf0_5, .ref qf0_6, .ref qf0_7, .ref qf0_8, .int v0_9, .int v0_10, .int v0_11, .int v0_12])), (qf0_0, .inl (cf0_0, 3001, .inl f0_0))] := hD
  replace hK : va_K (dC, dI) vwCl [(cf0_0, .int)] s := hK
  obtain rfl := hw
  refine lv_istore_n (lv' := [(2, .int u2_0), (0, .ref h0), (1, .int a1)]) hx hb dX8_binaryAhead_10 rfl hl (by decide) rfl (fun ls hl => ?_)
  refine lv_iload_n hx hb dX8_binaryAhead_11 rfl (lv_at hl 0 rfl) ?_
  refine lv_if_le (tgt := 29) hx hb dX8_binaryAhead_12 (by decide) (fun c_3 => ?_) (fun c_3 => ?_)
  · rw [if_pos c_3] at hsp
    refine lv_iconst (v := 0) hx hb dX8_binaryAhead_29 (by decide) ?_
    have hr0 := Option.some.inj hsp
    clear hsp
    subst hr0
    have hP9 := hP.sub (ws' := [(h0, .inr (8, [.ref qf0, .ref qf1])), (qf0, .inr (9, [.ref qf0_0, .ref qf0_1, .ref qf0_2, .int v0_3, .ref qf0_4, .ref qf0_5, .ref qf0_6, .ref qf0_7, .ref qf0_8, .int v0_9, .int v0_10, .int v0_11, .int v0_12])), (qf0_0, .inl (cf0_0, 3001, .inl f0_0))]) [0, 1, 2] rfl
    have hD9 := hD.sub (ws' := [(h0, .inr (8, [.ref qf0, .ref qf1])), (qf0, .inr (9, [.ref qf0_0, .ref qf0_1, .ref qf0_2, .int v0_3, .ref qf0_4, .ref qf0_5, .ref qf0_6, .ref qf0_7, .ref qf0_8, .int v0_9, .int v0_10, .int v0_11, .int v0_12])), (qf0_0, .inl (cf0_0, 3001, .inl f0_0))]) [0, 1, 2] (by decide) rfl
    have hK9 := hK.sub (tys' := [(cf0_0, .int)]) [0] rfl
    exact W.zret hx hb hr (by decide) (fun t ht hW => ⟨⟨(0), (), rfl, ⟨rfl, Or.inl rfl⟩, by rw [ht]; exact hP9, va_K.moved hW.alike hK9, hD9⟩, hS.F ht⟩) hS.2.2 dX8_binaryAhead_30
  · rw [if_neg c_3] at hsp
    refine lv_iload_n hx hb dX8_binaryAhead_15 rfl (lv_at hl 2 rfl) ?_
    refine lv_if_ne (tgt := 25) hx hb dX8_binaryAhead_16 (by decide) (fun c_4 => ?_) (fun c_4 => ?_)
    · rw [if_neg c_4] at hsp
      refine lv_iconst (v := 1) hx hb dX8_binaryAhead_25 (by decide) ?_
      refine lv_goto (tgt := 30) hx hb dX8_binaryAhead_26 (by decide) ?_
      have hr0 := Option.some.inj hsp
      clear hsp
      subst hr0
      have hP9 := hP.sub (ws' := [(h0, .inr (8, [.ref qf0, .ref qf1])), (qf0, .inr (9, [.ref qf0_0, .ref qf0_1, .ref qf0_2, .int v0_3, .ref qf0_4, .ref qf0_5, .ref qf0_6, .ref qf0_7, .ref qf0_8, .int v0_9, .int v0_10, .int v0_11, .int v0_12])), (qf0_0, .inl (cf0_0, 3001, .inl f0_0))]) [0, 1, 2] rfl
      have hD9 := hD.sub (ws' := [(h0, .inr (8, [.ref qf0, .ref qf1])), (qf0, .inr (9, [.ref qf0_0, .ref qf0_1, .ref qf0_2, .int v0_3, .ref qf0_4, .ref qf0_5, .ref qf0_6, .ref qf0_7, .ref qf0_8, .int v0_9, .int v0_10, .int v0_11, .int v0_12])), (qf0_0, .inl (cf0_0, 3001, .inl f0_0))]) [0, 1, 2] (by decide) rfl
      have hK9 := hK.sub (tys' := [(cf0_0, .int)]) [0] rfl
      exact W.zret hx hb hr (by decide) (fun t ht hW => ⟨⟨(1), (), rfl, ⟨rfl, Or.inr rfl⟩, by rw [ht]; exact hP9, va_K.moved hW.alike hK9, hD9⟩, hS.F ht⟩) hS.2.2 dX8_binaryAhead_30
    · rw [if_pos c_4] at hsp
      refine lv_iload_n hx hb dX8_binaryAhead_19 rfl (lv_at hl 0 rfl) ?_
      refine lv_bipush (v := 7) hx hb dX8_binaryAhead_20 (by decide) ?_
      refine lv_icmp_gt (tgt := 29) hx hb dX8_binaryAhead_22 (by decide) (fun c_5 => ?_) (fun c_5 => ?_)
      · rw [if_pos c_5] at hsp
        refine lv_iconst (v := 0) hx hb dX8_binaryAhead_29 (by decide) ?_
        have hr0 := Option.some.inj hsp
        clear hsp
        subst hr0
        have hP9 := hP.sub (ws' := [(h0, .inr (8, [.ref qf0, .ref qf1])), (qf0, .inr (9, [.ref qf0_0, .ref qf0_1, .ref qf0_2, .int v0_3, .ref qf0_4, .ref qf0_5, .ref qf0_6, .ref qf0_7, .ref qf0_8, .int v0_9, .int v0_10, .int v0_11, .int v0_12])), (qf0_0, .inl (cf0_0, 3001, .inl f0_0))]) [0, 1, 2] rfl
        have hD9 := hD.sub (ws' := [(h0, .inr (8, [.ref qf0, .ref qf1])), (qf0, .inr (9, [.ref qf0_0, .ref qf0_1, .ref qf0_2, .int v0_3, .ref qf0_4, .ref qf0_5, .ref qf0_6, .ref qf0_7, .ref qf0_8, .int v0_9, .int v0_10, .int v0_11, .int v0_12])), (qf0_0, .inl (cf0_0, 3001, .inl f0_0))]) [0, 1, 2] (by decide) rfl
        have hK9 := hK.sub (tys' := [(cf0_0, .int)]) [0] rfl
        exact W.zret hx hb hr (by decide) (fun t ht hW => ⟨⟨(0), (), rfl, ⟨rfl, Or.inl rfl⟩, by rw [ht]; exact hP9, va_K.moved hW.alike hK9, hD9⟩, hS.F ht⟩) hS.2.2 dX8_binaryAhead_30
      · rw [if_neg c_5] at hsp
        refine lv_iconst (v := 1) hx hb dX8_binaryAhead_25 (by decide) ?_
        refine lv_goto (tgt := 30) hx hb dX8_binaryAhead_26 (by decide) ?_
        have hr0 := Option.some.inj hsp
        clear hsp
        subst hr0
        have hP9 := hP.sub (ws' := [(h0, .inr (8, [.ref qf0, .ref qf1])), (qf0, .inr (9, [.ref qf0_0, .ref qf0_1, .ref qf0_2, .int v0_3, .ref qf0_4, .ref qf0_5, .ref qf0_6, .ref qf0_7, .ref qf0_8, .int v0_9, .int v0_10, .int v0_11, .int v0_12])), (qf0_0, .inl (cf0_0, 3001, .inl f0_0))]) [0, 1, 2] rfl
        have hD9 := hD.sub (ws' := [(h0, .inr (8, [.ref qf0, .ref qf1])), (qf0, .inr (9, [.ref qf0_0, .ref qf0_1, .ref qf0_2, .int v0_3, .ref qf0_4, .ref qf0_5, .ref qf0_6, .ref qf0_7, .ref qf0_8, .int v0_9, .int v0_10, .int v0_11, .int v0_12])), (qf0_0, .inl (cf0_0, 3001, .inl f0_0))]) [0, 1, 2] (by decide) rfl
        have hK9 := hK.sub (tys' := [(cf0_0, .int)]) [0] rfl
        exact W.zret hx hb hr (by decide) (fun t ht hW => ⟨⟨(1), (), rfl, ⟨rfl, Or.inr rfl⟩, by rw [ht]; exact hP9, va_K.moved hW.alike hK9, hD9⟩, hS.F ht⟩) hS.2.2 dX8_binaryAhead_30
def lp_t8_readParameters_4 (nf n : Nat) (v0_3 : Int32) (v0_10 : Int32) (v0_11 : Int32) (v0_12 : Int32) (f0_0 : Nat → Int32) (f0_1 : Nat → Int32)  (l1_4 : Int32) (l2_4 : Int32) (x0_10_4 : Int32) (x0_11_4 : Int32) (x0_12_4 : Int32) : Option (Int32 × Int32 × Int32) := match n with
  | 0 => none
  | n + 1 => (if 3000 ≤ l2_4 then (some (x0_10_4, x0_11_4, x0_12_4)) else (if l1_4 = 0 then (some (x0_10_4, x0_11_4, x0_12_4)) else ((sp_t8_readType nf v0_3 x0_10_4 x0_11_4 x0_12_4 f0_0 f0_1).bind (fun p1 => ((sp_t8_need nf 2 v0_3 p1.1 p1.2.1 p1.2.2 f0_0 f0_1).bind (fun p2 => ((sp_t8_accept nf 47 v0_3 p2.1 p2.2.1 f0_0).bind (fun p3 => (if p3.1 = 0 then (lp_t8_readParameters_4 nf n v0_3 v0_10 v0_11 v0_12 f0_0 f0_1 0 (l2_4 + 1) p3.2 p2.2.1 p2.2.2) else (lp_t8_readParameters_4 nf n v0_3 v0_10 v0_11 v0_12 f0_0 f0_1 1 (l2_4 + 1) p3.2 p2.2.1 p2.2.2))))))))))
def sp_t8_readParameters (nf : Nat) (v0_3 : Int32) (v0_10 : Int32) (v0_11 : Int32) (v0_12 : Int32) (f0_0 : Nat → Int32) (f0_1 : Nat → Int32) : Option (Int32 × Int32 × Int32) := (lp_t8_readParameters_4 nf nf v0_3 v0_10 v0_11 v0_12 f0_0 f0_1 1 0 v0_10 v0_11 v0_12)
set_option maxHeartbeats 4000000 in
set_option maxRecDepth 100000 in
/-- ClassMill$Syntax.readParameters -/
theorem t8_readParameters (l : Launch) (dC : Nat → ClassId) (dI : Nat → Nat → Nat) (sz : Nat) (h0 : Nat) (qf0 : Nat) (qf1 : Nat) (qf0_0 : Nat) (qf0_1 : Nat) (qf0_2 : Nat) (v0_3 : Int32) (qf0_4 : Nat) (qf0_5 : Nat) (qf0_6 : Nat) (qf0_7 : Nat) (qf0_8 : Nat) (v0_9 : Int32) (v0_10 : Int32) (v0_11 : Int32) (v0_12 : Int32) (cf0_0 : ClassId) (f0_0 : (Nat → Int32)) (cf0_1 : ClassId) (f0_1 : (Nat → Int32)) (nf : Nat) (w0_10 : Int32) (w0_11 : Int32) (w0_12 : Int32) (hsp : sp_t8_readParameters nf v0_3 v0_10 v0_11 v0_12 f0_0 f0_1 = some (w0_10, w0_11, w0_12)) : Met l yX8_readParameters (.code yX8_readParameters cX8_readParameters 3 none :: VS_h4) ({ frames := 3, cells := 0, slots := 0, locals := 62 }) (va_Pc [.ref h0] (fun U => U.heap.size = sz ∧ va_P (dC, dI) vwCl [(h0, .inr (8, [.ref qf0, .ref qf1])), (qf0, .inr (9, [.ref qf0_0, .ref qf0_1, .ref qf0_2, .int v0_3, .ref qf0_4, .ref qf0_5, .ref qf0_6, .ref qf0_7, .ref qf0_8, .int v0_9, .int v0_10, .int v0_11, .int v0_12])), (qf0_0, .inl (cf0_0, 3001, .inl f0_0)), (qf0_1, .inl (cf0_1, 3001, .inl f0_1))] U.heap ∧ va_K (dC, dI) vwCl [(cf0_0, .int), (cf0_1, .int)] U ∧ va_D (fun _ => True) [(h0, .inr (8, [.ref qf0, .ref qf1])), (qf0, .inr (9, [.ref qf0_0, .ref qf0_1, .ref qf0_2, .int v0_3, .ref qf0_4, .ref qf0_5, .ref qf0_6, .ref qf0_7, .ref qf0_8, .int v0_9, .int v0_10, .int v0_11, .int v0_12])), (qf0_0, .inl (cf0_0, 3001, .inl f0_0)), (qf0_1, .inl (cf0_1, 3001, .inl f0_1))])) (va_Qv (fun (u : Unit) => match u with | () => True) (fun (u : Unit) (t : State) => match u with | () => va_P (dC, dI) vwCl [(h0, .inr (8, [.ref qf0, .ref qf1])), (qf0, .inr (9, [.ref qf0_0, .ref qf0_1, .ref qf0_2, .int v0_3, .ref qf0_4, .ref qf0_5, .ref qf0_6, .ref qf0_7, .ref qf0_8, .int v0_9, .int w0_10, .int w0_11, .int w0_12])), (qf0_0, .inl (cf0_0, 3001, .inl f0_0)), (qf0_1, .inl (cf0_1, 3001, .inl f0_1))] t.heap ∧ va_K (dC, dI) vwCl [(cf0_0, .int), (cf0_1, .int)] t ∧ va_D (va_A [(h0, .inr (8, [.ref qf0, .ref qf1])), (qf0, .inr (9, [.ref qf0_0, .ref qf0_1, .ref qf0_2, .int v0_3, .ref qf0_4, .ref qf0_5, .ref qf0_6, .ref qf0_7, .ref qf0_8, .int v0_9, .int v0_10, .int v0_11, .int v0_12])), (qf0_0, .inl (cf0_0, 3001, .inl f0_0)), (qf0_1, .inl (cf0_1, 3001, .inl f0_1))] sz) [(h0, .inr (8, [.ref qf0, .ref qf1])), (qf0, .inr (9, [.ref qf0_0, .ref qf0_1, .ref qf0_2, .int v0_3, .ref qf0_4, .ref qf0_5, .ref qf0_6, .ref qf0_7, .ref qf0_8, .int v0_9, .int w0_10, .int w0_11, .int w0_12])), (qf0_0, .inl (cf0_0, 3001, .inl f0_0)), (qf0_1, .inl (cf0_1, 3001, .inl f0_1))]) (va_A [(h0, .inr (8, [.ref qf0, .ref qf1])), (qf0, .inr (9, [.ref qf0_0, .ref qf0_1, .ref qf0_2, .int v0_3, .ref qf0_4, .ref qf0_5, .ref qf0_6, .ref qf0_7, .ref qf0_8, .int v0_9, .int v0_10, .int v0_11, .int v0_12])), (qf0_0, .inl (cf0_0, 3001, .inl f0_0)), (qf0_1, .inl (cf0_1, 3001, .inl f0_1))] sz)) 0 0 (va_A [(h0, .inr (8, [.ref qf0, .ref qf1])), (qf0, .inr (9, [.ref qf0_0, .ref qf0_1, .ref qf0_2, .int v0_3, .ref qf0_4, .ref qf0_5, .ref qf0_6, .ref qf0_7, .ref qf0_8, .int v0_9, .int v0_10, .int v0_11, .int v0_12])), (qf0_0, .inl (cf0_0, 3001, .inl f0_0)), (qf0_1, .inl (cf0_1, 3001, .inl f0_1))] sz) := by
  refine Met.ofW (cc := cX8_readParameters) (maxL := 3) (ret := none) (by decide) rfl ?_
  intro p e s m args below meth c s₁ B hml hv
  obtain ⟨rfl, hsz, hP, hK, hD0⟩ := hv
  have hx := B.exec
  have hb := B.bytes
  have hr := B.returns
  have hts := atoms_spec (ws := (.code yX8_readParameters cX8_readParameters 3 none :: VS_h4)) B.pre
  replace hts := fun w (h : w ∈ VS_h4) => hts w (List.mem_cons_of_mem _ h)
  have hown : s.vm.findClass RX8 = some m.cls := findClass_of_methodNamed B.named
  have hlocks := B.notSynchronized
  subst hsz
  have hD := hD0.self (sz := s.heap.size)
  generalize hAe : va_A [(h0, .inr (8, [.ref qf0, .ref qf1])), (qf0, .inr (9, [.ref qf0_0, .ref qf0_1, .ref qf0_2, .int v0_3, .ref qf0_4, .ref qf0_5, .ref qf0_6, .ref qf0_7, .ref qf0_8, .int v0_9, .int v0_10, .int v0_11, .int v0_12])), (qf0_0, .inl (cf0_0, 3001, .inl f0_0)), (qf0_1, .inl (cf0_1, 3001, .inl f0_1))] s.heap.size = A at hD  ⊢
  have hA : ∀ q : Nat, s.heap.size ≤ q → A q := fun q h => by rw [← hAe]; exact Or.inr h
  have hP : va_P (dC, dI) vwCl [(h0, .inr (8, [.ref qf0, .ref qf1])), (qf0, .inr (9, [.ref qf0_0, .ref qf0_1, .ref qf0_2, .int v0_3, .ref qf0_4, .ref qf0_5, .ref qf0_6, .ref qf0_7, .ref qf0_8, .int v0_9, .int v0_10, .int v0_11, .int v0_12])), (qf0_0, .inl (cf0_0, 3001, .inl f0_0)), (qf0_1, .inl (cf0_1, 3001, .inl f0_1))] s.heap := hP
  have hl := lv_entry ([.ref h0]) (n := 3) (Nat.le_of_ble_eq_true rfl)
  rw [lg_entry_eq]
  generalize (lg_sl ([.ref h0]) ++ List.replicate (3 - (lg_sl ([.ref h0])).length) Slot.unset).toArray = ls at hl ⊢
  have hl : lv_has ls 3 [(0, .ref h0)] := hl
  obtain ⟨H, hH⟩ : ∃ H : Heap, s.heap = H := ⟨_, rfl⟩
  rw [hH] at hP ⊢
  have hS : va_S A s.heap H [] := by rw [← hH]; exact va_S.rf
  obtain ⟨locs, hlo⟩ : ∃ locs : List Loc, locs = [] := ⟨_, rfl⟩
  rw [← hlo] at hS ⊢
  unfold sp_t8_readParameters at hsp
  refine lv_iconst (v := 1) hx hb dX8_readParameters_0 (by decide) ?_
  refine lv_istore_n (lv' := [(1, .int 1), (0, .ref h0)]) hx hb dX8_readParameters_1 rfl hl (by decide) rfl (fun ls hl => ?_)
  refine lv_iconst (v := 0) hx hb dX8_readParameters_2 (by decide) ?_
  refine lv_istore_n (lv' := [(2, .int 0), (1, .int 1), (0, .ref h0)]) hx hb dX8_readParameters_3 rfl hl (by decide) rfl (fun ls hl => ?_)
  replace hP := hP.sub (ws' := [(h0, .inr (8, [.ref qf0, .ref qf1])), (qf0, .inr (9, [.ref qf0_0, .ref qf0_1, .ref qf0_2, .int v0_3, .ref qf0_4, .ref qf0_5, .ref qf0_6, .ref qf0_7, .ref qf0_8, .int v0_9, .int v0_10, .int v0_11, .int v0_12])), (qf0_0, .inl (cf0_0, 3001, .inl f0_0)), (qf0_1, .inl (cf0_1, 3001, .inl f0_1))]) [0, 1, 2, 3] rfl
  replace hD := hD.sub (ws' := [(h0, .inr (8, [.ref qf0, .ref qf1])), (qf0, .inr (9, [.ref qf0_0, .ref qf0_1, .ref qf0_2, .int v0_3, .ref qf0_4, .ref qf0_5, .ref qf0_6, .ref qf0_7, .ref qf0_8, .int v0_9, .int v0_10, .int v0_11, .int v0_12])), (qf0_0, .inl (cf0_0, 3001, .inl f0_0)), (qf0_1, .inl (cf0_1, 3001, .inl f0_1))]) [0, 1, 2, 3] (by decide) rfl
  replace hK := hK.sub (tys' := [(cf0_0, .int), (cf0_1, .int)]) [0, 1] rfl
  obtain ⟨n_4, hn_4⟩ : ∃ z : Nat, z = nf := ⟨_, rfl⟩
  obtain ⟨l1_4, el1_4⟩ : ∃ z : Int32, z = 1 := ⟨_, rfl⟩
  obtain ⟨l2_4, el2_4⟩ : ∃ z : Int32, z = 0 := ⟨_, rfl⟩
  obtain ⟨x0_10_4, ex0_10_4⟩ : ∃ z : Int32, z = v0_10 := ⟨_, rfl⟩
  obtain ⟨x0_11_4, ex0_11_4⟩ : ∃ z : Int32, z = v0_11 := ⟨_, rfl⟩
  obtain ⟨x0_12_4, ex0_12_4⟩ : ∃ z : Int32, z = v0_12 := ⟨_, rfl⟩
  replace hsp : lp_t8_readParameters_4 nf n_4 v0_3 v0_10 v0_11 v0_12 f0_0 f0_1 l1_4 l2_4 x0_10_4 x0_11_4 x0_12_4 = some (w0_10, w0_11, w0_12) := by rw [hn_4, el1_4, el2_4, ex0_10_4, ex0_11_4, ex0_12_4]; exact hsp
  replace hl : lv_has ls 3 [(2, .int l2_4), (1, .int l1_4), (0, .ref h0)] := by rw [el1_4, el2_4]; exact hl
  replace hP : va_P (dC, dI) vwCl [(h0, .inr (8, [.ref qf0, .ref qf1])), (qf0, .inr (9, [.ref qf0_0, .ref qf0_1, .ref qf0_2, .int v0_3, .ref qf0_4, .ref qf0_5, .ref qf0_6, .ref qf0_7, .ref qf0_8, .int v0_9, .int x0_10_4, .int x0_11_4, .int x0_12_4])), (qf0_0, .inl (cf0_0, 3001, .inl f0_0)), (qf0_1, .inl (cf0_1, 3001, .inl f0_1))] H := by rw [ex0_10_4, ex0_11_4, ex0_12_4]; exact hP
  replace hD : va_D A [(h0, .inr (8, [.ref qf0, .ref qf1])), (qf0, .inr (9, [.ref qf0_0, .ref qf0_1, .ref qf0_2, .int v0_3, .ref qf0_4, .ref qf0_5, .ref qf0_6, .ref qf0_7, .ref qf0_8, .int v0_9, .int x0_10_4, .int x0_11_4, .int x0_12_4])), (qf0_0, .inl (cf0_0, 3001, .inl f0_0)), (qf0_1, .inl (cf0_1, 3001, .inl f0_1))] := by rw [ex0_10_4, ex0_11_4, ex0_12_4]; exact hD
  clear hn_4 el1_4 el2_4 ex0_10_4 ex0_11_4 ex0_12_4
  try clear hlo
  try clear hH
  revert hsp
  revert hP
  revert hD
  revert hS
  revert hl
  revert x0_12_4
  revert x0_11_4
  revert x0_10_4
  revert l2_4
  revert l1_4
  revert ls
  revert locs
  revert H
  induction n_4 with
  | zero => intro H locs ls l1_4 l2_4 x0_10_4 x0_11_4 x0_12_4 hl hS hD hP hsp; unfold lp_t8_readParameters_4 at hsp; cases hsp
  | succ n_4 ih_4 =>
    intro H locs ls l1_4 l2_4 x0_10_4 x0_11_4 x0_12_4 hl hS hD hP hsp
    unfold lp_t8_readParameters_4 at hsp
    try dsimp only at hsp
    refine lv_iload_n hx hb dX8_readParameters_4 rfl (lv_at hl 0 rfl) ?_
    refine lv_sipush (v := 3000) hx hb dX8_readParameters_5 (by decide) ?_
    refine lv_icmp_ge (tgt := 37) hx hb dX8_readParameters_8 (by decide) (fun c_1 => ?_) (fun c_1 => ?_)
    · rw [if_pos c_1] at hsp
      have hr0 := Option.some.inj hsp
      clear hsp
      obtain ⟨hq0, hr1⟩ := Prod.mk.inj hr0
      clear hr0
      obtain ⟨hq1, hr2⟩ := Prod.mk.inj hr1
      clear hr1
      subst hq0
      subst hq1
      subst hr2
      have hP9 := hP.sub (ws' := [(h0, .inr (8, [.ref qf0, .ref qf1])), (qf0, .inr (9, [.ref qf0_0, .ref qf0_1, .ref qf0_2, .int v0_3, .ref qf0_4, .ref qf0_5, .ref qf0_6, .ref qf0_7, .ref qf0_8, .int v0_9, .int x0_10_4, .int x0_11_4, .int x0_12_4])), (qf0_0, .inl (cf0_0, 3001, .inl f0_0)), (qf0_1, .inl (cf0_1, 3001, .inl f0_1))]) [0, 1, 2, 3] rfl
      have hD9 := hD.sub (ws' := [(h0, .inr (8, [.ref qf0, .ref qf1])), (qf0, .inr (9, [.ref qf0_0, .ref qf0_1, .ref qf0_2, .int v0_3, .ref qf0_4, .ref qf0_5, .ref qf0_6, .ref qf0_7, .ref qf0_8, .int v0_9, .int x0_10_4, .int x0_11_4, .int x0_12_4])), (qf0_0, .inl (cf0_0, 3001, .inl f0_0)), (qf0_1, .inl (cf0_1, 3001, .inl f0_1))]) [0, 1, 2, 3] (by decide) rfl
      have hK9 := hK.sub (tys' := [(cf0_0, .int), (cf0_1, .int)]) [0, 1] rfl
      exact W.vret hx hb hr (fun t ht hW => ⟨⟨(), rfl, trivial, by rw [ht]; exact hP9, va_K.moved hW.alike hK9, hD9⟩, hS.F ht⟩) hS.2.2 dX8_readParameters_37
    · rw [if_neg c_1] at hsp
      refine lv_iload_n hx hb dX8_readParameters_11 rfl (lv_at hl 1 rfl) ?_
      refine lv_if_eq (tgt := 37) hx hb dX8_readParameters_12 (by decide) (fun c_2 => ?_) (fun c_2 => ?_)
      · rw [if_pos c_2] at hsp
        have hr0 := Option.some.inj hsp
        clear hsp
        obtain ⟨hq0, hr1⟩ := Prod.mk.inj hr0
        clear hr0
        obtain ⟨hq1, hr2⟩ := Prod.mk.inj hr1
        clear hr1
        subst hq0
        subst hq1
        subst hr2
        have hP9 := hP.sub (ws' := [(h0, .inr (8, [.ref qf0, .ref qf1])), (qf0, .inr (9, [.ref qf0_0, .ref qf0_1, .ref qf0_2, .int v0_3, .ref qf0_4, .ref qf0_5, .ref qf0_6, .ref qf0_7, .ref qf0_8, .int v0_9, .int x0_10_4, .int x0_11_4, .int x0_12_4])), (qf0_0, .inl (cf0_0, 3001, .inl f0_0)), (qf0_1, .inl (cf0_1, 3001, .inl f0_1))]) [0, 1, 2, 3] rfl
        have hD9 := hD.sub (ws' := [(h0, .inr (8, [.ref qf0, .ref qf1])), (qf0, .inr (9, [.ref qf0_0, .ref qf0_1, .ref qf0_2, .int v0_3, .ref qf0_4, .ref qf0_5, .ref qf0_6, .ref qf0_7, .ref qf0_8, .int v0_9, .int x0_10_4, .int x0_11_4, .int x0_12_4])), (qf0_0, .inl (cf0_0, 3001, .inl f0_0)), (qf0_1, .inl (cf0_1, 3001, .inl f0_1))]) [0, 1, 2, 3] (by decide) rfl
        have hK9 := hK.sub (tys' := [(cf0_0, .int), (cf0_1, .int)]) [0, 1] rfl
        exact W.vret hx hb hr (fun t ht hW => ⟨⟨(), rfl, trivial, by rw [ht]; exact hP9, va_K.moved hW.alike hK9, hD9⟩, hS.F ht⟩) hS.2.2 dX8_readParameters_37
      · rw [if_neg c_2] at hsp
        refine lv_aload_n hx hb dX8_readParameters_15 rfl (lv_at hl 2 rfl) ?_
        obtain ⟨⟨u1_0, u1_1, u1_2⟩, hu_1, hsp⟩ := ox_bind hsp
        try dsimp only at hsp
        have hPc := hP.sub (ws' := [(h0, .inr (8, [.ref qf0, .ref qf1])), (qf0, .inr (9, [.ref qf0_0, .ref qf0_1, .ref qf0_2, .int v0_3, .ref qf0_4, .ref qf0_5, .ref qf0_6, .ref qf0_7, .ref qf0_8, .int v0_9, .int x0_10_4, .int x0_11_4, .int x0_12_4])), (qf0_0, .inl (cf0_0, 3001, .inl f0_0)), (qf0_1, .inl (cf0_1, 3001, .inl f0_1))]) [0, 1, 2, 3] rfl
        have hDc := hD.sub (ws' := [(h0, .inr (8, [.ref qf0, .ref qf1])), (qf0, .inr (9, [.ref qf0_0, .ref qf0_1, .ref qf0_2, .int v0_3, .ref qf0_4, .ref qf0_5, .ref qf0_6, .ref qf0_7, .ref qf0_8, .int v0_9, .int x0_10_4, .int x0_11_4, .int x0_12_4])), (qf0_0, .inl (cf0_0, 3001, .inl f0_0)), (qf0_1, .inl (cf0_1, 3001, .inl f0_1))]) [0, 1, 2, 3] (by decide) rfl
        have hKc := hK.sub (tys' := [(cf0_0, .int), (cf0_1, .int)]) [0, 1] rfl
        have hFc := va_free (wc := [(h0, .inr (8, [.ref qf0, .ref qf1])), (qf0, .inr (9, [.ref qf0_0, .ref qf0_1, .ref qf0_2, .int v0_3, .ref qf0_4, .ref qf0_5, .ref qf0_6, .ref qf0_7, .ref qf0_8, .int v0_9, .int x0_10_4, .int x0_11_4, .int x0_12_4])), (qf0_0, .inl (cf0_0, 3001, .inl f0_0)), (qf0_1, .inl (cf0_1, 3001, .inl f0_1))]) hD hS hA [0, 1, 2, 3] rfl
        refine va_callv (va_runV (As := []) (rest := []) ⟨hx, hb, hml, hown, hts⟩ (t8_readType l dC dI H.size h0 qf0 qf1 qf0_0 qf0_1 qf0_2 v0_3 qf0_4 qf0_5 qf0_6 qf0_7 qf0_8 v0_9 x0_10_4 x0_11_4 x0_12_4 cf0_0 f0_0 cf0_1 f0_1 nf u1_0 u1_1 u1_2 hu_1) (cwV 0 hts gv_h4_128 rfl rfl rfl (by decide +kernel) ⟨Nat.le_of_ble_eq_true rfl, Nat.le_of_ble_eq_true rfl⟩) ⟨fun a U g mk q => by obtain ⟨q0, q1, qP, qK, qD⟩ := q; exact ⟨q0, q1, qP, va_K.moved (u := U) (U := U.calling g mk a) (Vm.Alike.refl U.vm) qK, qD⟩, va_recv hKc hPc (ci := 8) (q0 := 0) rfl rfl, fun U hU hW => ⟨rfl, by rw [hU], by rw [hU]; exact hPc, va_K.moved hW.alike hKc, hDc.weaken (fun _ _ _ _ => trivial)⟩⟩ rfl rfl hl.1 rfl (lv_room (Nat.le_of_ble_eq_true rfl)) dX8_readParameters_16 ⟨Nat.le_of_ble_eq_true rfl, Nat.le_of_ble_eq_true rfl⟩) hS (fun q _ h => hFc q h) hFc ?_
        clear hS
        intro u t H1 locs ht hvm hw hB hz1 hk1 hS
        obtain ⟨⟩ := u
        obtain ⟨hP1, hK1, hD1⟩ := hB
        rw [ht] at hP1
        have hK1 := va_K.moved hvm.symm hK1
        try dsimp only at hw
        have hPD := va_join (wr := []) (w1 := [(h0, .inr (8, [.ref qf0, .ref qf1])), (qf0, .inr (9, [.ref qf0_0, .ref qf0_1, .ref qf0_2, .int v0_3, .ref qf0_4, .ref qf0_5, .ref qf0_6, .ref qf0_7, .ref qf0_8, .int v0_9, .int u1_0, .int u1_1, .int u1_2])), (qf0_0, .inl (cf0_0, 3001, .inl f0_0)), (qf0_1, .inl (cf0_1, 3001, .inl f0_1))]) hP hD [0, 1, 2, 3] [] rfl rfl (by decide) (by decide) hk1 hFc hP1 hD1
        clear hP hD
        obtain ⟨hP, hD⟩ := hPD
        replace hK := (hK.sub (tys' := []) [] rfl).app hK1
        clear hPc hDc hKc hFc hP1 hK1 hD1 hz1 hk1 ht hvm
        generalize H1 = H at hP hS ⊢
        replace hP : va_P (dC, dI) vwCl [(h0, .inr (8, [.ref qf0, .ref qf1])), (qf0, .inr (9, [.ref qf0_0, .ref qf0_1, .ref qf0_2, .int v0_3, .ref qf0_4, .ref qf0_5, .ref qf0_6, .ref qf0_7, .ref qf0_8, .int v0_9, .int u1_0, .int u1_1, .int u1_2])), (qf0_0, .inl (cf0_0, 3001, .inl f0_0)), (qf0_1, .inl (cf0_1, 3001, .inl f0_1))] H := hP
        replace hD : va_D A [(h0, .inr (8, [.ref qf0, .ref qf1])), (qf0, .inr (9, [.ref qf0_0, .ref qf0_1, .ref qf0_2, .int v0_3, .ref qf0_4, .ref qf0_5, .ref qf0_6, .ref qf0_7, .ref qf0_8, .int v0_9, .int u1_0, .int u1_1, .int u1_2])), (qf0_0, .inl (cf0_0, 3001, .inl f0_0)), (qf0_1, .inl (cf0_1, 3001, .inl f0_1))] := hD
        replace hK : va_K (dC, dI) vwCl [(cf0_0, .int), (cf0_1, .int)] s := hK
        refine lv_aload_n hx hb dX8_readParameters_19 rfl (lv_at hl 2 rfl) ?_
        refine lv_iconst (v := 2) hx hb dX8_readParameters_20 (by decide) ?_
        obtain ⟨⟨u2_0, u2_1, u2_2⟩, hu_2, hsp⟩ := ox_bind hsp
        try dsimp only at hsp
        have hPc := hP.sub (ws' := [(h0, .inr (8, [.ref qf0, .ref qf1])), (qf0, .inr (9, [.ref qf0_0, .ref qf0_1, .ref qf0_2, .int v0_3, .ref qf0_4, .ref qf0_5, .ref qf0_6, .ref qf0_7, .ref qf0_8, .int v0_9, .int u1_0, .int u1_1, .int u1_2])), (qf0_0, .inl (cf0_0, 3001, .inl f0_0)), (qf0_1, .inl (cf0_1, 3001, .inl f0_1))]) [0, 1, 2, 3] rfl
        have hDc := hD.sub (ws' := [(h0, .inr (8, [.ref qf0, .ref qf1])), (qf0, .inr (9, [.ref qf0_0, .ref qf0_1, .ref qf0_2, .int v0_3, .ref qf0_4, .ref qf0_5, .ref qf0_6, .ref qf0_7, .ref qf0_8, .int v0_9, .int u1_0, .int u1_1, .int u1_2])), (qf0_0, .inl (cf0_0, 3001, .inl f0_0)), (qf0_1, .inl (cf0_1, 3001, .inl f0_1))]) [0, 1, 2, 3] (by decide) rfl
        have hKc := hK.sub (tys' := [(cf0_0, .int), (cf0_1, .int)]) [0, 1] rfl
        have hFc := va_free (wc := [(h0, .inr (8, [.ref qf0, .ref qf1])), (qf0, .inr (9, [.ref qf0_0, .ref qf0_1, .ref qf0_2, .int v0_3, .ref qf0_4, .ref qf0_5, .ref qf0_6, .ref qf0_7, .ref qf0_8, .int v0_9, .int u1_0, .int u1_1, .int u1_2])), (qf0_0, .inl (cf0_0, 3001, .inl f0_0)), (qf0_1, .inl (cf0_1, 3001, .inl f0_1))]) hD hS hA [0, 1, 2, 3] rfl
        refine va_callv (va_runV (As := [.int 2]) (rest := []) ⟨hx, hb, hml, hown, hts⟩ (t8_need l dC dI H.size h0 2 qf0 qf1 qf0_0 qf0_1 qf0_2 v0_3 qf0_4 qf0_5 qf0_6 qf0_7 qf0_8 v0_9 u1_0 u1_1 u1_2 cf0_0 f0_0 cf0_1 f0_1 nf u2_0 u2_1 u2_2 hu_2) (cwV 1 hts gv_h4_124 rfl rfl rfl (by decide +kernel) ⟨Nat.le_of_ble_eq_true rfl, Nat.le_of_ble_eq_true rfl⟩) ⟨fun a U g mk q => by obtain ⟨q0, q1, qP, qK, qD⟩ := q; exact ⟨q0, q1, qP, va_K.moved (u := U) (U := U.calling g mk a) (Vm.Alike.refl U.vm) qK, qD⟩, va_recv hKc hPc (ci := 8) (q0 := 0) rfl rfl, fun U hU hW => ⟨rfl, by rw [hU], by rw [hU]; exact hPc, va_K.moved hW.alike hKc, hDc.weaken (fun _ _ _ _ => trivial)⟩⟩ rfl rfl hl.1 rfl (lv_room (Nat.le_of_ble_eq_true rfl)) dX8_readParameters_21 ⟨Nat.le_of_ble_eq_true rfl, Nat.le_of_ble_eq_true rfl⟩) hS (fun q _ h => hFc q h) hFc ?_
        clear hS
        intro u t H1 locs ht hvm hw hB hz1 hk1 hS
        obtain ⟨⟩ := u
        obtain ⟨hP1, hK1, hD1⟩ := hB
        rw [ht] at hP1
        have hK1 := va_K.moved hvm.symm hK1
        try dsimp only at hw
        have hPD := va_join (wr := []) (w1 := [(h0, .inr (8, [.ref qf0, .ref qf1])), (qf0, .inr (9, [.ref qf0_0, .ref qf0_1, .ref qf0_2, .int v0_3, .ref qf0_4, .ref qf0_5, .ref qf0_6, .ref qf0_7, .ref qf0_8, .int v0_9, .int u2_0, .int u2_1, .int u2_2])), (qf0_0, .inl (cf0_0, 3001, .inl f0_0)), (qf0_1, .inl (cf0_1, 3001, .inl f0_1))]) hP hD [0, 1, 2, 3] [] rfl rfl (by decide) (by decide) hk1 hFc hP1 hD1
        clear hP hD
        obtain ⟨hP, hD⟩ := hPD
        replace hK := (hK.sub (tys' := []) [] rfl).app hK1
        clear hPc hDc hKc hFc hP1 hK1 hD1 hz1 hk1 ht hvm
        generalize H1 = H at hP hS ⊢
        replace hP : va_P (dC, dI) vwCl [(h0, .inr (8, [.ref qf0, .ref qf1])), (qf0, .inr (9, [.ref qf0_0, .ref qf0_1, .ref qf0_2, .int v0_3, .ref qf0_4, .ref qf0_5, .ref qf0_6, .ref qf0_7, .ref qf0_8, .int v0_9, .int u2_0, .int u2_1, .int u2_2])), (qf0_0, .inl (cf0_0, 3001, .inl f0_0)), (qf0_1, .inl (cf0_1, 3001, .inl f0_1))] H := hP
        replace hD : va_D A [(h0, .inr (8, [.ref qf0, .ref qf1])), (qf0, .inr (9, [.ref qf0_0, .ref qf0_1, .ref qf0_2, .int v0_3, .ref qf0_4, .ref qf0_5, .ref qf0_6, .ref qf0_7, .ref qf0_8, .int v0_9, .int u2_0, .int u2_1, .int u2_2])), (qf0_0, .inl (cf0_0, 3001, .inl f0_0)), (qf0_1, .inl (cf0_1, 3001, .inl f0_1))] := hD
        replace hK : va_K (dC, dI) vwCl [(cf0_0, .int), (cf0_1, .int)] s := hK
        refine lv_aload_n hx hb dX8_readParameters_24 rfl (lv_at hl 2 rfl) ?_
        refine lv_bipush (v := 47) hx hb dX8_readParameters_25 (by decide) ?_
        obtain ⟨⟨u3_0, u3_1⟩, hu_3, hsp⟩ := ox_bind hsp
        try dsimp only at hsp
        have hPc := hP.sub (ws' := [(h0, .inr (8, [.ref qf0, .ref qf1])), (qf0, .inr (9, [.ref qf0_0, .ref qf0_1, .ref qf0_2, .int v0_3, .ref qf0_4, .ref qf0_5, .ref qf0_6, .ref qf0_7, .ref qf0_8, .int v0_9, .int u2_0, .int u2_1, .int u2_2])), (qf0_0, .inl (cf0_0, 3001, .inl f0_0))]) [0, 1, 2] rfl
        have hDc := hD.sub (ws' := [(h0, .inr (8, [.ref qf0, .ref qf1])), (qf0, .inr (9, [.ref qf0_0, .ref qf0_1, .ref qf0_2, .int v0_3, .ref qf0_4, .ref qf0_5, .ref qf0_6, .ref qf0_7, .ref qf0_8, .int v0_9, .int u2_0, .int u2_1, .int u2_2])), (qf0_0, .inl (cf0_0, 3001, .inl f0_0))]) [0, 1, 2] (by decide) rfl
        have hKc := hK.sub (tys' := [(cf0_0, .int)]) [0] rfl
        have hFc := va_free (wc := [(h0, .inr (8, [.ref qf0, .ref qf1])), (qf0, .inr (9, [.ref qf0_0, .ref qf0_1, .ref qf0_2, .int v0_3, .ref qf0_4, .ref qf0_5, .ref qf0_6, .ref qf0_7, .ref qf0_8, .int v0_9, .int u2_0, .int u2_1, .int u2_2])), (qf0_0, .inl (cf0_0, 3001, .inl f0_0))]) hD hS hA [0, 1, 2] rfl
        refine va_calli (va_runV (As := [.int 47]) (rest := []) ⟨hx, hb, hml, hown, hts⟩ (t8_accept l dC dI H.size h0 47 qf0 qf1 qf0_0 qf0_1 qf0_2 v0_3 qf0_4 qf0_5 qf0_6 qf0_7 qf0_8 v0_9 u2_0 u2_1 u2_2 cf0_0 f0_0 nf u3_0 u3_1 hu_3) (cwV 1 hts gv_h4_126 rfl rfl rfl (by decide +kernel) ⟨Nat.le_of_ble_eq_true rfl, Nat.le_of_ble_eq_true rfl⟩) ⟨fun a U g mk q => by obtain ⟨q0, q1, qP, qK, qD⟩ := q; exact ⟨q0, q1, qP, va_K.moved (u := U) (U := U.calling g mk a) (Vm.Alike.refl U.vm) qK, qD⟩, va_recv hKc hPc (ci := 8) (q0 := 0) rfl rfl, fun U hU hW => ⟨rfl, by rw [hU], by rw [hU]; exact hPc, va_K.moved hW.alike hKc, hDc.weaken (fun _ _ _ _ => trivial)⟩⟩ rfl rfl hl.1 rfl (lv_room (Nat.le_of_ble_eq_true rfl)) dX8_readParameters_27 ⟨Nat.le_of_ble_eq_true rfl, Nat.le_of_ble_eq_true rfl⟩) hS (fun q _ h => hFc q h) hFc ?_
        clear hS
        intro r_3 u t H1 locs ht hvm hw hB hz1 hk1 hS
        obtain ⟨⟩ := u
        obtain ⟨hP1, hK1, hD1⟩ := hB
        rw [ht] at hP1
        have hK1 := va_K.moved hvm.symm hK1
        try dsimp only at hw
        have hPD := va_join (wr := [(qf0_1, .inl (cf0_1, 3001, .inl f0_1))]) (w1 := [(h0, .inr (8, [.ref qf0, .ref qf1])), (qf0, .inr (9, [.ref qf0_0, .ref qf0_1, .ref qf0_2, .int v0_3, .ref qf0_4, .ref qf0_5, .ref qf0_6, .ref qf0_7, .ref qf0_8, .int v0_9, .int u3_1, .int u2_1, .int u2_2])), (qf0_0, .inl (cf0_0, 3001, .inl f0_0))]) hP hD [0, 1, 2] [3] rfl rfl (by decide) (by decide) hk1 hFc hP1 hD1
        clear hP hD
        obtain ⟨hP, hD⟩ := hPD
        replace hK := (hK.sub (tys' := [(cf0_1, .int)]) [1] rfl).app hK1
        clear hPc hDc hKc hFc hP1 hK1 hD1 hz1 hk1 ht hvm
        generalize H1 = H at hP hS ⊢
        replace hP : va_P (dC, dI) vwCl [(qf0_1, .inl (cf0_1, 3001, .inl f0_1)), (h0, .inr (8, [.ref qf0, .ref qf1])), (qf0, .inr (9, [.ref qf0_0, .ref qf0_1, .ref qf0_2, .int v0_3, .ref qf0_4, .ref qf0_5, .ref qf0_6, .ref qf0_7, .ref qf0_8, .int v0_9, .int u3_1, .int u2_1, .int u2_2])), (qf0_0, .inl (cf0_0, 3001, .inl f0_0))] H := hP
        replace hD : va_D A [(qf0_1, .inl (cf0_1, 3001, .inl f0_1)), (h0, .inr (8, [.ref qf0, .ref qf1])), (qf0, .inr (9, [.ref qf0_0, .ref qf0_1, .ref qf0_2, .int v0_3, .ref qf0_4, .ref qf0_5, .ref qf0_6, .ref qf0_7, .ref qf0_8, .int v0_9, .int u3_1, .int u2_1, .int u2_2])), (qf0_0, .inl (cf0_0, 3001, .inl f0_0))] := hD
        replace hK : va_K (dC, dI) vwCl [(cf0_1, .int), (cf0_0, .int)] s := hK
        obtain ⟨rfl, hz_3⟩ := hw
        rcases hz_3 with rfl | rfl
        · rw [if_pos rfl] at hsp
          refine lv_istore_n (lv' := [(1, .int 0), (2, .int l2_4), (0, .ref h0)]) hx hb dX8_readParameters_30 rfl hl (by decide) rfl (fun ls hl => ?_)
          refine lv_iinc (v := (l2_4 + 1)) (lv' := [(2, .int (l2_4 + 1)), (1, .int 0), (0, .ref h0)]) hx hb dX8_readParameters_31 hl (k := 1) rfl rfl (by decide) rfl (fun ls hl => ?_)
          refine lv_goto (tgt := 4) hx hb dX8_readParameters_34 (by decide) ?_
          exact ih_4 H locs ls 0 (l2_4 + 1) u3_1 u2_1 u2_2 (lv_sub hl [0, 1, 2] rfl) hS (hD.sub (ws' := [(h0, .inr (8, [.ref qf0, .ref qf1])), (qf0, .inr (9, [.ref qf0_0, .ref qf0_1, .ref qf0_2, .int v0_3, .ref qf0_4, .ref qf0_5, .ref qf0_6, .ref qf0_7, .ref qf0_8, .int v0_9, .int u3_1, .int u2_1, .int u2_2])), (qf0_0, .inl (cf0_0, 3001, .inl f0_0)), (qf0_1, .inl (cf0_1, 3001, .inl f0_1))]) [1, 2, 3, 0] (by decide) rfl) (hP.sub (ws' := [(h0, .inr (8, [.ref qf0, .ref qf1])), (qf0, .inr (9, [.ref qf0_0, .ref qf0_1, .ref qf0_2, .int v0_3, .ref qf0_4, .ref qf0_5, .ref qf0_6, .ref qf0_7, .ref qf0_8, .int v0_9, .int u3_1, .int u2_1, .int u2_2])), (qf0_0, .inl (cf0_0, 3001, .inl f0_0)), (qf0_1, .inl (cf0_1, 3001, .inl f0_1))]) [1, 2, 3, 0] rfl) hsp
        · rw [if_neg (by decide)] at hsp
          refine lv_istore_n (lv' := [(1, .int 1), (2, .int l2_4), (0, .ref h0)]) hx hb dX8_readParameters_30 rfl hl (by decide) rfl (fun ls hl => ?_)
          refine lv_iinc (v := (l2_4 + 1)) (lv' := [(2, .int (l2_4 + 1)), (1, .int 1), (0, .ref h0)]) hx hb dX8_readParameters_31 hl (k := 1) rfl rfl (by decide) rfl (fun ls hl => ?_)
          refine lv_goto (tgt := 4) hx hb dX8_readParameters_34 (by decide) ?_
          exact ih_4 H locs ls 1 (l2_4 + 1) u3_1 u2_1 u2_2 (lv_sub hl [0, 1, 2] rfl) hS (hD.sub (ws' := [(h0, .inr (8, [.ref qf0, .ref qf1])), (qf0, .inr (9, [.ref qf0_0, .ref qf0_1, .ref qf0_2, .int v0_3, .ref qf0_4, .ref qf0_5, .ref qf0_6, .ref qf0_7, .ref qf0_8, .int v0_9, .int u3_1, .int u2_1, .int u2_2])), (qf0_0, .inl (cf0_0, 3001, .inl f0_0)), (qf0_1, .inl (cf0_1, 3001, .inl f0_1))]) [1, 2, 3, 0] (by decide) rfl) (hP.sub (ws' := [(h0, .inr (8, [.ref qf0, .ref qf1])), (qf0, .inr (9, [.ref qf0_0, .ref qf0_1, .ref qf0_2, .int v0_3, .ref qf0_4, .ref qf0_5, .ref qf0_6, .ref qf0_7, .ref qf0_8, .int v0_9, .int u3_1, .int u2_1, .int u2_2])), (qf0_0, .inl (cf0_0, 3001, .inl f0_0)), (qf0_1, .inl (cf0_1, 3001, .inl f0_1))]) [1, 2, 3, 0] rfl) hsp

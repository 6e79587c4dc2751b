set_option maxHeartbeats 4000000 in
set_option maxRecDepth 100000 in
/-- ClassMill$Text.copyName -/
theorem v9_copyName (l : Launch) (dC : Nat → ClassId) (dI : Nat → Nat → Nat) (sz : Nat) (h0 : Nat) (a1 : Int32) (qa2 : Nat) (a3 : Int32) (qf0 : Nat) (qf1 : Nat) (qf2 : Nat) (v3 : Int32) (qf4 : Nat) (qf5 : Nat) (qf6 : Nat) (qf7 : Nat) (qf8 : Nat) (v9 : Int32) (v10 : Int32) (v11 : Int32) (v12 : Int32) (cf5 : ClassId) (f5 : (Nat → Int32)) (ca2 : ClassId) (na2 : Nat) (fa2 : (Nat → Int32)) (cf4 : ClassId) (f4 : (Nat → Int32)) (nf : Nat) (oa2 : (Nat → Int32)) (hsp : sp_v9_copyName nf a1 a3 v9 f5 na2 fa2 f4 = some oa2) : Met l yX9_copyName (.code yX9_copyName cX9_copyName 5 none :: VS_h7) ({ frames := 1, cells := 0, slots := 0, locals := 40 }) (va_Pc [.ref h0, .int a1, .ref qa2, .int a3] (fun U => U.heap.size = sz ∧ va_P (dC, dI) vwCl [(h0, .inr (9, [.ref qf0, .ref qf1, .ref qf2, .int v3, .ref qf4, .ref qf5, .ref qf6, .ref qf7, .ref qf8, .int v9, .int v10, .int v11, .int v12])), (qf5, .inl (cf5, 1741, .inl f5)), (qa2, .inl (ca2, na2, .inl fa2)), (qf4, .inl (cf4, 6400, .inl f4))] U.heap ∧ va_K (dC, dI) vwCl [(cf5, .int), (ca2, .byte), (cf4, .byte)] U ∧ va_D (fun _ => True) [(h0, .inr (9, [.ref qf0, .ref qf1, .ref qf2, .int v3, .ref qf4, .ref qf5, .ref qf6, .ref qf7, .ref qf8, .int v9, .int v10, .int v11, .int v12])), (qf5, .inl (cf5, 1741, .inl f5)), (qa2, .inl (ca2, na2, .inl fa2)), (qf4, .inl (cf4, 6400, .inl f4))])) (va_Qv (fun (u : Unit) => match u with | () => True) (fun (u : Unit) (t : State) => match u with | () => va_P (dC, dI) vwCl [(h0, .inr (9, [.ref qf0, .ref qf1, .ref qf2, .int v3, .ref qf4, .ref qf5, .ref qf6, .ref qf7, .ref qf8, .int v9, .int v10, .int v11, .int v12])), (qf5, .inl (cf5, 1741, .inl f5)), (qa2, .inl (ca2, na2, .inl oa2)), (qf4, .inl (cf4, 6400, .inl f4))] t.heap ∧ va_K (dC, dI) vwCl [(cf5, .int), (ca2, .byte), (cf4, .byte)] t ∧ va_D (va_A [(h0, .inr (9, [.ref qf0, .ref qf1, .ref qf2, .int v3, .ref qf4, .ref qf5, .ref qf6, .ref qf7, .ref qf8, .int v9, .int v10, .int v11, .int v12])), (qf5, .inl (cf5, 1741, .inl f5)), (qa2, .inl (ca2, na2, .inl fa2)), (qf4, .inl (cf4, 6400, .inl f4))] sz) [(h0, .inr (9, [.ref qf0, .ref qf1, .ref qf2, .int v3, .ref qf4, .ref qf5, .ref qf6, .ref qf7, .ref qf8, .int v9, .int v10, .int v11, .int v12])), (qf5, .inl (cf5, 1741, .inl f5)), (qa2, .inl (ca2, na2, .inl oa2)), (qf4, .inl (cf4, 6400, .inl f4))]) (va_A [(h0, .inr (9, [.ref qf0, .ref qf1, .ref qf2, .int v3, .ref qf4, .ref qf5, .ref qf6, .ref qf7, .ref qf8, .int v9, .int v10, .int v11, .int v12])), (qf5, .inl (cf5, 1741, .inl f5)), (qa2, .inl (ca2, na2, .inl fa2)), (qf4, .inl (cf4, 6400, .inl f4))] sz)) 0 0 (va_A [(h0, .inr (9, [.ref qf0, .ref qf1, .ref qf2, .int v3, .ref qf4, .ref qf5, .ref qf6, .ref qf7, .ref qf8, .int v9, .int v10, .int v11, .int v12])), (qf5, .inl (cf5, 1741, .inl f5)), (qa2, .inl (ca2, na2, .inl fa2)), (qf4, .inl (cf4, 6400, .inl f4))] sz) := by
  refine Met.ofW (cc := cX9_copyName) (maxL := 5) (ret := none) (by decide) rfl ?_
  intro p e s m args below meth c s₁ B hml hv
  obtain ⟨rfl, hsz, hP, hK, hD0⟩ := hv
  have hx := B.exec
  have hb := B.bytes
  have hr := B.returns
  have hts := atoms_spec (ws := (.code yX9_copyName cX9_copyName 5 none :: VS_h7)) B.pre
  replace hts := fun w (h : w ∈ VS_h7) => hts w (List.mem_cons_of_mem _ h)
  have hown : s.vm.findClass RX9 = some m.cls := findClass_of_methodNamed B.named
  have hlocks := B.notSynchronized
  subst hsz
  have hD := hD0.self (sz := s.heap.size)
  generalize hAe : va_A [(h0, .inr (9, [.ref qf0, .ref qf1, .ref qf2, .int v3, .ref qf4, .ref qf5, .ref qf6, .ref qf7, .ref qf8, .int v9, .int v10, .int v11, .int v12])), (qf5, .inl (cf5, 1741, .inl f5)), (qa2, .inl (ca2, na2, .inl fa2)), (qf4, .inl (cf4, 6400, .inl f4))] s.heap.size = A at hD  ⊢
  have hA : ∀ q : Nat, s.heap.size ≤ q → A q := fun q h => by rw [← hAe]; exact Or.inr h
  have hP : va_P (dC, dI) vwCl [(h0, .inr (9, [.ref qf0, .ref qf1, .ref qf2, .int v3, .ref qf4, .ref qf5, .ref qf6, .ref qf7, .ref qf8, .int v9, .int v10, .int v11, .int v12])), (qf5, .inl (cf5, 1741, .inl f5)), (qa2, .inl (ca2, na2, .inl fa2)), (qf4, .inl (cf4, 6400, .inl f4))] s.heap := hP
  have hl := lv_entry ([.ref h0, .int a1, .ref qa2, .int a3]) (n := 5) (Nat.le_of_ble_eq_true rfl)
  rw [lg_entry_eq]
  generalize (lg_sl ([.ref h0, .int a1, .ref qa2, .int a3]) ++ List.replicate (5 - (lg_sl ([.ref h0, .int a1, .ref qa2, .int a3])).length) Slot.unset).toArray = ls at hl ⊢
  have hl : lv_has ls 5 [(0, .ref h0), (1, .int a1), (2, .ref qa2), (3, .int a3)] := hl
  obtain ⟨H, hH⟩ : ∃ H : Heap, s.heap = H := ⟨_, rfl⟩
  rw [hH] at hP ⊢
  have hS : va_S A s.heap H [] := by rw [← hH]; exact va_S.rf
  obtain ⟨locs, hlo⟩ : ∃ locs : List Loc, locs = [] := ⟨_, rfl⟩
  rw [← hlo] at hS ⊢
  unfold sp_v9_copyName at hsp
  refine lv_aload_n hx hb dX9_copyName_0 rfl (lv_at hl 0 rfl) ?_
  refine lv_iload_n hx hb dX9_copyName_1 rfl (lv_at hl 1 rfl) ?_
  obtain ⟨u1_0, hu_1, hsp⟩ := ox_bind hsp
  try dsimp only at hsp
  have hPc := hP.sub (ws' := [(h0, .inr (9, [.ref qf0, .ref qf1, .ref qf2, .int v3, .ref qf4, .ref qf5, .ref qf6, .ref qf7, .ref qf8, .int v9, .int v10, .int v11, .int v12])), (qf5, .inl (cf5, 1741, .inl f5))]) [0, 1] rfl
  have hDc := hD.sub (ws' := [(h0, .inr (9, [.ref qf0, .ref qf1, .ref qf2, .int v3, .ref qf4, .ref qf5, .ref qf6, .ref qf7, .ref qf8, .int v9, .int v10, .int v11, .int v12])), (qf5, .inl (cf5, 1741, .inl f5))]) [0, 1] (by decide) rfl
  have hKc := hK.sub (tys' := [(cf5, .int)]) [0] rfl
  have hFc := va_free (wc := [(h0, .inr (9, [.ref qf0, .ref qf1, .ref qf2, .int v3, .ref qf4, .ref qf5, .ref qf6, .ref qf7, .ref qf8, .int v9, .int v10, .int v11, .int v12])), (qf5, .inl (cf5, 1741, .inl f5))]) hD hS hA [0, 1] rfl
  refine va_calli (va_runV (As := [.int a1]) (rest := []) ⟨hx, hb, hml, hown, hts⟩ (t9_nameLength l dC dI H.size h0 a1 qf0 qf1 qf2 v3 qf4 qf5 qf6 qf7 qf8 v9 v10 v11 v12 cf5 f5 nf u1_0 hu_1) (cwV 1 hts gv_h7_61 rfl rfl rfl (by decide +kernel) ⟨Nat.le_of_ble_eq_true rfl, Nat.le_of_ble_eq_true rfl⟩) ⟨fun a U g mk q => by obtain ⟨q0, q1, qP, qK, qD⟩ := q; exact ⟨q0, q1, qP, va_K.moved (u := U) (U := U.calling g mk a) (Vm.Alike.refl U.vm) qK, qD⟩, va_recv hKc hPc (ci := 9) (q0 := 0) rfl rfl, fun U hU hW => ⟨rfl, by rw [hU], by rw [hU]; exact hPc, va_K.moved hW.alike hKc, hDc.weaken (fun _ _ _ _ => trivial)⟩⟩ rfl rfl hl.1 rfl (lv_room (Nat.le_of_ble_eq_true rfl)) dX9_copyName_2 ⟨Nat.le_of_ble_eq_true rfl, Nat.le_of_ble_eq_true rfl⟩) hS (fun q _ h => hFc q h) hFc ?_
  clear hS
  intro r_1 u t H1 locs ht hvm hw hB hz1 hk1 hS
  obtain ⟨⟩ := u
  obtain ⟨hP1, hK1, hD1⟩ := hB
  rw [ht] at hP1
  have hK1 := va_K.moved hvm.symm hK1
  try dsimp only at hw
  have hPD := va_join (wr := [(qa2, .inl (ca2, na2, .inl fa2)), (qf4, .inl (cf4, 6400, .inl f4))]) (w1 := [(h0, .inr (9, [.ref qf0, .ref qf1, .ref qf2, .int v3, .ref qf4, .ref qf5, .ref qf6, .ref qf7, .ref qf8, .int v9, .int v10, .int v11, .int v12])), (qf5, .inl (cf5, 1741, .inl f5))]) hP hD [0, 1] [2, 3] rfl rfl (by decide) (by decide) hk1 hFc hP1 hD1
  clear hP hD
  obtain ⟨hP, hD⟩ := hPD
  replace hK := (hK.sub (tys' := [(ca2, .byte), (cf4, .byte)]) [1, 2] rfl).app hK1
  clear hPc hDc hKc hFc hP1 hK1 hD1 hz1 hk1 ht hvm
  generalize H1 = H at hP hS ⊢
  replace hP : va_P (dC, dI) vwCl [(qa2, .inl (ca2, na2, .inl fa2)), (qf4, .inl (cf4, 6400, .inl f4)), (h0, .inr (9, [.ref qf0, .ref qf1, .ref qf2, .int v3, .ref qf4, .ref qf5, .ref qf6, .ref qf7, .ref qf8, .int v9, .int v10, .int v11, .int v12])), (qf5, .inl (cf5, 1741, .inl f5))] H := hP
  replace hD : va_D A [(qa2, .inl (ca2, na2, .inl fa2)), (qf4, .inl (cf4, 6400, .inl f4)), (h0, .inr (9, [.ref qf0, .ref qf1, .ref qf2, .int v3, .ref qf4, .ref qf5, .ref qf6, .ref qf7, .ref qf8, .int v9, .int v10, .int v11, .int v12])), (qf5, .inl (cf5, 1741, .inl f5))] := hD
  replace hK : va_K (dC, dI) vwCl [(ca2, .byte), (cf4, .byte), (cf5, .int)] s := hK
  obtain rfl := hw
  refine lv_istore (lv' := [(4, .int u1_0), (0, .ref h0), (1, .int a1), (2, .ref qa2), (3, .int a3)]) hx hb dX9_copyName_5 hl (by decide) rfl (fun ls hl => ?_)
  refine lv_iload_n hx hb dX9_copyName_7 rfl (lv_at hl 4 rfl) ?_
  refine lv_if_lt (tgt := 42) hx hb dX9_copyName_8 (by decide) (fun c_2 => ?_) (fun c_2 => ?_)
  · rw [if_pos c_2] at hsp
    have hr0 := Option.some.inj hsp
    clear hsp
    subst hr0
    have hP9 := hP.sub (ws' := [(h0, .inr (9, [.ref qf0, .ref qf1, .ref qf2, .int v3, .ref qf4, .ref qf5, .ref qf6, .ref qf7, .ref qf8, .int v9, .int v10, .int v11, .int v12])), (qf5, .inl (cf5, 1741, .inl f5)), (qa2, .inl (ca2, na2, .inl fa2)), (qf4, .inl (cf4, 6400, .inl f4))]) [2, 3, 0, 1] rfl
    have hD9 := hD.sub (ws' := [(h0, .inr (9, [.ref qf0, .ref qf1, .ref qf2, .int v3, .ref qf4, .ref qf5, .ref qf6, .ref qf7, .ref qf8, .int v9, .int v10, .int v11, .int v12])), (qf5, .inl (cf5, 1741, .inl f5)), (qa2, .inl (ca2, na2, .inl fa2)), (qf4, .inl (cf4, 6400, .inl f4))]) [2, 3, 0, 1] (by decide) rfl
    have hK9 := hK.sub (tys' := [(cf5, .int), (ca2, .byte), (cf4, .byte)]) [2, 0, 1] rfl
    exact W.vret hx hb hr (fun t ht hW => ⟨⟨(), rfl, trivial, by rw [ht]; exact hP9, va_K.moved hW.alike hK9, hD9⟩, hS.F ht⟩) hS.2.2 dX9_copyName_42
  · rw [if_neg c_2] at hsp
    refine lv_iload_n hx hb dX9_copyName_11 rfl (lv_at hl 4 rfl) ?_
    refine lv_iload hx hb dX9_copyName_12 (lv_at hl 0 rfl) ?_
    refine lv_iadd hx hb dX9_copyName_14 ?_
    refine lv_aload_n hx hb dX9_copyName_15 rfl (lv_at hl 3 rfl) ?_
    refine va_alen (v := nI na2) hx hb hK hP 0 0 rfl rfl rfl dX9_copyName_16 ?_
    refine lv_icmp_gt (tgt := 42) hx hb dX9_copyName_17 (by decide) (fun c_3 => ?_) (fun c_3 => ?_)
    · rw [if_pos c_3] at hsp
      have hr0 := Option.some.inj hsp
      clear hsp
      subst hr0
      have hP9 := hP.sub (ws' := [(h0, .inr (9, [.ref qf0, .ref qf1, .ref qf2, .int v3, .ref qf4, .ref qf5, .ref qf6, .ref qf7, .ref qf8, .int v9, .int v10, .int v11, .int v12])), (qf5, .inl (cf5, 1741, .inl f5)), (qa2, .inl (ca2, na2, .inl fa2)), (qf4, .inl (cf4, 6400, .inl f4))]) [2, 3, 0, 1] rfl
      have hD9 := hD.sub (ws' := [(h0, .inr (9, [.ref qf0, .ref qf1, .ref qf2, .int v3, .ref qf4, .ref qf5, .ref qf6, .ref qf7, .ref qf8, .int v9, .int v10, .int v11, .int v12])), (qf5, .inl (cf5, 1741, .inl f5)), (qa2, .inl (ca2, na2, .inl fa2)), (qf4, .inl (cf4, 6400, .inl f4))]) [2, 3, 0, 1] (by decide) rfl
      have hK9 := hK.sub (tys' := [(cf5, .int), (ca2, .byte), (cf4, .byte)]) [2, 0, 1] rfl
      exact W.vret hx hb hr (fun t ht hW => ⟨⟨(), rfl, trivial, by rw [ht]; exact hP9, va_K.moved hW.alike hK9, hD9⟩, hS.F ht⟩) hS.2.2 dX9_copyName_42
    · rw [if_neg c_3] at hsp
      refine lv_iload hx hb dX9_copyName_20 (lv_at hl 0 rfl) ?_
      refine lv_if_le (tgt := 42) hx hb dX9_copyName_22 (by decide) (fun c_4 => ?_) (fun c_4 => ?_)
      · rw [if_pos c_4] at hsp
        have hr0 := Option.some.inj hsp
        clear hsp
        subst hr0
        have hP9 := hP.sub (ws' := [(h0, .inr (9, [.ref qf0, .ref qf1, .ref qf2, .int v3, .ref qf4, .ref qf5, .ref qf6, .ref qf7, .ref qf8, .int v9, .int v10, .int v11, .int v12])), (qf5, .inl (cf5, 1741, .inl f5)), (qa2, .inl (ca2, na2, .inl fa2)), (qf4, .inl (cf4, 6400, .inl f4))]) [2, 3, 0, 1] rfl
        have hD9 := hD.sub (ws' := [(h0, .inr (9, [.ref qf0, .ref qf1, .ref qf2, .int v3, .ref qf4, .ref qf5, .ref qf6, .ref qf7, .ref qf8, .int v9, .int v10, .int v11, .int v12])), (qf5, .inl (cf5, 1741, .inl f5)), (qa2, .inl (ca2, na2, .inl fa2)), (qf4, .inl (cf4, 6400, .inl f4))]) [2, 3, 0, 1] (by decide) rfl
        have hK9 := hK.sub (tys' := [(cf5, .int), (ca2, .byte), (cf4, .byte)]) [2, 0, 1] rfl
        exact W.vret hx hb hr (fun t ht hW => ⟨⟨(), rfl, trivial, by rw [ht]; exact hP9, va_K.moved hW.alike hK9, hD9⟩, hS.F ht⟩) hS.2.2 dX9_copyName_42
      · rw [if_neg c_4] at hsp
        refine lv_aload_n hx hb dX9_copyName_25 rfl (lv_at hl 1 rfl) ?_
        refine va_get (D := (dC, dI)) (ci := 9) (v := .ref qf4) (C := RX9) (T := TX9) (N := 13) hx hb hts uV_h7_X9 hown hK hP 2 rfl rfl 4 (by decide) (hts (.fieldLink RX9 25 "ClassMill$Text" "letters" "[B") mw_h7_289) (fun _ h9 => h9) rfl dX9_copyName_26 ?_
        refine lv_aload_n hx hb dX9_copyName_29 rfl (lv_at hl 1 rfl) ?_
        refine va_get (D := (dC, dI)) (ci := 9) (v := .ref qf5) (C := RX9) (T := TX9) (N := 13) hx hb hts uV_h7_X9 hown hK hP 2 rfl rfl 5 (by decide) (hts (.fieldLink RX9 29 "ClassMill$Text" "nameAt" "[I") mw_h7_290) (fun _ h9 => h9) rfl dX9_copyName_30 ?_
        refine lv_iload_n hx hb dX9_copyName_33 rfl (lv_at hl 2 rfl) ?_
        obtain ⟨hi_5, hsp⟩ := ox_in hsp
        refine va_iald hx hb hK hP 3 2 rfl rfl (i := a1) hi_5 dX9_copyName_34 ?_
        refine lv_aload_n hx hb dX9_copyName_35 rfl (lv_at hl 3 rfl) ?_
        refine lv_iload_n hx hb dX9_copyName_36 rfl (lv_at hl 4 rfl) ?_
        refine lv_iload hx hb dX9_copyName_37 (lv_at hl 0 rfl) ?_
        obtain ⟨⟨hc_61, hc_62, hc_63, hc_64, hc_65⟩, hsp⟩ := ox_cp hsp
        obtain ⟨hc_66, hsp⟩ := ox_fit hsp
        refine va_copyi hx hb (by rw [hml]; exact hl.1.symm) hown (hts (.methodLink RX9 67 arraycopyName) mw_h7_291) (hts (.native arraycopyName) mw_h7_29) (hts (.static arraycopyName) mw_h7_30) (hts (.initialized "java/lang/System") mw_h7_31) hK hP hD hS 1 0 1 0 rfl rfl rfl rfl rfl (sp := (f5 (a1 : Int32).toNatClampNeg)) (dp := a3) (n := u1_0) hc_61 hc_62 hc_63 hc_64 hc_65 hc_66 (Nat.le_of_ble_eq_true rfl) (Nat.le_of_ble_eq_true rfl) dX9_copyName_39 ?_
        clear hP hD hS
        intro H locs hP hD hS
        replace hP : va_P (dC, dI) vwCl [(qa2, .inl (ca2, na2, .inl (va_cpy f4 fa2 ((f5 (a1 : Int32).toNatClampNeg) : Int32).toNatClampNeg (a3 : Int32).toNatClampNeg (u1_0 : Int32).toNatClampNeg))), (qf4, .inl (cf4, 6400, .inl f4)), (h0, .inr (9, [.ref qf0, .ref qf1, .ref qf2, .int v3, .ref qf4, .ref qf5, .ref qf6, .ref qf7, .ref qf8, .int v9, .int v10, .int v11, .int v12])), (qf5, .inl (cf5, 1741, .inl f5))] H := hP
        replace hD : va_D A [(qa2, .inl (ca2, na2, .inl (va_cpy f4 fa2 ((f5 (a1 : Int32).toNatClampNeg) : Int32).toNatClampNeg (a3 : Int32).toNatClampNeg (u1_0 : Int32).toNatClampNeg))), (qf4, .inl (cf4, 6400, .inl f4)), (h0, .inr (9, [.ref qf0, .ref qf1, .ref qf2, .int v3, .ref qf4, .ref qf5, .ref qf6, .ref qf7, .ref qf8, .int v9, .int v10, .int v11, .int v12])), (qf5, .inl (cf5, 1741, .inl f5))] := hD
        have hr0 := Option.some.inj hsp
        clear hsp
        subst hr0
        have hP9 := hP.sub (ws' := [(h0, .inr (9, [.ref qf0, .ref qf1, .ref qf2, .int v3, .ref qf4, .ref qf5, .ref qf6, .ref qf7, .ref qf8, .int v9, .int v10, .int v11, .int v12])), (qf5, .inl (cf5, 1741, .inl f5)), (qa2, .inl (ca2, na2, .inl (va_cpy f4 fa2 ((f5 (a1 : Int32).toNatClampNeg) : Int32).toNatClampNeg (a3 : Int32).toNatClampNeg (u1_0 : Int32).toNatClampNeg))), (qf4, .inl (cf4, 6400, .inl f4))]) [2, 3, 0, 1] rfl
        have hD9 := hD.sub (ws' := [(h0, .inr (9, [.ref qf0, .ref qf1, .ref qf2, .int v3, .ref qf4, .ref qf5, .ref qf6, .ref qf7, .ref qf8, .int v9, .int v10, .int v11, .int v12])), (qf5, .inl (cf5, 1741, .inl f5)), (qa2, .inl (ca2, na2, .inl (va_cpy f4 fa2 ((f5 (a1 : Int32).toNatClampNeg) : Int32).toNatClampNeg (a3 : Int32).toNatClampNeg (u1_0 : Int32).toNatClampNeg))), (qf4, .inl (cf4, 6400, .inl f4))]) [2, 3, 0, 1] (by decide) rfl
        have hK9 := hK.sub (tys' := [(cf5, .int), (ca2, .byte), (cf4, .byte)]) [2, 0, 1] rfl
        exact W.vret hx hb hr (fun t ht hW => ⟨⟨(), rfl, trivial, by rw [ht]; exact hP9, va_K.moved hW.alike hK9, hD9⟩, hS.F ht⟩) hS.2.2 dX9_copyName_42
def jn_v9_nameOf_79 (nf : Nat) (a2 : Int32) (a3 : Int32) (v9 : Int32) (na1 : Nat) (fa1 : Nat → Int32) (f7 : Nat → Int32) (f5 : Nat → Int32) (f4 : Nat → Int32) (f6 : Nat → Int32)  (l2_79 : Int32) (l3_79 : Int32) (g4_79 : Nat → Int32) (g5_79 : Nat → Int32) (g6_79 : Nat → Int32) (g7_79 : Nat → Int32) (x9_79 : Int32) : Option (Int32 × (Nat → Int32) × (Nat → Int32) × (Nat → Int32) × (Nat → Int32) × Int32) := (if x9_79 < 0 then none else if 1741 ≤ (x9_79 : Int32).toNatClampNeg then none else (if 1740 ≤ x9_79 then (some (0, g4_79, g5_79, g6_79, g7_79, x9_79)) else (if ((g5_79 (x9_79 : Int32).toNatClampNeg) + l3_79) ≤ 6400 then (if cp_ok l2_79 (g5_79 (x9_79 : Int32).toNatClampNeg) l3_79 na1 6400 = true then (if cp_fit .byte fa1 l2_79 l3_79 = true then ((sp_t9_closeName nf ((g5_79 (x9_79 : Int32).toNatClampNeg) + l3_79) x9_79 g5_79 (va_cpy fa1 g4_79 (l2_79 : Int32).toNatClampNeg ((g5_79 (x9_79 : Int32).toNatClampNeg) : Int32).toNatClampNeg (l3_79 : Int32).toNatClampNeg) g7_79 g6_79).bind (fun p1 => (some ((p1.2.2.2 - 1), (va_cpy fa1 g4_79 (l2_79 : Int32).toNatClampNeg ((g5_79 (x9_79 : Int32).toNatClampNeg) : Int32).toNatClampNeg (l3_79 : Int32).toNatClampNeg), p1.1, p1.2.1, p1.2.2.1, p1.2.2.2)))) else none) else none) else (some (0, g4_79, g5_79, g6_79, g7_79, x9_79)))))
def lp_v9_nameOf_35 (nf n : Nat) (a2 : Int32) (a3 : Int32) (v9 : Int32) (na1 : Nat) (fa1 : Nat → Int32) (f7 : Nat → Int32) (f5 : Nat → Int32) (f4 : Nat → Int32) (f6 : Nat → Int32)  (l2_35 : Int32) (l3_35 : Int32) (l4_35 : Int32) (l5_35 : Int32) (g4_35 : Nat → Int32) (g5_35 : Nat → Int32) (g6_35 : Nat → Int32) (g7_35 : Nat → Int32) (x9_35 : Int32) : Option (Int32 × (Nat → Int32) × (Nat → Int32) × (Nat → Int32) × (Nat → Int32) × Int32) := match n with
  | 0 => none
  | n + 1 => (if 1740 ≤ l5_35 then (jn_v9_nameOf_79 nf a2 a3 v9 na1 fa1 f7 f5 f4 f6  l2_35 l3_35 g4_35 g5_35 g6_35 g7_35 x9_35) else (if l4_35 = (-1) then (jn_v9_nameOf_79 nf a2 a3 v9 na1 fa1 f7 f5 f4 f6  l2_35 l3_35 g4_35 g5_35 g6_35 g7_35 x9_35) else ((sp_t9_isNamed nf l4_35 l2_35 l3_35 g5_35 g4_35 na1 fa1).bind (fun p1 => (if p1 = 0 then (if l4_35 < 0 then none else if 1740 ≤ (l4_35 : Int32).toNatClampNeg then none else (lp_v9_nameOf_35 nf n a2 a3 v9 na1 fa1 f7 f5 f4 f6 l2_35 l3_35 (g6_35 (l4_35 : Int32).toNatClampNeg) (l5_35 + 1) g4_35 g5_35 g6_35 g7_35 x9_35)) else (some (l4_35, g4_35, g5_35, g6_35, g7_35, x9_35)))))))
def sp_v9_nameOf (nf : Nat) (a2 : Int32) (a3 : Int32) (v9 : Int32) (na1 : Nat) (fa1 : Nat → Int32) (f7 : Nat → Int32) (f5 : Nat → Int32) (f4 : Nat → Int32) (f6 : Nat → Int32) : Option (Int32 × (Nat → Int32) × (Nat → Int32) × (Nat → Int32) × (Nat → Int32) × Int32) := (if a3 < 1 then (some (0, f4, f5, f6, f7, v9)) else (if a2 < 0 then (some (0, f4, f5, f6, f7, v9)) else (if (a2 + a3) ≤ (nI na1) then ((sp_t9_bucketOf nf a2 a3 na1 fa1).bind (fun p1 => (if p1 < 0 then none else if 64 ≤ (p1 : Int32).toNatClampNeg then none else (lp_v9_nameOf_35 nf nf a2 a3 v9 na1 fa1 f7 f5 f4 f6  a2 a3 (f7 (p1 : Int32).toNatClampNeg) 0 f4 f5 f6 f7 v9)))) else (some (0, f4, f5, f6, f7, v9)))))
set_option maxHeartbeats 4000000 in
set_option maxRecDepth 100000 in
/-- ClassMill$Text.nameOf -/
theorem v9_nameOf (l : Launch) (dC : Nat → ClassId) (dI : Nat → Nat → Nat) (sz : Nat) (h0 : Nat) (qa1 : Nat) (a2 : Int32) (a3 : Int32) (qf0 : Nat) (qf1 : Nat) (qf2 : Nat) (v3 : Int32) (qf4 : Nat) (qf5 : Nat) (qf6 : Nat) (qf7 : Nat) (qf8 : Nat) (v9 : Int32) (v10 : Int32) (v11 : Int32) (v12 : Int32) (ca1 : ClassId) (na1 : Nat) (fa1 : (Nat → Int32)) (cf7 : ClassId) (f7 : (Nat → Int32)) (cf5 : ClassId) (f5 : (Nat → Int32)) (cf4 : ClassId) (f4 : (Nat → Int32)) (cf6 : ClassId) (f6 : (Nat → Int32)) (nf : Nat) (r0 : Int32) (o4 : (Nat → Int32)) (o5 : (Nat → Int32)) (o6 : (Nat → Int32)) (o7 : (Nat → Int32)) (w9 : Int32) (hsp : sp_v9_nameOf nf a2 a3 v9 na1 fa1 f7 f5 f4 f6 = some (r0, o4, o5, o6, o7, w9)) : Met l yX9_nameOf (.code yX9_nameOf cX9_nameOf 6 (some .int) :: VS_h7) ({ frames := 2, cells := 0, slots := 0, locals := 45 }) (va_Pc [.ref h0, .ref qa1, .int a2, .int a3] (fun U => U.heap.size = sz ∧ va_P (dC, dI) vwCl [(h0, .inr (9, [.ref qf0, .ref qf1, .ref qf2, .int v3, .ref qf4, .ref qf5, .ref qf6, .ref qf7, .ref qf8, .int v9, .int v10, .int v11, .int v12])), (qa1, .inl (ca1, na1, .inl fa1)), (qf7, .inl (cf7, 64, .inl f7)), (qf5, .inl (cf5, 1741, .inl f5)), (qf4, .inl (cf4, 6400, .inl f4)), (qf6, .inl (cf6, 1740, .inl f6))] U.heap ∧ va_K (dC, dI) vwCl [(ca1, .byte), (cf7, .int), (cf5, .int), (cf4, .byte), (cf6, .int)] U ∧ va_D (fun _ => True) [(h0, .inr (9, [.ref qf0, .ref qf1, .ref qf2, .int v3, .ref qf4, .ref qf5, .ref qf6, .ref qf7, .ref qf8, .int v9, .int v10, .int v11, .int v12])), (qa1, .inl (ca1, na1, .inl fa1)), (qf7, .inl (cf7, 64, .inl f7)), (qf5, .inl (cf5, 1741, .inl f5)), (qf4, .inl (cf4, 6400, .inl f4)), (qf6, .inl (cf6, 1740, .inl f6))])) (va_Qi (fun (r : Int32) (u : Unit) => match u with | () => r0 = r) (fun (u : Unit) (t : State) => match u with | () => va_P (dC, dI) vwCl [(h0, .inr (9, [.ref qf0, .ref qf1, .ref qf2, .int v3, .ref qf4, .ref qf5, .ref qf6, .ref qf7, .ref qf8, .int w9, .int v10, .int v11, .int v12])), (qa1, .inl (ca1, na1, .inl fa1)), (qf7, .inl (cf7, 64, .inl o7)), (qf5, .inl (cf5, 1741, .inl o5)), (qf4, .inl (cf4, 6400, .inl o4)), (qf6, .inl (cf6, 1740, .inl o6))] t.heap ∧ va_K (dC, dI) vwCl [(ca1, .byte), (cf7, .int), (cf5, .int), (cf4, .byte), (cf6, .int)] t ∧ va_D (va_A [(h0, .inr (9, [.ref qf0, .ref qf1, .ref qf2, .int v3, .ref qf4, .ref qf5, .ref qf6, .ref qf7, .ref qf8, .int v9, .int v10, .int v11, .int v12])), (qa1, .inl (ca1, na1, .inl fa1)), (qf7, .inl (cf7, 64, .inl f7)), (qf5, .inl (cf5, 1741, .inl f5)), (qf4, .inl (cf4, 6400, .inl f4)), (qf6, .inl (cf6, 1740, .inl f6))] sz) [(h0, .inr (9, [.ref qf0, .ref qf1, .ref qf2, .int v3, .ref qf4, .ref qf5, .ref qf6, .ref qf7, .ref qf8, .int w9, .int v10, .int v11, .int v12])), (qa1, .inl (ca1, na1, .inl fa1)), (qf7, .inl (cf7, 64, .inl o7)), (qf5, .inl (cf5, 1741, .inl o5)), (qf4, .inl (cf4, 6400, .inl o4)), (qf6, .inl (cf6, 1740, .inl o6))]) (va_A [(h0, .inr (9, [.ref qf0, .ref qf1, .ref qf2, .int v3, .ref qf4, .ref qf5, .ref qf6, .ref qf7, .ref qf8, .int v9, .int v10, .int v11, .int v12])), (qa1, .inl (ca1, na1, .inl fa1)), (qf7, .inl (cf7, 64, .inl f7)), (qf5, .inl (cf5, 1741, .inl f5)), (qf4, .inl (cf4, 6400, .inl f4)), (qf6, .inl (cf6, 1740, .inl f6))] sz)) 0 0 (va_A [(h0, .inr (9, [.ref qf0, .ref qf1, .ref qf2, .int v3, .ref qf4, .ref qf5, .ref qf6, .ref qf7, .ref qf8, .int v9, .int v10, .int v11, .int v12])), (qa1, .inl (ca1, na1, .inl fa1)), (qf7, .inl (cf7, 64, .inl f7)), (qf5, .inl (cf5, 1741, .inl f5)), (qf4, .inl (cf4, 6400, .inl f4)), (qf6, .inl (cf6, 1740, .inl f6))] sz) := by
  refine Met.ofW (cc := cX9_nameOf) (maxL := 6) (ret := (some .int)) (by decide) rfl ?_
  intro p e s m args below meth c s₁ B hml hv
  obtain ⟨rfl, hsz, hP, hK, hD0⟩ := hv
  have hx := B.exec
  have hb := B.bytes
  have hr := B.returns
  have hts := atoms_spec (ws := (.code yX9_nameOf cX9_nameOf 6 (some .int) :: VS_h7)) B.pre
  replace hts := fun w (h : w ∈ VS_h7) => hts w (List.mem_cons_of_mem _ h)
  have hown : s.vm.findClass RX9 = some m.cls := findClass_of_methodNamed B.named
  have hlocks := B.notSynchronized
  subst hsz
  have hD := hD0.self (sz := s.heap.size)
  generalize hAe : va_A [(h0, .inr (9, [.ref qf0, .ref qf1, .ref qf2, .int v3, .ref qf4, .ref qf5, .ref qf6, .ref qf7, .ref qf8, .int v9, .int v10, .int v11, .int v12])), (qa1, .inl (ca1, na1, .inl fa1)), (qf7, .inl (cf7, 64, .inl f7)), (qf5, .inl (cf5, 1741, .inl f5)), (qf4, .inl (cf4, 6400, .inl f4)), (qf6, .inl (cf6, 1740, .inl f6))] s.heap.size = A at hD  ⊢
  have hA : ∀ q : Nat, s.heap.size ≤ q → A q := fun q h => by rw [← hAe]; exact Or.inr h
  have hP : va_P (dC, dI) vwCl [(h0, .inr (9, [.ref qf0, .ref qf1, .ref qf2, .int v3, .ref qf4, .ref qf5, .ref qf6, .ref qf7, .ref qf8, .int v9, .int v10, .int v11, .int v12])), (qa1, .inl (ca1, na1, .inl fa1)), (qf7, .inl (cf7, 64, .inl f7)), (qf5, .inl (cf5, 1741, .inl f5)), (qf4, .inl (cf4, 6400, .inl f4)), (qf6, .inl (cf6, 1740, .inl f6))] s.heap := hP
  have hl := lv_entry ([.ref h0, .ref qa1, .int a2, .int a3]) (n := 6) (Nat.le_of_ble_eq_true rfl)
  rw [lg_entry_eq]
  generalize (lg_sl ([.ref h0, .ref qa1, .int a2, .int a3]) ++ List.replicate (6 - (lg_sl ([.ref h0, .ref qa1, .int a2, .int a3])).length) Slot.unset).toArray = ls at hl ⊢
  have hl : lv_has ls 6 [(0, .ref h0), (1, .ref qa1), (2, .int a2), (3, .int a3)] := hl
  obtain ⟨H, hH⟩ : ∃ H : Heap, s.heap = H := ⟨_, rfl⟩
  rw [hH] at hP ⊢
  have hS : va_S A s.heap H [] := by rw [← hH]; exact va_S.rf
  obtain ⟨locs, hlo⟩ : ∃ locs : List Loc, locs = [] := ⟨_, rfl⟩
  rw [← hlo] at hS ⊢
  unfold sp_v9_nameOf at hsp
  refine jn_use (α := Heap × List Loc × Array Slot × Int32 × Int32 × (Nat → Int32) × (Nat → Int32) × (Nat → Int32) × (Nat → Int32) × Int32) (fun x9 => x9.1) (fun x9 => x9.2.1) (fun x9 => F0 m 79 x9.2.2.1 []) (fun x9 => match x9 with | (H, locs, ls, l2_79, l3_79, g4_79, g5_79, g6_79, g7_79, x9_79) => lv_has ls 6 [(0, .ref h0), (1, .ref qa1), (2, .int l2_79), (3, .int l3_79)] ∧ va_S A s.heap H locs ∧ va_D A [(h0, .inr (9, [.ref qf0, .ref qf1, .ref qf2, .int v3, .ref qf4, .ref qf5, .ref qf6, .ref qf7, .ref qf8, .int x9_79, .int v10, .int v11, .int v12])), (qa1, .inl (ca1, na1, .inl fa1)), (qf7, .inl (cf7, 64, .inl g7_79)), (qf5, .inl (cf5, 1741, .inl g5_79)), (qf4, .inl (cf4, 6400, .inl g4_79)), (qf6, .inl (cf6, 1740, .inl g6_79))] ∧ va_P (dC, dI) vwCl [(h0, .inr (9, [.ref qf0, .ref qf1, .ref qf2, .int v3, .ref qf4, .ref qf5, .ref qf6, .ref qf7, .ref qf8, .int x9_79, .int v10, .int v11, .int v12])), (qa1, .inl (ca1, na1, .inl fa1)), (qf7, .inl (cf7, 64, .inl g7_79)), (qf5, .inl (cf5, 1741, .inl g5_79)), (qf4, .inl (cf4, 6400, .inl g4_79)), (qf6, .inl (cf6, 1740, .inl g6_79))] H ∧ jn_v9_nameOf_79 nf a2 a3 v9 na1 fa1 f7 f5 f4 f6 l2_79 l3_79 g4_79 g5_79 g6_79 g7_79 x9_79 = some (r0, o4, o5, o6, o7, w9)) ?_ ?_
  · intro x9 hJ9
    obtain ⟨H, locs, ls, l2_79, l3_79, g4_79, g5_79, g6_79, g7_79, x9_79⟩ := x9
    obtain ⟨hl, hS, hD, hP, hsp⟩ := hJ9
    replace hl : lv_has ls 6 [(0, .ref h0), (1, .ref qa1), (2, .int l2_79), (3, .int l3_79)] := hl
    replace hS : va_S A s.heap H locs := hS
    replace hD : va_D A [(h0, .inr (9, [.ref qf0, .ref qf1, .ref qf2, .int v3, .ref qf4, .ref qf5, .ref qf6, .ref qf7, .ref qf8, .int x9_79, .int v10, .int v11, .int v12])), (qa1, .inl (ca1, na1, .inl fa1)), (qf7, .inl (cf7, 64, .inl g7_79)), (qf5, .inl (cf5, 1741, .inl g5_79)), (qf4, .inl (cf4, 6400, .inl g4_79)), (qf6, .inl (cf6, 1740, .inl g6_79))] := hD
    replace hP : va_P (dC, dI) vwCl [(h0, .inr (9, [.ref qf0, .ref qf1, .ref qf2, .int v3, .ref qf4, .ref qf5, .ref qf6, .ref qf7, .ref qf8, .int x9_79, .int v10, .int v11, .int v12])), (qa1, .inl (ca1, na1, .inl fa1)), (qf7, .inl (cf7, 64, .inl g7_79)), (qf5, .inl (cf5, 1741, .inl g5_79)), (qf4, .inl (cf4, 6400, .inl g4_79)), (qf6, .inl (cf6, 1740, .inl g6_79))] H := hP
    replace hsp : jn_v9_nameOf_79 nf a2 a3 v9 na1 fa1 f7 f5 f4 f6 l2_79 l3_79 g4_79 g5_79 g6_79 g7_79 x9_79 = some (r0, o4, o5, o6, o7, w9) := hsp
    show W _ _ _ _ _ _ _ _ _ _ H locs _ _ _ (F0 m 79 ls [])
    unfold jn_v9_nameOf_79 at hsp
    try dsimp only at hsp
    refine lv_aload_n hx hb dX9_nameOf_79 rfl (lv_at hl 0 rfl) ?_
    refine va_get (D := (dC, dI)) (ci := 9) (v := .ref qf5) (C := RX9) (T := TX9) (N := 13) hx hb hts uV_h7_X9 hown hK hP 0 rfl rfl 5 (by decide) (hts (.fieldLink RX9 29 "ClassMill$Text" "nameAt" "[I") mw_h7_290) (fun _ h9 => h9) rfl dX9_nameOf_80 ?_
    refine lv_aload_n hx hb dX9_nameOf_83 rfl (lv_at hl 0 rfl) ?_
    refine va_get (D := (dC, dI)) (ci := 9) (v := .int x9_79) (C := RX9) (T := TX9) (N := 13) hx hb hts uV_h7_X9 hown hK hP 0 rfl rfl 9 (by decide) (hts (.fieldLink RX9 73 "ClassMill$Text" "names" "I") mw_h7_319) (fun _ h9 => h9) rfl dX9_nameOf_84 ?_
    obtain ⟨hi_12, hsp⟩ := ox_in hsp
    refine va_iald hx hb hK hP 3 2 rfl rfl (i := x9_79) hi_12 dX9_nameOf_87 ?_
    refine lv_istore (lv' := [(5, .int (g5_79 (x9_79 : Int32).toNatClampNeg)), (0, .ref h0), (1, .ref qa1), (2, .int l2_79), (3, .int l3_79)]) hx hb dX9_nameOf_88 hl (by decide) rfl (fun ls hl => ?_)
    refine lv_aload_n hx hb dX9_nameOf_90 rfl (lv_at hl 1 rfl) ?_
    refine va_get (D := (dC, dI)) (ci := 9) (v := .int x9_79) (C := RX9) (T := TX9) (N := 13) hx hb hts uV_h7_X9 hown hK hP 0 rfl rfl 9 (by decide) (hts (.fieldLink RX9 73 "ClassMill$Text" "names" "I") mw_h7_319) (fun _ h9 => h9) rfl dX9_nameOf_91 ?_
    refine lv_sipush (v := 1740) hx hb dX9_nameOf_94 (by decide) ?_
    refine lv_icmp_ge (tgt := 112) hx hb dX9_nameOf_97 (by decide) (fun c_13 => ?_) (fun c_13 => ?_)
    · rw [if_pos c_13] at hsp
      refine lv_iconst (v := 0) hx hb dX9_nameOf_112 (by decide) ?_
      have hr0 := Option.some.inj hsp
      clear hsp
      obtain ⟨hq0, hr1⟩ := Prod.mk.inj hr0
      clear hr0
      obtain ⟨hq1, hr2⟩ := Prod.mk.inj hr1
      clear hr1
      obtain ⟨hq2, hr3⟩ := Prod.mk.inj hr2
      clear hr2
      obtain ⟨hq3, hr4⟩ := Prod.mk.inj hr3
      clear hr3
      obtain ⟨hq4, hr5⟩ := Prod.mk.inj hr4
      clear hr4
      subst hq0
      subst hq1
      subst hq2
      subst hq3
      subst hq4
      subst hr5
      have hP9 := hP.sub (ws' := [(h0, .inr (9, [.ref qf0, .ref qf1, .ref qf2, .int v3, .ref qf4, .ref qf5, .ref qf6, .ref qf7, .ref qf8, .int x9_79, .int v10, .int v11, .int v12])), (qa1, .inl (ca1, na1, .inl fa1)), (qf7, .inl (cf7, 64, .inl g7_79)), (qf5, .inl (cf5, 1741, .inl g5_79)), (qf4, .inl (cf4, 6400, .inl g4_79)), (qf6, .inl (cf6, 1740, .inl g6_79))]) [0, 1, 2, 3, 4, 5] rfl
      have hD9 := hD.sub (ws' := [(h0, .inr (9, [.ref qf0, .ref qf1, .ref qf2, .int v3, .ref qf4, .ref qf5, .ref qf6, .ref qf7, .ref qf8, .int x9_79, .int v10, .int v11, .int v12])), (qa1, .inl (ca1, na1, .inl fa1)), (qf7, .inl (cf7, 64, .inl g7_79)), (qf5, .inl (cf5, 1741, .inl g5_79)), (qf4, .inl (cf4, 6400, .inl g4_79)), (qf6, .inl (cf6, 1740, .inl g6_79))]) [0, 1, 2, 3, 4, 5] (by decide) rfl
      have hK9 := hK.sub (tys' := [(ca1, .byte), (cf7, .int), (cf5, .int), (cf4, .byte), (cf6, .int)]) [0, 1, 2, 3, 4] rfl
      exact W.iret hx hb hr (fun t ht hW => ⟨⟨(0), (), rfl, rfl, by rw [ht]; exact hP9, va_K.moved hW.alike hK9, hD9⟩, hS.F ht⟩) hS.2.2 dX9_nameOf_113
    · rw [if_neg c_13] at hsp
      refine lv_iload hx hb dX9_nameOf_100 (lv_at hl 0 rfl) ?_
      refine lv_iload_n hx hb dX9_nameOf_102 rfl (lv_at hl 4 rfl) ?_
      refine lv_iadd hx hb dX9_nameOf_103 ?_
      refine lv_aload_n hx hb dX9_nameOf_104 rfl (lv_at hl 1 rfl) ?_
      refine va_get (D := (dC, dI)) (ci := 9) (v := .ref qf4) (C := RX9) (T := TX9) (N := 13) hx hb hts uV_h7_X9 hown hK hP 0 rfl rfl 4 (by decide) (hts (.fieldLink RX9 25 "ClassMill$Text" "letters" "[B") mw_h7_289) (fun _ h9 => h9) rfl dX9_nameOf_105 ?_
      refine va_alen (v := 6400) hx hb hK hP 4 3 rfl rfl rfl dX9_nameOf_108 ?_
      refine lv_icmp_le (tgt := 114) hx hb dX9_nameOf_109 (by decide) (fun c_14 => ?_) (fun c_14 => ?_)
      · rw [if_pos c_14] at hsp
        refine lv_aload_n hx hb dX9_nameOf_114 rfl (lv_at hl 2 rfl) ?_
        refine lv_iload_n hx hb dX9_nameOf_115 rfl (lv_at hl 3 rfl) ?_
        refine lv_aload_n hx hb dX9_nameOf_116 rfl (lv_at hl 1 rfl) ?_
        refine va_get (D := (dC, dI)) (ci := 9) (v := .ref qf4) (C := RX9) (T := TX9) (N := 13) hx hb hts uV_h7_X9 hown hK hP 0 rfl rfl 4 (by decide) (hts (.fieldLink RX9 25 "ClassMill$Text" "letters" "[B") mw_h7_289) (fun _ h9 => h9) rfl dX9_nameOf_117 ?_
        refine lv_iload hx hb dX9_nameOf_120 (lv_at hl 0 rfl) ?_
        refine lv_iload_n hx hb dX9_nameOf_122 rfl (lv_at hl 4 rfl) ?_
        obtain ⟨⟨hc_151, hc_152, hc_153, hc_154, hc_155⟩, hsp⟩ := ox_cp hsp
        obtain ⟨hc_156, hsp⟩ := ox_fit hsp
        refine va_copyi hx hb (by rw [hml]; exact hl.1.symm) hown (hts (.methodLink RX9 67 arraycopyName) mw_h7_291) (hts (.native arraycopyName) mw_h7_29) (hts (.static arraycopyName) mw_h7_30) (hts (.initialized "java/lang/System") mw_h7_31) hK hP hD hS 1 4 0 3 rfl rfl rfl rfl rfl (sp := l2_79) (dp := (g5_79 (x9_79 : Int32).toNatClampNeg)) (n := l3_79) hc_151 hc_152 hc_153 hc_154 hc_155 hc_156 (Nat.le_of_ble_eq_true rfl) (Nat.le_of_ble_eq_true rfl) dX9_nameOf_123 ?_
        clear hP hD hS
        intro H locs hP hD hS
        replace hP : va_P (dC, dI) vwCl [(h0, .inr (9, [.ref qf0, .ref qf1, .ref qf2, .int v3, .ref qf4, .ref qf5, .ref qf6, .ref qf7, .ref qf8, .int x9_79, .int v10, .int v11, .int v12])), (qa1, .inl (ca1, na1, .inl fa1)), (qf7, .inl (cf7, 64, .inl g7_79)), (qf5, .inl (cf5, 1741, .inl g5_79)), (qf4, .inl (cf4, 6400, .inl (va_cpy fa1 g4_79 (l2_79 : Int32).toNatClampNeg ((g5_79 (x9_79 : Int32).toNatClampNeg) : Int32).toNatClampNeg (l3_79 : Int32).toNatClampNeg))), (qf6, .inl (cf6, 1740, .inl g6_79))] H := hP
        replace hD : va_D A [(h0, .inr (9, [.ref qf0, .ref qf1, .ref qf2, .int v3, .ref qf4, .ref qf5, .ref qf6, .ref qf7, .ref qf8, .int x9_79, .int v10, .int v11, .int v12])), (qa1, .inl (ca1, na1, .inl fa1)), (qf7, .inl (cf7, 64, .inl g7_79)), (qf5, .inl (cf5, 1741, .inl g5_79)), (qf4, .inl (cf4, 6400, .inl (va_cpy fa1 g4_79 (l2_79 : Int32).toNatClampNeg ((g5_79 (x9_79 : Int32).toNatClampNeg) : Int32).toNatClampNeg (l3_79 : Int32).toNatClampNeg))), (qf6, .inl (cf6, 1740, .inl g6_79))] := hD
        refine lv_aload_n hx hb dX9_nameOf_126 rfl (lv_at hl 1 rfl) ?_
        refine lv_iload hx hb dX9_nameOf_127 (lv_at hl 0 rfl) ?_
        refine lv_iload_n hx hb dX9_nameOf_129 rfl (lv_at hl 4 rfl) ?_
        refine lv_iadd hx hb dX9_nameOf_130 ?_
        obtain ⟨⟨g903_0, g903_1, g903_2, u3_3⟩, hu_3, hsp⟩ := ox_bind hsp
        try dsimp only at hsp
        have hPc := hP.sub (ws' := [(h0, .inr (9, [.ref qf0, .ref qf1, .ref qf2, .int v3, .ref qf4, .ref qf5, .ref qf6, .ref qf7, .ref qf8, .int x9_79, .int v10, .int v11, .int v12])), (qf5, .inl (cf5, 1741, .inl g5_79)), (qf4, .inl (cf4, 6400, .inl (va_cpy fa1 g4_79 (l2_79 : Int32).toNatClampNeg ((g5_79 (x9_79 : Int32).toNatClampNeg) : Int32).toNatClampNeg (l3_79 : Int32).toNatClampNeg))), (qf7, .inl (cf7, 64, .inl g7_79)), (qf6, .inl (cf6, 1740, .inl g6_79))]) [0, 3, 4, 2, 5] rfl
        have hDc := hD.sub (ws' := [(h0, .inr (9, [.ref qf0, .ref qf1, .ref qf2, .int v3, .ref qf4, .ref qf5, .ref qf6, .ref qf7, .ref qf8, .int x9_79, .int v10, .int v11, .int v12])), (qf5, .inl (cf5, 1741, .inl g5_79)), (qf4, .inl (cf4, 6400, .inl (va_cpy fa1 g4_79 (l2_79 : Int32).toNatClampNeg ((g5_79 (x9_79 : Int32).toNatClampNeg) : Int32).toNatClampNeg (l3_79 : Int32).toNatClampNeg))), (qf7, .inl (cf7, 64, .inl g7_79)), (qf6, .inl (cf6, 1740, .inl g6_79))]) [0, 3, 4, 2, 5] (by decide) rfl
        have hKc := hK.sub (tys' := [(cf5, .int), (cf4, .byte), (cf7, .int), (cf6, .int)]) [2, 3, 1, 4] rfl
        have hFc := va_free (wc := [(h0, .inr (9, [.ref qf0, .ref qf1, .ref qf2, .int v3, .ref qf4, .ref qf5, .ref qf6, .ref qf7, .ref qf8, .int x9_79, .int v10, .int v11, .int v12])), (qf5, .inl (cf5, 1741, .inl g5_79)), (qf4, .inl (cf4, 6400, .inl (va_cpy fa1 g4_79 (l2_79 : Int32).toNatClampNeg ((g5_79 (x9_79 : Int32).toNatClampNeg) : Int32).toNatClampNeg (l3_79 : Int32).toNatClampNeg))), (qf7, .inl (cf7, 64, .inl g7_79)), (qf6, .inl (cf6, 1740, .inl g6_79))]) hD hS hA [0, 3, 4, 2, 5] rfl
        refine va_callv (va_runV (As := [.int ((g5_79 (x9_79 : Int32).toNatClampNeg) + l3_79)]) (rest := []) ⟨hx, hb, hml, hown, hts⟩ (t9_closeName l dC dI H.size h0 (((g5_79 (x9_79 : Int32).toNatClampNeg) + l3_79)) qf0 qf1 qf2 v3 qf4 qf5 qf6 qf7 qf8 x9_79 v10 v11 v12 cf5 g5_79 cf4 ((va_cpy fa1 g4_79 (l2_79 : Int32).toNatClampNeg ((g5_79 (x9_79 : Int32).toNatClampNeg) : Int32).toNatClampNeg (l3_79 : Int32).toNatClampNeg)) cf7 g7_79 cf6 g6_79 nf g903_0 g903_1 g903_2 u3_3 hu_3) (cwV 1 hts gv_h7_69 rfl rfl rfl (by decide +kernel) ⟨Nat.le_of_ble_eq_true rfl, Nat.le_of_ble_eq_true rfl⟩) ⟨fun a U g mk q => by obtain ⟨q0, q1, qP, qK, qD⟩ := q; exact ⟨q0, q1, qP, va_K.moved (u := U) (U := U.calling g mk a) (Vm.Alike.refl U.vm) qK, qD⟩, va_recv hKc hPc (ci := 9) (q0 := 0) rfl rfl, fun U hU hW => ⟨rfl, by rw [hU], by rw [hU]; exact hPc, va_K.moved hW.alike hKc, hDc.weaken (fun _ _ _ _ => trivial)⟩⟩ rfl rfl hl.1 rfl (lv_room (Nat.le_of_ble_eq_true rfl)) dX9_nameOf_131 ⟨Nat.le_of_ble_eq_true rfl, Nat.le_of_ble_eq_true rfl⟩) hS (fun q _ h => hFc q h) hFc ?_
        clear hS
        intro u t H1 locs ht hvm hw hB hz1 hk1 hS
        obtain ⟨⟩ := u
        obtain ⟨hP1, hK1, hD1⟩ := hB
        rw [ht] at hP1
        have hK1 := va_K.moved hvm.symm hK1
        try dsimp only at hw
        have hPD := va_join (wr := [(qa1, .inl (ca1, na1, .inl fa1))]) (w1 := [(h0, .inr (9, [.ref qf0, .ref qf1, .ref qf2, .int v3, .ref qf4, .ref qf5, .ref qf6, .ref qf7, .ref qf8, .int u3_3, .int v10, .int v11, .int v12])), (qf5, .inl (cf5, 1741, .inl g903_0)), (qf4, .inl (cf4, 6400, .inl (va_cpy fa1 g4_79 (l2_79 : Int32).toNatClampNeg ((g5_79 (x9_79 : Int32).toNatClampNeg) : Int32).toNatClampNeg (l3_79 : Int32).toNatClampNeg))), (qf7, .inl (cf7, 64, .inl g903_2)), (qf6, .inl (cf6, 1740, .inl g903_1))]) hP hD [0, 3, 4, 2, 5] [1] rfl rfl (by decide) (by decide) hk1 hFc hP1 hD1
        clear hP hD
        obtain ⟨hP, hD⟩ := hPD
        replace hK := (hK.sub (tys' := [(ca1, .byte)]) [0] rfl).app hK1
        clear hPc hDc hKc hFc hP1 hK1 hD1 hz1 hk1 ht hvm
        generalize H1 = H at hP hS ⊢
        replace hP : va_P (dC, dI) vwCl [(qa1, .inl (ca1, na1, .inl fa1)), (h0, .inr (9, [.ref qf0, .ref qf1, .ref qf2, .int v3, .ref qf4, .ref qf5, .ref qf6, .ref qf7, .ref qf8, .int u3_3, .int v10, .int v11, .int v12])), (qf5, .inl (cf5, 1741, .inl g903_0)), (qf4, .inl (cf4, 6400, .inl (va_cpy fa1 g4_79 (l2_79 : Int32).toNatClampNeg ((g5_79 (x9_79 : Int32).toNatClampNeg) : Int32).toNatClampNeg (l3_79 : Int32).toNatClampNeg))), (qf7, .inl (cf7, 64, .inl g903_2)), (qf6, .inl (cf6, 1740, .inl g903_1))] H := hP
        replace hD : va_D A [(qa1, .inl (ca1, na1, .inl fa1)), (h0, .inr (9, [.ref qf0, .ref qf1, .ref qf2, .int v3, .ref qf4, .ref qf5, .ref qf6, .ref qf7, .ref qf8, .int u3_3, .int v10, .int v11, .int v12])), (qf5, .inl (cf5, 1741, .inl g903_0)), (qf4, .inl (cf4, 6400, .inl (va_cpy fa1 g4_79 (l2_79 : Int32).toNatClampNeg ((g5_79 (x9_79 : Int32).toNatClampNeg) : Int32).toNatClampNeg (l3_79 : Int32).toNatClampNeg))), (qf7, .inl (cf7, 64, .inl g903_2)), (qf6, .inl (cf6, 1740, .inl g903_1))] := hD
        replace hK : va_K (dC, dI) vwCl [(ca1, .byte), (cf5, .int), (cf4, .byte), (cf7, .int), (cf6, .int)] s := hK
        refine lv_aload_n hx hb dX9_nameOf_134 rfl (lv_at hl 1 rfl) ?_
        refine va_get (D := (dC, dI)) (ci := 9) (v := .int u3_3) (C := RX9) (T := TX9) (N := 13) hx hb hts uV_h7_X9 hown hK hP 1 rfl rfl 9 (by decide) (hts (.fieldLink RX9 73 "ClassMill$Text" "names" "I") mw_h7_319) (fun _ h9 => h9) rfl dX9_nameOf_135 ?_
        refine lv_iconst (v := 1) hx hb dX9_nameOf_138 (by decide) ?_
        refine lv_isub hx hb dX9_nameOf_139 ?_
        have hr0 := Option.some.inj hsp
        clear hsp
        obtain ⟨hq0, hr1⟩ := Prod.mk.inj hr0
        clear hr0
        obtain ⟨hq1, hr2⟩ := Prod.mk.inj hr1
        clear hr1
        obtain ⟨hq2, hr3⟩ := Prod.mk.inj hr2
        clear hr2
        obtain ⟨hq3, hr4⟩ := Prod.mk.inj hr3
        clear hr3
        obtain ⟨hq4, hr5⟩ := Prod.mk.inj hr4
        clear hr4
        subst hq0
        subst hq1
        subst hq2
        subst hq3
        subst hq4
        subst hr5
        have hP9 := hP.sub (ws' := [(h0, .inr (9, [.ref qf0, .ref qf1, .ref qf2, .int v3, .ref qf4, .ref qf5, .ref qf6, .ref qf7, .ref qf8, .int u3_3, .int v10, .int v11, .int v12])), (qa1, .inl (ca1, na1, .inl fa1)), (qf7, .inl (cf7, 64, .inl g903_2)), (qf5, .inl (cf5, 1741, .inl g903_0)), (qf4, .inl (cf4, 6400, .inl (va_cpy fa1 g4_79 (l2_79 : Int32).toNatClampNeg ((g5_79 (x9_79 : Int32).toNatClampNeg) : Int32).toNatClampNeg (l3_79 : Int32).toNatClampNeg))), (qf6, .inl (cf6, 1740, .inl g903_1))]) [1, 0, 4, 2, 3, 5] rfl
        have hD9 := hD.sub (ws' := [(h0, .inr (9, [.ref qf0, .ref qf1, .ref qf2, .int v3, .ref qf4, .ref qf5, .ref qf6, .ref qf7, .ref qf8, .int u3_3, .int v10, .int v11, .int v12])), (qa1, .inl (ca1, na1, .inl fa1)), (qf7, .inl (cf7, 64, .inl g903_2)), (qf5, .inl (cf5, 1741, .inl g903_0)), (qf4, .inl (cf4, 6400, .inl (va_cpy fa1 g4_79 (l2_79 : Int32).toNatClampNeg ((g5_79 (x9_79 : Int32).toNatClampNeg) : Int32).toNatClampNeg (l3_79 : Int32).toNatClampNeg))), (qf6, .inl (cf6, 1740, .inl g903_1))]) [1, 0, 4, 2, 3, 5] (by decide) rfl
        have hK9 := hK.sub (tys' := [(ca1, .byte), (cf7, .int), (cf5, .int), (cf4, .byte), (cf6, .int)]) [0, 3, 1, 2, 4] rfl
        exact W.iret hx hb hr (fun t ht hW => ⟨⟨((u3_3 - 1)), (), rfl, rfl, by rw [ht]; exact hP9, va_K.moved hW.alike hK9, hD9⟩, hS.F ht⟩) hS.2.2 dX9_nameOf_140
      · rw [if_neg c_14] at hsp
        refine lv_iconst (v := 0) hx hb dX9_nameOf_112 (by decide) ?_
        have hr0 := Option.some.inj hsp
        clear hsp
        obtain ⟨hq0, hr1⟩ := Prod.mk.inj hr0
        clear hr0
        obtain ⟨hq1, hr2⟩ := Prod.mk.inj hr1
        clear hr1
        obtain ⟨hq2, hr3⟩ := Prod.mk.inj hr2
        clear hr2
        obtain ⟨hq3, hr4⟩ := Prod.mk.inj hr3
        clear hr3
        obtain ⟨hq4, hr5⟩ := Prod.mk.inj hr4
        clear hr4
        subst hq0
        subst hq1
        subst hq2
        subst hq3
        subst hq4
        subst hr5
        have hP9 := hP.sub (ws' := [(h0, .inr (9, [.ref qf0, .ref qf1, .ref qf2, .int v3, .ref qf4, .ref qf5, .ref qf6, .ref qf7, .ref qf8, .int x9_79, .int v10, .int v11, .int v12])), (qa1, .inl (ca1, na1, .inl fa1)), (qf7, .inl (cf7, 64, .inl g7_79)), (qf5, .inl (cf5, 1741, .inl g5_79)), (qf4, .inl (cf4, 6400, .inl g4_79)), (qf6, .inl (cf6, 1740, .inl g6_79))]) [0, 1, 2, 3, 4, 5] rfl
        have hD9 := hD.sub (ws' := [(h0, .inr (9, [.ref qf0, .ref qf1, .ref qf2, .int v3, .ref qf4, .ref qf5, .ref qf6, .ref qf7, .ref qf8, .int x9_79, .int v10, .int v11, .int v12])), (qa1, .inl (ca1, na1, .inl fa1)), (qf7, .inl (cf7, 64, .inl g7_79)), (qf5, .inl (cf5, 1741, .inl g5_79)), (qf4, .inl (cf4, 6400, .inl g4_79)), (qf6, .inl (cf6, 1740, .inl g6_79))]) [0, 1, 2, 3, 4, 5] (by decide) rfl
        have hK9 := hK.sub (tys' := [(ca1, .byte), (cf7, .int), (cf5, .int), (cf4, .byte), (cf6, .int)]) [0, 1, 2, 3, 4] rfl
        exact W.iret hx hb hr (fun t ht hW => ⟨⟨(0), (), rfl, rfl, by rw [ht]; exact hP9, va_K.moved hW.alike hK9, hD9⟩, hS.F ht⟩) hS.2.2 dX9_nameOf_113
  intro hj_79
  refine lv_iload_n hx hb dX9_nameOf_0 rfl (lv_at hl 3 rfl) ?_
  refine lv_iconst (v := 1) hx hb dX9_nameOf_1 (by decide) ?_
  refine lv_icmp_lt (tgt := 17) hx hb dX9_nameOf_2 (by decide) (fun c_1 => ?_) (fun c_1 => ?_)
  · rw [if_pos c_1] at hsp
    refine lv_iconst (v := 0) hx hb dX9_nameOf_17 (by decide) ?_
    have hr0 := Option.some.inj hsp
    clear hsp
    obtain ⟨hq0, hr1⟩ := Prod.mk.inj hr0
    clear hr0
    obtain ⟨hq1, hr2⟩ := Prod.mk.inj hr1
    clear hr1
    obtain ⟨hq2, hr3⟩ := Prod.mk.inj hr2
    clear hr2
    obtain ⟨hq3, hr4⟩ := Prod.mk.inj hr3
    clear hr3
    obtain ⟨hq4, hr5⟩ := Prod.mk.inj hr4
    clear hr4
    subst hq0
    subst hq1
    subst hq2
    subst hq3
    subst hq4
    subst hr5
    have hP9 := hP.sub (ws' := [(h0, .inr (9, [.ref qf0, .ref qf1, .ref qf2, .int v3, .ref qf4, .ref qf5, .ref qf6, .ref qf7, .ref qf8, .int v9, .int v10, .int v11, .int v12])), (qa1, .inl (ca1, na1, .inl fa1)), (qf7, .inl (cf7, 64, .inl f7)), (qf5, .inl (cf5, 1741, .inl f5)), (qf4, .inl (cf4, 6400, .inl f4)), (qf6, .inl (cf6, 1740, .inl f6))]) [0, 1, 2, 3, 4, 5] rfl
    have hD9 := hD.sub (ws' := [(h0, .inr (9, [.ref qf0, .ref qf1, .ref qf2, .int v3, .ref qf4, .ref qf5, .ref qf6, .ref qf7, .ref qf8, .int v9, .int v10, .int v11, .int v12])), (qa1, .inl (ca1, na1, .inl fa1)), (qf7, .inl (cf7, 64, .inl f7)), (qf5, .inl (cf5, 1741, .inl f5)), (qf4, .inl (cf4, 6400, .inl f4)), (qf6, .inl (cf6, 1740, .inl f6))]) [0, 1, 2, 3, 4, 5] (by decide) rfl
    have hK9 := hK.sub (tys' := [(ca1, .byte), (cf7, .int), (cf5, .int), (cf4, .byte), (cf6, .int)]) [0, 1, 2, 3, 4] rfl
    exact W.iret hx hb hr (fun t ht hW => ⟨⟨(0), (), rfl, rfl, by rw [ht]; exact hP9, va_K.moved hW.alike hK9, hD9⟩, hS.F ht⟩) hS.2.2 dX9_nameOf_18
  · rw [if_neg c_1] at hsp
    refine lv_iload_n hx hb dX9_nameOf_5 rfl (lv_at hl 2 rfl) ?_
    refine lv_if_lt (tgt := 17) hx hb dX9_nameOf_6 (by decide) (fun c_2 => ?_) (fun c_2 => ?_)
    · rw [if_pos c_2] at hsp
      refine lv_iconst (v := 0) hx hb dX9_nameOf_17 (by decide) ?_
      have hr0 := Option.some.inj hsp
      clear hsp
      obtain ⟨hq0, hr1⟩ := Prod.mk.inj hr0
      clear hr0
      obtain ⟨hq1, hr2⟩ := Prod.mk.inj hr1
      clear hr1
      obtain ⟨hq2, hr3⟩ := Prod.mk.inj hr2
      clear hr2
      obtain ⟨hq3, hr4⟩ := Prod.mk.inj hr3
      clear hr3
      obtain ⟨hq4, hr5⟩ := Prod.mk.inj hr4
      clear hr4
      subst hq0
      subst hq1
      subst hq2
      subst hq3
      subst hq4
      subst hr5
      have hP9 := hP.sub (ws' := [(h0, .inr (9, [.ref qf0, .ref qf1, .ref qf2, .int v3, .ref qf4, .ref qf5, .ref qf6, .ref qf7, .ref qf8, .int v9, .int v10, .int v11, .int v12])), (qa1, .inl (ca1, na1, .inl fa1)), (qf7, .inl (cf7, 64, .inl f7)), (qf5, .inl (cf5, 1741, .inl f5)), (qf4, .inl (cf4, 6400, .inl f4)), (qf6, .inl (cf6, 1740, .inl f6))]) [0, 1, 2, 3, 4, 5] rfl
      have hD9 := hD.sub (ws' := [(h0, .inr (9, [.ref qf0, .ref qf1, .ref qf2, .int v3, .ref qf4, .ref qf5, .ref qf6, .ref qf7, .ref qf8, .int v9, .int v10, .int v11, .int v12])), (qa1, .inl (ca1, na1, .inl fa1)), (qf7, .inl (cf7, 64, .inl f7)), (qf5, .inl (cf5, 1741, .inl f5)), (qf4, .inl (cf4, 6400, .inl f4)), (qf6, .inl (cf6, 1740, .inl f6))]) [0, 1, 2, 3, 4, 5] (by decide) rfl
      have hK9 := hK.sub (tys' := [(ca1, .byte), (cf7, .int), (cf5, .int), (cf4, .byte), (cf6, .int)]) [0, 1, 2, 3, 4] rfl
      exact W.iret hx hb hr (fun t ht hW => ⟨⟨(0), (), rfl, rfl, by rw [ht]; exact hP9, va_K.moved hW.alike hK9, hD9⟩, hS.F ht⟩) hS.2.2 dX9_nameOf_18
    · rw [if_neg c_2] at hsp
      refine lv_iload_n hx hb dX9_nameOf_9 rfl (lv_at hl 2 rfl) ?_
      refine lv_iload_n hx hb dX9_nameOf_10 rfl (lv_at hl 3 rfl) ?_
      refine lv_iadd hx hb dX9_nameOf_11 ?_
      refine lv_aload_n hx hb dX9_nameOf_12 rfl (lv_at hl 1 rfl) ?_
      refine va_alen (v := nI na1) hx hb hK hP 1 0 rfl rfl rfl dX9_nameOf_13 ?_
      refine lv_icmp_le (tgt := 19) hx hb dX9_nameOf_14 (by decide) (fun c_3 => ?_) (fun c_3 => ?_)
      · rw [if_pos c_3] at hsp
        refine lv_aload_n hx hb dX9_nameOf_19 rfl (lv_at hl 0 rfl) ?_
        refine va_get (D := (dC, dI)) (ci := 9) (v := .ref qf7) (C := RX9) (T := TX9) (N := 13) hx hb hts uV_h7_X9 hown hK hP 0 rfl rfl 7 (by decide) (hts (.fieldLink RX9 35 "ClassMill$Text" "bucket" "[I") mw_h7_320) (fun _ h9 => h9) rfl dX9_nameOf_20 ?_
        refine lv_aload_n hx hb dX9_nameOf_23 rfl (lv_at hl 1 rfl) ?_
        refine lv_iload_n hx hb dX9_nameOf_24 rfl (lv_at hl 2 rfl) ?_
        refine lv_iload_n hx hb dX9_nameOf_25 rfl (lv_at hl 3 rfl) ?_
        obtain ⟨u1_0, hu_1, hsp⟩ := ox_bind hsp
        try dsimp only at hsp
        have hPc := hP.sub (ws' := [(qa1, .inl (ca1, na1, .inl fa1))]) [1] rfl
        have hDc := hD.sub (ws' := [(qa1, .inl (ca1, na1, .inl fa1))]) [1] (by decide) rfl
        have hKc := hK.sub (tys' := [(ca1, .byte)]) [0] rfl
        have hFc := va_free (wc := [(qa1, .inl (ca1, na1, .inl fa1))]) hD hS hA [1] rfl
        refine va_calli (va_runS (As := [.ref qa1, .int a2, .int a3]) (rest := [.ref qf7]) ⟨hx, hb, hml, hown, hts⟩ (t9_bucketOf l dC dI H.size qa1 a2 a3 ca1 na1 fa1 nf u1_0 hu_1) (va_cwS 3 hts gv_h7_67 rfl rfl rfl (by decide +kernel) ⟨Nat.le_of_ble_eq_true rfl, Nat.le_of_ble_eq_true rfl⟩) ⟨fun a U g mk q => by obtain ⟨q0, q1, qP, qK, qD⟩ := q; exact ⟨q0, q1, qP, va_K.moved (u := U) (U := U.calling g mk a) (Vm.Alike.refl U.vm) qK, qD⟩, fun U hU hW => ⟨rfl, by rw [hU], by rw [hU]; exact hPc, va_K.moved hW.alike hKc, hDc.weaken (fun _ _ _ _ => trivial)⟩⟩ rfl rfl hl.1 rfl (lv_room (Nat.le_of_ble_eq_true rfl)) dX9_nameOf_26 ⟨Nat.le_of_ble_eq_true rfl, Nat.le_of_ble_eq_true rfl⟩) hS (fun q _ h => hFc q h) hFc ?_
        clear hS
        intro r_4 u t H1 locs ht hvm hw hB hz1 hk1 hS
        obtain ⟨⟩ := u
        obtain ⟨hP1, hK1, hD1⟩ := hB
        rw [ht] at hP1
        have hK1 := va_K.moved hvm.symm hK1
        try dsimp only at hw
        have hPD := va_join (wr := [(h0, .inr (9, [.ref qf0, .ref qf1, .ref qf2, .int v3, .ref qf4, .ref qf5, .ref qf6, .ref qf7, .ref qf8, .int v9, .int v10, .int v11, .int v12])), (qf7, .inl (cf7, 64, .inl f7)), (qf5, .inl (cf5, 1741, .inl f5)), (qf4, .inl (cf4, 6400, .inl f4)), (qf6, .inl (cf6, 1740, .inl f6))]) (w1 := [(qa1, .inl (ca1, na1, .inl fa1))]) hP hD [1] [0, 2, 3, 4, 5] rfl rfl (by decide) (by decide) hk1 hFc hP1 hD1
        clear hP hD
        obtain ⟨hP, hD⟩ := hPD
        replace hK := (hK.sub (tys' := [(cf7, .int), (cf5, .int), (cf4, .byte), (cf6, .int)]) [1, 2, 3, 4] rfl).app hK1
        clear hPc hDc hKc hFc hP1 hK1 hD1 hz1 hk1 ht hvm
        generalize H1 = H at hP hS ⊢
        replace hP : va_P (dC, dI) vwCl [(h0, .inr (9, [.ref qf0, .ref qf1, .ref qf2, .int v3, .ref qf4, .ref qf5, .ref qf6, .ref qf7, .ref qf8, .int v9, .int v10, .int v11, .int v12])), (qf7, .inl (cf7, 64, .inl f7)), (qf5, .inl (cf5, 1741, .inl f5)), (qf4, .inl (cf4, 6400, .inl f4)), (qf6, .inl (cf6, 1740, .inl f6)), (qa1, .inl (ca1, na1, .inl fa1))] H := hP
        replace hD : va_D A [(h0, .inr (9, [.ref qf0, .ref qf1, .ref qf2, .int v3, .ref qf4, .ref qf5, .ref qf6, .ref qf7, .ref qf8, .int v9, .int v10, .int v11, .int v12])), (qf7, .inl (cf7, 64, .inl f7)), (qf5, .inl (cf5, 1741, .inl f5)), (qf4, .inl (cf4, 6400, .inl f4)), (qf6, .inl (cf6, 1740, .inl f6)), (qa1, .inl (ca1, na1, .inl fa1))] := hD
        replace hK : va_K (dC, dI) vwCl [(cf7, .int), (cf5, .int), (cf4, .byte), (cf6, .int), (ca1, .byte)] s := hK
        obtain rfl := hw
        obtain ⟨hi_5, hsp⟩ := ox_in hsp
        refine va_iald hx hb hK hP 1 0 rfl rfl (i := u1_0) hi_5 dX9_nameOf_29 ?_
        refine lv_istore (lv' := [(4, .int (f7 (u1_0 : Int32).toNatClampNeg)), (0, .ref h0), (1, .ref qa1), (2, .int a2), (3, .int a3)]) hx hb dX9_nameOf_30 hl (by decide) rfl (fun ls hl => ?_)
        refine lv_iconst (v := 0) hx hb dX9_nameOf_32 (by decide) ?_
        refine lv_istore (lv' := [(5, .int 0), (4, .int (f7 (u1_0 : Int32).toNatClampNeg)), (0, .ref h0), (1, .ref qa1), (2, .int a2), (3, .int a3)]) hx hb dX9_nameOf_33 hl (by decide) rfl (fun ls hl => ?_)
        replace hl : lv_has ls 6 [(5, .int 0), (4, .int (f7 (u1_0 : Int32).toNatClampNeg)), (0, .ref h0), (1, .ref qa1), (2, .int a2), (3, .int a3)] := lv_sub hl [0, 1, 2, 3, 4, 5] rfl
        replace hP := hP.sub (ws' := [(h0, .inr (9, [.ref qf0, .ref qf1, .ref qf2, .int v3, .ref qf4, .ref qf5, .ref qf6, .ref qf7, .ref qf8, .int v9, .int v10, .int v11, .int v12])), (qa1, .inl (ca1, na1, .inl fa1)), (qf7, .inl (cf7, 64, .inl f7)), (qf5, .inl (cf5, 1741, .inl f5)), (qf4, .inl (cf4, 6400, .inl f4)), (qf6, .inl (cf6, 1740, .inl f6))]) [0, 5, 1, 2, 3, 4] rfl
        replace hD := hD.sub (ws' := [(h0, .inr (9, [.ref qf0, .ref qf1, .ref qf2, .int v3, .ref qf4, .ref qf5, .ref qf6, .ref qf7, .ref qf8, .int v9, .int v10, .int v11, .int v12])), (qa1, .inl (ca1, na1, .inl fa1)), (qf7, .inl (cf7, 64, .inl f7)), (qf5, .inl (cf5, 1741, .inl f5)), (qf4, .inl (cf4, 6400, .inl f4)), (qf6, .inl (cf6, 1740, .inl f6))]) [0, 5, 1, 2, 3, 4] (by decide) rfl
        replace hK := hK.sub (tys' := [(ca1, .byte), (cf7, .int), (cf5, .int), (cf4, .byte), (cf6, .int)]) [4, 0, 1, 2, 3] rfl
        obtain ⟨n_35, hn_35⟩ : ∃ z : Nat, z = nf := ⟨_, rfl⟩
        obtain ⟨l2_35, el2_35⟩ : ∃ z : Int32, z = a2 := ⟨_, rfl⟩
        obtain ⟨l3_35, el3_35⟩ : ∃ z : Int32, z = a3 := ⟨_, rfl⟩
        obtain ⟨l4_35, el4_35⟩ : ∃ z : Int32, z = (f7 (u1_0 : Int32).toNatClampNeg) := ⟨_, rfl⟩
        obtain ⟨l5_35, el5_35⟩ : ∃ z : Int32, z = 0 := ⟨_, rfl⟩
        obtain ⟨g4_35, eg4_35⟩ : ∃ z : Nat → Int32, z = f4 := ⟨_, rfl⟩
        obtain ⟨g5_35, eg5_35⟩ : ∃ z : Nat → Int32, z = f5 := ⟨_, rfl⟩
        obtain ⟨g6_35, eg6_35⟩ : ∃ z : Nat → Int32, z = f6 := ⟨_, rfl⟩
        obtain ⟨g7_35, eg7_35⟩ : ∃ z : Nat → Int32, z = f7 := ⟨_, rfl⟩
        obtain ⟨x9_35, ex9_35⟩ : ∃ z : Int32, z = v9 := ⟨_, rfl⟩
        replace hsp : lp_v9_nameOf_35 nf n_35 a2 a3 v9 na1 fa1 f7 f5 f4 f6 l2_35 l3_35 l4_35 l5_35 g4_35 g5_35 g6_35 g7_35 x9_35 = some (r0, o4, o5, o6, o7, w9) := by rw [hn_35, el2_35, el3_35, el4_35, el5_35, eg4_35, eg5_35, eg6_35, eg7_35, ex9_35]; exact hsp
        replace hl : lv_has ls 6 [(5, .int l5_35), (4, .int l4_35), (0, .ref h0), (1, .ref qa1), (2, .int l2_35), (3, .int l3_35)] := by rw [el2_35, el3_35, el4_35, el5_35]; exact hl
        replace hP : va_P (dC, dI) vwCl [(h0, .inr (9, [.ref qf0, .ref qf1, .ref qf2, .int v3, .ref qf4, .ref qf5, .ref qf6, .ref qf7, .ref qf8, .int x9_35, .int v10, .int v11, .int v12])), (qa1, .inl (ca1, na1, .inl fa1)), (qf7, .inl (cf7, 64, .inl g7_35)), (qf5, .inl (cf5, 1741, .inl g5_35)), (qf4, .inl (cf4, 6400, .inl g4_35)), (qf6, .inl (cf6, 1740, .inl g6_35))] H := by rw [eg4_35, eg5_35, eg6_35, eg7_35, ex9_35]; exact hP
        replace hD : va_D A [(h0, .inr (9, [.ref qf0, .ref qf1, .ref qf2, .int v3, .ref qf4, .ref qf5, .ref qf6, .ref qf7, .ref qf8, .int x9_35, .int v10, .int v11, .int v12])), (qa1, .inl (ca1, na1, .inl fa1)), (qf7, .inl (cf7, 64, .inl g7_35)), (qf5, .inl (cf5, 1741, .inl g5_35)), (qf4, .inl (cf4, 6400, .inl g4_35)), (qf6, .inl (cf6, 1740, .inl g6_35))] := by rw [eg4_35, eg5_35, eg6_35, eg7_35, ex9_35]; exact hD
        clear hn_35 el2_35 el3_35 el4_35 el5_35 eg4_35 eg5_35 eg6_35 eg7_35 ex9_35
        try clear hlo
        try clear hH
        revert hsp
        revert hP
        revert hD
        revert hS
        revert hl
        revert x9_35
        revert g7_35
        revert g6_35
        revert g5_35
        revert g4_35
        revert l5_35
        revert l4_35
        revert l3_35
        revert l2_35
        revert ls
        revert locs
        revert H
        induction n_35 with
        | zero => intro H locs ls l2_35 l3_35 l4_35 l5_35 g4_35 g5_35 g6_35 g7_35 x9_35  hl hS hD hP hsp; unfold lp_v9_nameOf_35 at hsp; cases hsp
        | succ n_35 ih_35 =>
          intro H locs ls l2_35 l3_35 l4_35 l5_35 g4_35 g5_35 g6_35 g7_35 x9_35  hl hS hD hP hsp
          unfold lp_v9_nameOf_35 at hsp
          try dsimp only at hsp
          refine lv_iload hx hb dX9_nameOf_35 (lv_at hl 0 rfl) ?_
          refine lv_sipush (v := 1740) hx hb dX9_nameOf_37 (by decide) ?_
          refine lv_icmp_ge (tgt := 79) hx hb dX9_nameOf_40 (by decide) (fun c_6 => ?_) (fun c_6 => ?_)
          · rw [if_pos c_6] at hsp
            exact hj_79 (H, locs, ls, l2_35, l3_35, g4_35, g5_35, g6_35, g7_35, x9_35) ⟨lv_sub hl [2, 3, 4, 5] rfl, hS, hD.sub (ws' := [(h0, .inr (9, [.ref qf0, .ref qf1, .ref qf2, .int v3, .ref qf4, .ref qf5, .ref qf6, .ref qf7, .ref qf8, .int x9_35, .int v10, .int v11, .int v12])), (qa1, .inl (ca1, na1, .inl fa1)), (qf7, .inl (cf7, 64, .inl g7_35)), (qf5, .inl (cf5, 1741, .inl g5_35)), (qf4, .inl (cf4, 6400, .inl g4_35)), (qf6, .inl (cf6, 1740, .inl g6_35))]) [0, 1, 2, 3, 4, 5] (by decide) rfl, hP.sub (ws' := [(h0, .inr (9, [.ref qf0, .ref qf1, .ref qf2, .int v3, .ref qf4, .ref qf5, .ref qf6, .ref qf7, .ref qf8, .int x9_35, .int v10, .int v11, .int v12])), (qa1, .inl (ca1, na1, .inl fa1)), (qf7, .inl (cf7, 64, .inl g7_35)), (qf5, .inl (cf5, 1741, .inl g5_35)), (qf4, .inl (cf4, 6400, .inl g4_35)), (qf6, .inl (cf6, 1740, .inl g6_35))]) [0, 1, 2, 3, 4, 5] rfl, hsp⟩
          · rw [if_neg c_6] at hsp
            refine lv_iload hx hb dX9_nameOf_43 (lv_at hl 1 rfl) ?_
            refine lv_iconst (v := (-1)) hx hb dX9_nameOf_45 (by decide) ?_
            refine lv_icmp_eq (tgt := 79) hx hb dX9_nameOf_46 (by decide) (fun c_7 => ?_) (fun c_7 => ?_)
            · rw [if_pos c_7] at hsp
              exact hj_79 (H, locs, ls, l2_35, l3_35, g4_35, g5_35, g6_35, g7_35, x9_35) ⟨lv_sub hl [2, 3, 4, 5] rfl, hS, hD.sub (ws' := [(h0, .inr (9, [.ref qf0, .ref qf1, .ref qf2, .int v3, .ref qf4, .ref qf5, .ref qf6, .ref qf7, .ref qf8, .int x9_35, .int v10, .int v11, .int v12])), (qa1, .inl (ca1, na1, .inl fa1)), (qf7, .inl (cf7, 64, .inl g7_35)), (qf5, .inl (cf5, 1741, .inl g5_35)), (qf4, .inl (cf4, 6400, .inl g4_35)), (qf6, .inl (cf6, 1740, .inl g6_35))]) [0, 1, 2, 3, 4, 5] (by decide) rfl, hP.sub (ws' := [(h0, .inr (9, [.ref qf0, .ref qf1, .ref qf2, .int v3, .ref qf4, .ref qf5, .ref qf6, .ref qf7, .ref qf8, .int x9_35, .int v10, .int v11, .int v12])), (qa1, .inl (ca1, na1, .inl fa1)), (qf7, .inl (cf7, 64, .inl g7_35)), (qf5, .inl (cf5, 1741, .inl g5_35)), (qf4, .inl (cf4, 6400, .inl g4_35)), (qf6, .inl (cf6, 1740, .inl g6_35))]) [0, 1, 2, 3, 4, 5] rfl, hsp⟩
            · rw [if_neg c_7] at hsp
              refine lv_aload_n hx hb dX9_nameOf_49 rfl (lv_at hl 2 rfl) ?_
              refine lv_iload hx hb dX9_nameOf_50 (lv_at hl 1 rfl) ?_
              refine lv_aload_n hx hb dX9_nameOf_52 rfl (lv_at hl 3 rfl) ?_
              refine lv_iload_n hx hb dX9_nameOf_53 rfl (lv_at hl 4 rfl) ?_
              refine lv_iload_n hx hb dX9_nameOf_54 rfl (lv_at hl 5 rfl) ?_
              obtain ⟨u2_0, hu_2, hsp⟩ := ox_bind hsp
              try dsimp only at hsp
              have hPc := hP.sub (ws' := [(h0, .inr (9, [.ref qf0, .ref qf1, .ref qf2, .int v3, .ref qf4, .ref qf5, .ref qf6, .ref qf7, .ref qf8, .int x9_35, .int v10, .int v11, .int v12])), (qf5, .inl (cf5, 1741, .inl g5_35)), (qf4, .inl (cf4, 6400, .inl g4_35)), (qa1, .inl (ca1, na1, .inl fa1))]) [0, 3, 4, 1] rfl
              have hDc := hD.sub (ws' := [(h0, .inr (9, [.ref qf0, .ref qf1, .ref qf2, .int v3, .ref qf4, .ref qf5, .ref qf6, .ref qf7, .ref qf8, .int x9_35, .int v10, .int v11, .int v12])), (qf5, .inl (cf5, 1741, .inl g5_35)), (qf4, .inl (cf4, 6400, .inl g4_35)), (qa1, .inl (ca1, na1, .inl fa1))]) [0, 3, 4, 1] (by decide) rfl
              have hKc := hK.sub (tys' := [(cf5, .int), (cf4, .byte), (ca1, .byte)]) [2, 3, 0] rfl
              have hFc := va_free (wc := [(h0, .inr (9, [.ref qf0, .ref qf1, .ref qf2, .int v3, .ref qf4, .ref qf5, .ref qf6, .ref qf7, .ref qf8, .int x9_35, .int v10, .int v11, .int v12])), (qf5, .inl (cf5, 1741, .inl g5_35)), (qf4, .inl (cf4, 6400, .inl g4_35)), (qa1, .inl (ca1, na1, .inl fa1))]) hD hS hA [0, 3, 4, 1] rfl
              refine va_calli (va_runV (As := [.int l4_35, .ref qa1, .int l2_35, .int l3_35]) (rest := []) ⟨hx, hb, hml, hown, hts⟩ (t9_isNamed l dC dI H.size h0 l4_35 qa1 l2_35 l3_35 qf0 qf1 qf2 v3 qf4 qf5 qf6 qf7 qf8 x9_35 v10 v11 v12 cf5 g5_35 cf4 g4_35 ca1 na1 fa1 nf u2_0 hu_2) (cwV 4 hts gv_h7_68 rfl rfl rfl (by decide +kernel) ⟨Nat.le_of_ble_eq_true rfl, Nat.le_of_ble_eq_true rfl⟩) ⟨fun a U g mk q => by obtain ⟨q0, q1, qP, qK, qD⟩ := q; exact ⟨q0, q1, qP, va_K.moved (u := U) (U := U.calling g mk a) (Vm.Alike.refl U.vm) qK, qD⟩, va_recv hKc hPc (ci := 9) (q0 := 0) rfl rfl, fun U hU hW => ⟨rfl, by rw [hU], by rw [hU]; exact hPc, va_K.moved hW.alike hKc, hDc.weaken (fun _ _ _ _ => trivial)⟩⟩ rfl rfl hl.1 rfl (lv_room (Nat.le_of_ble_eq_true rfl)) dX9_nameOf_55 ⟨Nat.le_of_ble_eq_true rfl, Nat.le_of_ble_eq_true rfl⟩) hS (fun q _ h => hFc q h) hFc ?_
              clear hS
              intro r_8 u t H1 locs ht hvm hw hB hz1 hk1 hS
              obtain ⟨⟩ := u
              obtain ⟨hP1, hK1, hD1⟩ := hB
              rw [ht] at hP1
              have hK1 := va_K.moved hvm.symm hK1
              try dsimp only at hw
              have hPD := va_join (wr := [(qf7, .inl (cf7, 64, .inl g7_35)), (qf6, .inl (cf6, 1740, .inl g6_35))]) (w1 := [(h0, .inr (9, [.ref qf0, .ref qf1, .ref qf2, .int v3, .ref qf4, .ref qf5, .ref qf6, .ref qf7, .ref qf8, .int x9_35, .int v10, .int v11, .int v12])), (qf5, .inl (cf5, 1741, .inl g5_35)), (qf4, .inl (cf4, 6400, .inl g4_35)), (qa1, .inl (ca1, na1, .inl fa1))]) hP hD [0, 3, 4, 1] [2, 5] rfl rfl (by decide) (by decide) hk1 hFc hP1 hD1
              clear hP hD
              obtain ⟨hP, hD⟩ := hPD
              replace hK := (hK.sub (tys' := [(cf7, .int), (cf6, .int)]) [1, 4] rfl).app hK1
              clear hPc hDc hKc hFc hP1 hK1 hD1 hz1 hk1 ht hvm
              generalize H1 = H at hP hS ⊢
              replace hP : va_P (dC, dI) vwCl [(qf7, .inl (cf7, 64, .inl g7_35)), (qf6, .inl (cf6, 1740, .inl g6_35)), (h0, .inr (9, [.ref qf0, .ref qf1, .ref qf2, .int v3, .ref qf4, .ref qf5, .ref qf6, .ref qf7, .ref qf8, .int x9_35, .int v10, .int v11, .int v12])), (qf5, .inl (cf5, 1741, .inl g5_35)), (qf4, .inl (cf4, 6400, .inl g4_35)), (qa1, .inl (ca1, na1, .inl fa1))] H := hP
              replace hD : va_D A [(qf7, .inl (cf7, 64, .inl g7_35)), (qf6, .inl (cf6, 1740, .inl g6_35)), (h0, .inr (9, [.ref qf0, .ref qf1, .ref qf2, .int v3, .ref qf4, .ref qf5, .ref qf6, .ref qf7, .ref qf8, .int x9_35, .int v10, .int v11, .int v12])), (qf5, .inl (cf5, 1741, .inl g5_35)), (qf4, .inl (cf4, 6400, .inl g4_35)), (qa1, .inl (ca1, na1, .inl fa1))] := hD
              replace hK : va_K (dC, dI) vwCl [(cf7, .int), (cf6, .int), (cf5, .int), (cf4, .byte), (ca1, .byte)] s := hK
              obtain ⟨rfl, hz_2⟩ := hw
              rcases hz_2 with rfl | rfl
              · rw [if_pos rfl] at hsp
                refine lv_if_eq (tgt := 64) hx hb dX9_nameOf_58 (by decide) (fun c_9 => ?_) (fun c_9 => (show False by revert c_9; decide).elim)
                refine lv_aload_n hx hb dX9_nameOf_64 rfl (lv_at hl 2 rfl) ?_
                refine va_get (D := (dC, dI)) (ci := 9) (v := .ref qf6) (C := RX9) (T := TX9) (N := 13) hx hb hts uV_h7_X9 hown hK hP 2 rfl rfl 6 (by decide) (hts (.fieldLink RX9 32 "ClassMill$Text" "sameBucket" "[I") mw_h7_321) (fun _ h9 => h9) rfl dX9_nameOf_65 ?_
                refine lv_iload hx hb dX9_nameOf_68 (lv_at hl 1 rfl) ?_
                obtain ⟨hi_10, hsp⟩ := ox_in hsp
                refine va_iald hx hb hK hP 1 1 rfl rfl (i := l4_35) hi_10 dX9_nameOf_70 ?_
                refine lv_istore (lv' := [(4, .int (g6_35 (l4_35 : Int32).toNatClampNeg)), (5, .int l5_35), (0, .ref h0), (1, .ref qa1), (2, .int l2_35), (3, .int l3_35)]) hx hb dX9_nameOf_71 hl (by decide) rfl (fun ls hl => ?_)
                refine lv_iinc (v := (l5_35 + 1)) (lv' := [(5, .int (l5_35 + 1)), (4, .int (g6_35 (l4_35 : Int32).toNatClampNeg)), (0, .ref h0), (1, .ref qa1), (2, .int l2_35), (3, .int l3_35)]) hx hb dX9_nameOf_73 hl (k := 1) rfl rfl (by decide) rfl (fun ls hl => ?_)
                refine lv_goto (tgt := 35) hx hb dX9_nameOf_76 (by decide) ?_
                exact ih_35 H locs ls l2_35 l3_35 (g6_35 (l4_35 : Int32).toNatClampNeg) (l5_35 + 1) g4_35 g5_35 g6_35 g7_35 x9_35 (lv_sub hl [0, 1, 2, 3, 4, 5] rfl) hS (hD.sub (ws' := [(h0, .inr (9, [.ref qf0, .ref qf1, .ref qf2, .int v3, .ref qf4, .ref qf5, .ref qf6, .ref qf7, .ref qf8, .int x9_35, .int v10, .int v11, .int v12])), (qa1, .inl (ca1, na1, .inl fa1)), (qf7, .inl (cf7, 64, .inl g7_35)), (qf5, .inl (cf5, 1741, .inl g5_35)), (qf4, .inl (cf4, 6400, .inl g4_35)), (qf6, .inl (cf6, 1740, .inl g6_35))]) [2, 5, 0, 3, 4, 1] (by decide) rfl) (hP.sub (ws' := [(h0, .inr (9, [.ref qf0, .ref qf1, .ref qf2, .int v3, .ref qf4, .ref qf5, .ref qf6, .ref qf7, .ref qf8, .int x9_35, .int v10, .int v11, .int v12])), (qa1, .inl (ca1, na1, .inl fa1)), (qf7, .inl (cf7, 64, .inl g7_35)), (qf5, .inl (cf5, 1741, .inl g5_35)), (qf4, .inl (cf4, 6400, .inl g4_35)), (qf6, .inl (cf6, 1740, .inl g6_35))]) [2, 5, 0, 3, 4, 1] rfl) hsp
              · rw [if_neg (by decide)] at hsp
                refine lv_if_eq (tgt := 64) hx hb dX9_nameOf_58 (by decide) (fun c_11 => (show False by revert c_11; decide).elim) (fun c_11 => ?_)
                refine lv_iload hx hb dX9_nameOf_61 (lv_at hl 1 rfl) ?_
                have hr0 := Option.some.inj hsp
                clear hsp
                obtain ⟨hq0, hr1⟩ := Prod.mk.inj hr0
                clear hr0
                obtain ⟨hq1, hr2⟩ := Prod.mk.inj hr1
                clear hr1
                obtain ⟨hq2, hr3⟩ := Prod.mk.inj hr2
                clear hr2
                obtain ⟨hq3, hr4⟩ := Prod.mk.inj hr3
                clear hr3
                obtain ⟨hq4, hr5⟩ := Prod.mk.inj hr4
                clear hr4
                subst hq0
                subst hq1
                subst hq2
                subst hq3
                subst hq4
                subst hr5
                have hP9 := hP.sub (ws' := [(h0, .inr (9, [.ref qf0, .ref qf1, .ref qf2, .int v3, .ref qf4, .ref qf5, .ref qf6, .ref qf7, .ref qf8, .int x9_35, .int v10, .int v11, .int v12])), (qa1, .inl (ca1, na1, .inl fa1)), (qf7, .inl (cf7, 64, .inl g7_35)), (qf5, .inl (cf5, 1741, .inl g5_35)), (qf4, .inl (cf4, 6400, .inl g4_35)), (qf6, .inl (cf6, 1740, .inl g6_35))]) [2, 5, 0, 3, 4, 1] rfl
                have hD9 := hD.sub (ws' := [(h0, .inr (9, [.ref qf0, .ref qf1, .ref qf2, .int v3, .ref qf4, .ref qf5, .ref qf6, .ref qf7, .ref qf8, .int x9_35, .int v10, .int v11, .int v12])), (qa1, .inl (ca1, na1, .inl fa1)), (qf7, .inl (cf7, 64, .inl g7_35)), (qf5, .inl (cf5, 1741, .inl g5_35)), (qf4, .inl (cf4, 6400, .inl g4_35)), (qf6, .inl (cf6, 1740, .inl g6_35))]) [2, 5, 0, 3, 4, 1] (by decide) rfl
                have hK9 := hK.sub (tys' := [(ca1, .byte), (cf7, .int), (cf5, .int), (cf4, .byte), (cf6, .int)]) [4, 0, 2, 3, 1] rfl
                exact W.iret hx hb hr (fun t ht hW => ⟨⟨(l4_35), (), rfl, rfl, by rw [ht]; exact hP9, va_K.moved hW.alike hK9, hD9⟩, hS.F ht⟩) hS.2.2 dX9_nameOf_63
      · rw [if_neg c_3] at hsp
        refine lv_iconst (v := 0) hx hb dX9_nameOf_17 (by decide) ?_
        have hr0 := Option.some.inj hsp
        clear hsp
        obtain ⟨hq0, hr1⟩ := Prod.mk.inj hr0
        clear hr0
        obtain ⟨hq1, hr2⟩ := Prod.mk.inj hr1
        clear hr1
        obtain ⟨hq2, hr3⟩ := Prod.mk.inj hr2
        clear hr2
        obtain ⟨hq3, hr4⟩ := Prod.mk.inj hr3
        clear hr3
        obtain ⟨hq4, hr5⟩ := Prod.mk.inj hr4
        clear hr4
        subst hq0
        subst hq1
        subst hq2
        subst hq3
        subst hq4
        subst hr5
        have hP9 := hP.sub (ws' := [(h0, .inr (9, [.ref qf0, .ref qf1, .ref qf2, .int v3, .ref qf4, .ref qf5, .ref qf6, .ref qf7, .ref qf8, .int v9, .int v10, .int v11, .int v12])), (qa1, .inl (ca1, na1, .inl fa1)), (qf7, .inl (cf7, 64, .inl f7)), (qf5, .inl (cf5, 1741, .inl f5)), (qf4, .inl (cf4, 6400, .inl f4)), (qf6, .inl (cf6, 1740, .inl f6))]) [0, 1, 2, 3, 4, 5] rfl
        have hD9 := hD.sub (ws' := [(h0, .inr (9, [.ref qf0, .ref qf1, .ref qf2, .int v3, .ref qf4, .ref qf5, .ref qf6, .ref qf7, .ref qf8, .int v9, .int v10, .int v11, .int v12])), (qa1, .inl (ca1, na1, .inl fa1)), (qf7, .inl (cf7, 64, .inl f7)), (qf5, .inl (cf5, 1741, .inl f5)), (qf4, .inl (cf4, 6400, .inl f4)), (qf6, .inl (cf6, 1740, .inl f6))]) [0, 1, 2, 3, 4, 5] (by decide) rfl
        have hK9 := hK.sub (tys' := [(ca1, .byte), (cf7, .int), (cf5, .int), (cf4, .byte), (cf6, .int)]) [0, 1, 2, 3, 4] rfl
        exact W.iret hx hb hr (fun t ht hW => ⟨⟨(0), (), rfl, rfl, by rw [ht]; exact hP9, va_K.moved hW.alike hK9, hD9⟩, hS.F ht⟩) hS.2.2 dX9_nameOf_18
def jn_v9_scanNumber_96 (nf : Nat) (a2 : Int32) (a3 : Int32) (v3 : Int32) (na1 : Nat) (fa1 : Nat → Int32) (f0 : Nat → Int32) (f1 : Nat → Int32) (f2 : Nat → Int32)  (l3_96 : Int32) (j4_96 : Int64) (l6_96 : Int32) (l7_96 : Int32) (s0_96 : Int32) (g0_96 : Nat → Int32) (g1_96 : Nat → Int32) (g2_96 : Nat → Int32) (x3_96 : Int32) : Option (Int32 × (Nat → Int32) × (Nat → Int32) × (Nat → Int32) × Int32) := (if l7_96 = 0 then (if s0_96 = 0 then (if ((if 2147483647 < j4_96 then 1 else if j4_96 = 2147483647 then 0 else -1 : Int32)) ≤ 0 then ((sp_t9_addToken nf 3 l3_96 ((j4_96 : Int64).toInt32) x3_96 g0_96 g1_96 g2_96).bind (fun p1 => (some ((l6_96 - l3_96), p1.1, p1.2.1, p1.2.2.1, p1.2.2.2)))) else (some (0, g0_96, g1_96, g2_96, x3_96))) else (some (0, g0_96, g1_96, g2_96, x3_96))) else (some (0, g0_96, g1_96, g2_96, x3_96)))
def jn_v9_scanNumber_95 (nf : Nat) (a2 : Int32) (a3 : Int32) (v3 : Int32) (na1 : Nat) (fa1 : Nat → Int32) (f0 : Nat → Int32) (f1 : Nat → Int32) (f2 : Nat → Int32)  (l3_95 : Int32) (j4_95 : Int64) (l6_95 : Int32) (l7_95 : Int32) (g0_95 : Nat → Int32) (g1_95 : Nat → Int32) (g2_95 : Nat → Int32) (x3_95 : Int32) : Option (Int32 × (Nat → Int32) × (Nat → Int32) × (Nat → Int32) × Int32) := (jn_v9_scanNumber_96 nf a2 a3 v3 na1 fa1 f0 f1 f2  l3_95 j4_95 l6_95 l7_95 0 g0_95 g1_95 g2_95 x3_95)
def jn_v9_scanNumber_73 (nf : Nat) (a2 : Int32) (a3 : Int32) (v3 : Int32) (na1 : Nat) (fa1 : Nat → Int32) (f0 : Nat → Int32) (f1 : Nat → Int32) (f2 : Nat → Int32)  (l2_73 : Int32) (l3_73 : Int32) (j4_73 : Int64) (l6_73 : Int32) (s0_73 : Int32) (g0_73 : Nat → Int32) (g1_73 : Nat → Int32) (g2_73 : Nat → Int32) (x3_73 : Int32) : Option (Int32 × (Nat → Int32) × (Nat → Int32) × (Nat → Int32) × Int32) := (if l2_73 ≤ l6_73 then (jn_v9_scanNumber_95 nf a2 a3 v3 na1 fa1 f0 f1 f2  l3_73 j4_73 l6_73 s0_73 g0_73 g1_73 g2_73 x3_73) else (if l6_73 < 0 then none else if na1 ≤ (l6_73 : Int32).toNatClampNeg then none else ((sp_t9_isNamePart nf (fa1 (l6_73 : Int32).toNatClampNeg)).bind (fun p1 => (if p1 = 0 then (jn_v9_scanNumber_95 nf a2 a3 v3 na1 fa1 f0 f1 f2  l3_73 j4_73 l6_73 s0_73 g0_73 g1_73 g2_73 x3_73) else (jn_v9_scanNumber_96 nf a2 a3 v3 na1 fa1 f0 f1 f2  l3_73 j4_73 l6_73 s0_73 1 g0_73 g1_73 g2_73 x3_73))))))
def jn_v9_scanNumber_72 (nf : Nat) (a2 : Int32) (a3 : Int32) (v3 : Int32) (na1 : Nat) (fa1 : Nat → Int32) (f0 : Nat → Int32) (f1 : Nat → Int32) (f2 : Nat → Int32)  (l2_72 : Int32) (l3_72 : Int32) (j4_72 : Int64) (l6_72 : Int32) (g0_72 : Nat → Int32) (g1_72 : Nat → Int32) (g2_72 : Nat → Int32) (x3_72 : Int32) : Option (Int32 × (Nat → Int32) × (Nat → Int32) × (Nat → Int32) × Int32) := (jn_v9_scanNumber_73 nf a2 a3 v3 na1 fa1 f0 f1 f2  l2_72 l3_72 j4_72 l6_72 0 g0_72 g1_72 g2_72 x3_72)
def jn_v9_scanNumber_52 (nf : Nat) (a2 : Int32) (a3 : Int32) (v3 : Int32) (na1 : Nat) (fa1 : Nat → Int32) (f0 : Nat → Int32) (f1 : Nat → Int32) (f2 : Nat → Int32)  (l2_52 : Int32) (l3_52 : Int32) (j4_52 : Int64) (l6_52 : Int32) (g0_52 : Nat → Int32) (g1_52 : Nat → Int32) (g2_52 : Nat → Int32) (x3_52 : Int32) : Option (Int32 × (Nat → Int32) × (Nat → Int32) × (Nat → Int32) × Int32) := (if l3_52 < 0 then none else if na1 ≤ (l3_52 : Int32).toNatClampNeg then none else (if (fa1 (l3_52 : Int32).toNatClampNeg) = 48 then (if l6_52 ≤ (l3_52 + 1) then (jn_v9_scanNumber_72 nf a2 a3 v3 na1 fa1 f0 f1 f2  l2_52 l3_52 j4_52 l6_52 g0_52 g1_52 g2_52 x3_52) else (jn_v9_scanNumber_73 nf a2 a3 v3 na1 fa1 f0 f1 f2  l2_52 l3_52 j4_52 l6_52 1 g0_52 g1_52 g2_52 x3_52)) else (jn_v9_scanNumber_72 nf a2 a3 v3 na1 fa1 f0 f1 f2  l2_52 l3_52 j4_52 l6_52 g0_52 g1_52 g2_52 x3_52)))
def lp_v9_scanNumber_6 (nf n : Nat) (a2 : Int32) (a3 : Int32) (v3 : Int32) (na1 : Nat) (fa1 : Nat → Int32) (f0 : Nat → Int32) (f1 : Nat → Int32) (f2 : Nat → Int32)  (l2_6 : Int32) (l3_6 : Int32) (j4_6 : Int64) (l6_6 : Int32) (g0_6 : Nat → Int32) (g1_6 : Nat → Int32) (g2_6 : Nat → Int32) (x3_6 : Int32) : Option (Int32 × (Nat → Int32) × (Nat → Int32) × (Nat → Int32) × Int32) := match n with
  | 0 => none
  | n + 1 => (if l2_6 ≤ l6_6 then (jn_v9_scanNumber_52 nf a2 a3 v3 na1 fa1 f0 f1 f2  l2_6 l3_6 j4_6 l6_6 g0_6 g1_6 g2_6 x3_6) else (if l6_6 < 0 then none else if na1 ≤ (l6_6 : Int32).toNatClampNeg then none else ((sp_t9_isDigit nf (fa1 (l6_6 : Int32).toNatClampNeg)).bind (fun p1 => (if p1 = 0 then (jn_v9_scanNumber_52 nf a2 a3 v3 na1 fa1 f0 f1 f2  l2_6 l3_6 j4_6 l6_6 g0_6 g1_6 g2_6 x3_6) else (if l6_6 < 0 then none else if na1 ≤ (l6_6 : Int32).toNatClampNeg then none else (lp_v9_scanNumber_6 nf n a2 a3 v3 na1 fa1 f0 f1 f2 l2_6 l3_6 (if 2147483648 < (((j4_6 * 10) + (((fa1 (l6_6 : Int32).toNatClampNeg) : Int32).toInt64)) - 48) then 2147483648 else (((j4_6 * 10) + (((fa1 (l6_6 : Int32).toNatClampNeg) : Int32).toInt64)) - 48)) (l6_6 + 1) g0_6 g1_6 g2_6 x3_6)))))))
def sp_v9_scanNumber (nf : Nat) (a2 : Int32) (a3 : Int32) (v3 : Int32) (na1 : Nat) (fa1 : Nat → Int32) (f0 : Nat → Int32) (f1 : Nat → Int32) (f2 : Nat → Int32) : Option (Int32 × (Nat → Int32) × (Nat → Int32) × (Nat → Int32) × Int32) := (lp_v9_scanNumber_6 nf nf a2 a3 v3 na1 fa1 f0 f1 f2  a2 a3 0 a3 f0 f1 f2 v3)
set_option maxHeartbeats 4000000 in
set_option maxRecDepth 100000 in
/-- ClassMill$Text.scanNumber -/
theorem v9_scanNumber (l : Launch) (dC : Nat → ClassId) (dI : Nat → Nat → Nat) (sz : Nat) (h0 : Nat) (qa1 : Nat) (a2 : Int32) (a3 : Int32) (qf0 : Nat) (qf1 : Nat) (qf2 : Nat) (v3 : Int32) (qf4 : Nat) (qf5 : Nat) (qf6 : Nat) (qf7 : Nat) (qf8 : Nat) (v9 : Int32) (v10 : Int32) (v11 : Int32) (v12 : Int32) (ca1 : ClassId) (na1 : Nat) (fa1 : (Nat → Int32)) (cf0 : ClassId) (f0 : (Nat → Int32)) (cf1 : ClassId) (f1 : (Nat → Int32)) (cf2 : ClassId) (f2 : (Nat → Int32)) (nf : Nat) (r0 : Int32) (o0 : (Nat → Int32)) (o1 : (Nat → Int32)) (o2 : (Nat → Int32)) (w3 : Int32) (hsp : sp_v9_scanNumber nf a2 a3 v3 na1 fa1 f0 f1 f2 = some (r0, o0, o1, o2, w3)) : Met l yX9_scanNumber (.code yX9_scanNumber cX9_scanNumber 9 (some .int) :: VS_h7) ({ frames := 2, cells := 0, slots := 0, locals := 40 }) (va_Pc [.ref h0, .ref qa1, .int a2, .int a3] (fun U => U.heap.size = sz ∧ va_P (dC, dI) vwCl [(h0, .inr (9, [.ref qf0, .ref qf1, .ref qf2, .int v3, .ref qf4, .ref qf5, .ref qf6, .ref qf7, .ref qf8, .int v9, .int v10, .int v11, .int v12])), (qa1, .inl (ca1, na1, .inl fa1)), (qf0, .inl (cf0, 3001, .inl f0)), (qf1, .inl (cf1, 3001, .inl f1)), (qf2, .inl (cf2, 3001, .inl f2))] U.heap ∧ va_K (dC, dI) vwCl [(ca1, .byte), (cf0, .int), (cf1, .int), (cf2, .int)] U ∧ va_D (fun _ => True) [(h0, .inr (9, [.ref qf0, .ref qf1, .ref qf2, .int v3, .ref qf4, .ref qf5, .ref qf6, .ref qf7, .ref qf8, .int v9, .int v10, .int v11, .int v12])), (qa1, .inl (ca1, na1, .inl fa1)), (qf0, .inl (cf0, 3001, .inl f0)), (qf1, .inl (cf1, 3001, .inl f1)), (qf2, .inl (cf2, 3001, .inl f2))])) (va_Qi (fun (r : Int32) (u : Unit) => match u with | () => r0 = r) (fun (u : Unit) (t : State) => match u with | () => va_P (dC, dI) vwCl [(h0, .inr (9, [.ref qf0, .ref qf1, .ref qf2, .int w3, .ref qf4, .ref qf5, .ref qf6, .ref qf7, .ref qf8, .int v9, .int v10, .int v11, .int v12])), (qa1, .inl (ca1, na1, .inl fa1)), (qf0, .inl (cf0, 3001, .inl o0)), (qf1, .inl (cf1, 3001, .inl o1)), (qf2, .inl (cf2, 3001, .inl o2))] t.heap ∧ va_K (dC, dI) vwCl [(ca1, .byte), (cf0, .int), (cf1, .int), (cf2, .int)] t ∧ va_D (va_A [(h0, .inr (9, [.ref qf0, .ref qf1, .ref qf2, .int v3, .ref qf4, .ref qf5, .ref qf6, .ref qf7, .ref qf8, .int v9, .int v10, .int v11, .int v12])), (qa1, .inl (ca1, na1, .inl fa1)), (qf0, .inl (cf0, 3001, .inl f0)), (qf1, .inl (cf1, 3001, .inl f1)), (qf2, .inl (cf2, 3001, .inl f2))] sz) [(h0, .inr (9, [.ref qf0, .ref qf1, .ref qf2, .int w3, .ref qf4, .ref qf5, .ref qf6, .ref qf7, .ref qf8, .int v9, .int v10, .int v11, .int v12])), (qa1, .inl (ca1, na1, .inl fa1)), (qf0, .inl (cf0, 3001, .inl o0)), (qf1, .inl (cf1, 3001, .inl o1)), (qf2, .inl (cf2, 3001, .inl o2))]) (va_A [(h0, .inr (9, [.ref qf0, .ref qf1, .ref qf2, .int v3, .ref qf4, .ref qf5, .ref qf6, .ref qf7, .ref qf8, .int v9, .int v10, .int v11, .int v12])), (qa1, .inl (ca1, na1, .inl fa1)), (qf0, .inl (cf0, 3001, .inl f0)), (qf1, .inl (cf1, 3001, .inl f1)), (qf2, .inl (cf2, 3001, .inl f2))] sz)) 0 0 (va_A [(h0, .inr (9, [.ref qf0, .ref qf1, .ref qf2, .int v3, .ref qf4, .ref qf5, .ref qf6, .ref qf7, .ref qf8, .int v9, .int v10, .int v11, .int v12])), (qa1, .inl (ca1, na1, .inl fa1)), (qf0, .inl (cf0, 3001, .inl f0)), (qf1, .inl (cf1, 3001, .inl f1)), (qf2, .inl (cf2, 3001, .inl f2))] sz) := by
  refine Met.ofW (cc := cX9_scanNumber) (maxL := 9) (ret := (some .int)) (by decide) rfl ?_
  intro p e s m args below meth c s₁ B hml hv
  obtain ⟨rfl, hsz, hP, hK, hD0⟩ := hv
  have hx := B.exec
  have hb := B.bytes
  have hr := B.returns
  have hts := atoms_spec (ws := (.code yX9_scanNumber cX9_scanNumber 9 (some .int) :: VS_h7)) B.pre
  replace hts := fun w (h : w ∈ VS_h7) => hts w (List.mem_cons_of_mem _ h)
  have hown : s.vm.findClass RX9 = some m.cls := findClass_of_methodNamed B.named
  have hlocks := B.notSynchronized
  subst hsz
  have hD := hD0.self (sz := s.heap.size)
  generalize hAe : va_A [(h0, .inr (9, [.ref qf0, .ref qf1, .ref qf2, .int v3, .ref qf4, .ref qf5, .ref qf6, .ref qf7, .ref qf8, .int v9, .int v10, .int v11, .int v12])), (qa1, .inl (ca1, na1, .inl fa1)), (qf0, .inl (cf0, 3001, .inl f0)), (qf1, .inl (cf1, 3001, .inl f1)), (qf2, .inl (cf2, 3001, .inl f2))] s.heap.size = A at hD  ⊢
  have hA : ∀ q : Nat, s.heap.size ≤ q → A q := fun q h => by rw [← hAe]; exact Or.inr h
  have hP : va_P (dC, dI) vwCl [(h0, .inr (9, [.ref qf0, .ref qf1, .ref qf2, .int v3, .ref qf4, .ref qf5, .ref qf6, .ref qf7, .ref qf8, .int v9, .int v10, .int v11, .int v12])), (qa1, .inl (ca1, na1, .inl fa1)), (qf0, .inl (cf0, 3001, .inl f0)), (qf1, .inl (cf1, 3001, .inl f1)), (qf2, .inl (cf2, 3001, .inl f2))] s.heap := hP
  have hl := lv_entry ([.ref h0, .ref qa1, .int a2, .int a3]) (n := 9) (Nat.le_of_ble_eq_true rfl)
  rw [lg_entry_eq]
  generalize (lg_sl ([.ref h0, .ref qa1, .int a2, .int a3]) ++ List.replicate (9 - (lg_sl ([.ref h0, .ref qa1, .int a2, .int a3])).length) Slot.unset).toArray = ls at hl ⊢
  have hl : lv_has ls 9 [(0, .ref h0), (1, .ref qa1), (2, .int a2), (3, .int a3)] := hl
  obtain ⟨H, hH⟩ : ∃ H : Heap, s.heap = H := ⟨_, rfl⟩
  rw [hH] at hP ⊢
  have hS : va_S A s.heap H [] := by rw [← hH]; exact va_S.rf
  obtain ⟨locs, hlo⟩ : ∃ locs : List Loc, locs = [] := ⟨_, rfl⟩
  rw [← hlo] at hS ⊢
  unfold sp_v9_scanNumber at hsp
  refine jn_use (α := Heap × List Loc × Array Slot × Int32 × Int64 × Int32 × Int32 × Int32 × (Nat → Int32) × (Nat → Int32) × (Nat → Int32) × Int32) (fun x9 => x9.1) (fun x9 => x9.2.1) (fun x9 => F0 m 96 x9.2.2.1 [.int (x9.2.2.2.2.2.2.2.1)]) (fun x9 => match x9 with | (H, locs, ls, l3_96, j4_96, l6_96, l7_96, s0_96, g0_96, g1_96, g2_96, x3_96) => lv_has ls 9 [(0, .ref h0), (3, .int l3_96), (4, .long j4_96), (6, .int l6_96), (7, .int l7_96)] ∧ va_S A s.heap H locs ∧ va_D A [(h0, .inr (9, [.ref qf0, .ref qf1, .ref qf2, .int x3_96, .ref qf4, .ref qf5, .ref qf6, .ref qf7, .ref qf8, .int v9, .int v10, .int v11, .int v12])), (qa1, .inl (ca1, na1, .inl fa1)), (qf0, .inl (cf0, 3001, .inl g0_96)), (qf1, .inl (cf1, 3001, .inl g1_96)), (qf2, .inl (cf2, 3001, .inl g2_96))] ∧ va_P (dC, dI) vwCl [(h0, .inr (9, [.ref qf0, .ref qf1, .ref qf2, .int x3_96, .ref qf4, .ref qf5, .ref qf6, .ref qf7, .ref qf8, .int v9, .int v10, .int v11, .int v12])), (qa1, .inl (ca1, na1, .inl fa1)), (qf0, .inl (cf0, 3001, .inl g0_96)), (qf1, .inl (cf1, 3001, .inl g1_96)), (qf2, .inl (cf2, 3001, .inl g2_96))] H ∧ jn_v9_scanNumber_96 nf a2 a3 v3 na1 fa1 f0 f1 f2 l3_96 j4_96 l6_96 l7_96 s0_96 g0_96 g1_96 g2_96 x3_96 = some (r0, o0, o1, o2, w3)) ?_ ?_
  · intro x9 hJ9
    obtain ⟨H, locs, ls, l3_96, j4_96, l6_96, l7_96, s0_96, g0_96, g1_96, g2_96, x3_96⟩ := x9
    obtain ⟨hl, hS, hD, hP, hsp⟩ := hJ9
    replace hl : lv_has ls 9 [(0, .ref h0), (3, .int l3_96), (4, .long j4_96), (6, .int l6_96), (7, .int l7_96)] := hl
    replace hS : va_S A s.heap H locs := hS
    replace hD : va_D A [(h0, .inr (9, [.ref qf0, .ref qf1, .ref qf2, .int x3_96, .ref qf4, .ref qf5, .ref qf6, .ref qf7, .ref qf8, .int v9, .int v10, .int v11, .int v12])), (qa1, .inl (ca1, na1, .inl fa1)), (qf0, .inl (cf0, 3001, .inl g0_96)), (qf1, .inl (cf1, 3001, .inl g1_96)), (qf2, .inl (cf2, 3001, .inl g2_96))] := hD
    replace hP : va_P (dC, dI) vwCl [(h0, .inr (9, [.ref qf0, .ref qf1, .ref qf2, .int x3_96, .ref qf4, .ref qf5, .ref qf6, .ref qf7, .ref qf8, .int v9, .int v10, .int v11, .int v12])), (qa1, .inl (ca1, na1, .inl fa1)), (qf0, .inl (cf0, 3001, .inl g0_96)), (qf1, .inl (cf1, 3001, .inl g1_96)), (qf2, .inl (cf2, 3001, .inl g2_96))] H := hP
    replace hsp : jn_v9_scanNumber_96 nf a2 a3 v3 na1 fa1 f0 f1 f2 l3_96 j4_96 l6_96 l7_96 s0_96 g0_96 g1_96 g2_96 x3_96 = some (r0, o0, o1, o2, w3) := hsp
    show W _ _ _ _ _ _ _ _ _ _ H locs _ _ _ (F0 m 96 ls [.int s0_96])
    unfold jn_v9_scanNumber_96 at hsp
    try dsimp only at hsp
    refine lv_istore (lv' := [(8, .int s0_96), (0, .ref h0), (3, .int l3_96), (4, .long j4_96), (6, .int l6_96), (7, .int l7_96)]) hx hb dX9_scanNumber_96 hl (by decide) rfl (fun ls hl => ?_)
    refine lv_iload hx hb dX9_scanNumber_98 (lv_at hl 5 rfl) ?_
    refine lv_if_ne (tgt := 117) hx hb dX9_scanNumber_100 (by decide) (fun c_15 => ?_) (fun c_15 => ?_)
    · rw [if_neg c_15] at hsp
      refine lv_iconst (v := 0) hx hb dX9_scanNumber_117 (by decide) ?_
      have hr0 := Option.some.inj hsp
      clear hsp
      obtain ⟨hq0, hr1⟩ := Prod.mk.inj hr0
      clear hr0
      obtain ⟨hq1, hr2⟩ := Prod.mk.inj hr1
      clear hr1
      obtain ⟨hq2, hr3⟩ := Prod.mk.inj hr2
      clear hr2
      obtain ⟨hq3, hr4⟩ := Prod.mk.inj hr3
      clear hr3
      subst hq0
      subst hq1
      subst hq2
      subst hq3
      subst hr4
      have hP9 := hP.sub (ws' := [(h0, .inr (9, [.ref qf0, .ref qf1, .ref qf2, .int x3_96, .ref qf4, .ref qf5, .ref qf6, .ref qf7, .ref qf8, .int v9, .int v10, .int v11, .int v12])), (qa1, .inl (ca1, na1, .inl fa1)), (qf0, .inl (cf0, 3001, .inl g0_96)), (qf1, .inl (cf1, 3001, .inl g1_96)), (qf2, .inl (cf2, 3001, .inl g2_96))]) [0, 1, 2, 3, 4] rfl
      have hD9 := hD.sub (ws' := [(h0, .inr (9, [.ref qf0, .ref qf1, .ref qf2, .int x3_96, .ref qf4, .ref qf5, .ref qf6, .ref qf7, .ref qf8, .int v9, .int v10, .int v11, .int v12])), (qa1, .inl (ca1, na1, .inl fa1)), (qf0, .inl (cf0, 3001, .inl g0_96)), (qf1, .inl (cf1, 3001, .inl g1_96)), (qf2, .inl (cf2, 3001, .inl g2_96))]) [0, 1, 2, 3, 4] (by decide) rfl
      have hK9 := hK.sub (tys' := [(ca1, .byte), (cf0, .int), (cf1, .int), (cf2, .int)]) [0, 1, 2, 3] rfl
      exact W.iret hx hb hr (fun t ht hW => ⟨⟨(0), (), rfl, rfl, by rw [ht]; exact hP9, va_K.moved hW.alike hK9, hD9⟩, hS.F ht⟩) hS.2.2 dX9_scanNumber_118
    · rw [if_pos c_15] at hsp
      refine lv_iload hx hb dX9_scanNumber_103 (lv_at hl 0 rfl) ?_
      refine lv_if_ne (tgt := 117) hx hb dX9_scanNumber_105 (by decide) (fun c_16 => ?_) (fun c_16 => ?_)
      · rw [if_neg c_16] at hsp
        refine lv_iconst (v := 0) hx hb dX9_scanNumber_117 (by decide) ?_
        have hr0 := Option.some.inj hsp
        clear hsp
        obtain ⟨hq0, hr1⟩ := Prod.mk.inj hr0
        clear hr0
        obtain ⟨hq1, hr2⟩ := Prod.mk.inj hr1
        clear hr1
        obtain ⟨hq2, hr3⟩ := Prod.mk.inj hr2
        clear hr2
        obtain ⟨hq3, hr4⟩ := Prod.mk.inj hr3
        clear hr3
        subst hq0
        subst hq1
        subst hq2
        subst hq3
        subst hr4
        have hP9 := hP.sub (ws' := [(h0, .inr (9, [.ref qf0, .ref qf1, .ref qf2, .int x3_96, .ref qf4, .ref qf5, .ref qf6, .ref qf7, .ref qf8, .int v9, .int v10, .int v11, .int v12])), (qa1, .inl (ca1, na1, .inl fa1)), (qf0, .inl (cf0, 3001, .inl g0_96)), (qf1, .inl (cf1, 3001, .inl g1_96)), (qf2, .inl (cf2, 3001, .inl g2_96))]) [0, 1, 2, 3, 4] rfl
        have hD9 := hD.sub (ws' := [(h0, .inr (9, [.ref qf0, .ref qf1, .ref qf2, .int x3_96, .ref qf4, .ref qf5, .ref qf6, .ref qf7, .ref qf8, .int v9, .int v10, .int v11, .int v12])), (qa1, .inl (ca1, na1, .inl fa1)), (qf0, .inl (cf0, 3001, .inl g0_96)), (qf1, .inl (cf1, 3001, .inl g1_96)), (qf2, .inl (cf2, 3001, .inl g2_96))]) [0, 1, 2, 3, 4] (by decide) rfl
        have hK9 := hK.sub (tys' := [(ca1, .byte), (cf0, .int), (cf1, .int), (cf2, .int)]) [0, 1, 2, 3] rfl
        exact W.iret hx hb hr (fun t ht hW => ⟨⟨(0), (), rfl, rfl, by rw [ht]; exact hP9, va_K.moved hW.alike hK9, hD9⟩, hS.F ht⟩) hS.2.2 dX9_scanNumber_118
      · rw [if_pos c_16] at hsp
        refine lv_lload hx hb dX9_scanNumber_108 (lv_at hl 3 rfl) ?_
        refine lv_ldc2 (v := 2147483647) hx hb hown (hts (.constantLong RX9 145 2147483647) mw_h7_322) dX9_scanNumber_110 ?_
        refine pw_lcmp hx hb dX9_scanNumber_113 ?_
        refine lv_if_le (tgt := 119) hx hb dX9_scanNumber_114 (by decide) (fun c_17 => ?_) (fun c_17 => ?_)
        · rw [if_pos c_17] at hsp
          refine lv_aload_n hx hb dX9_scanNumber_119 rfl (lv_at hl 1 rfl) ?_
          refine lv_iconst (v := 3) hx hb dX9_scanNumber_120 (by decide) ?_
          refine lv_iload_n hx hb dX9_scanNumber_121 rfl (lv_at hl 2 rfl) ?_
          refine lv_lload hx hb dX9_scanNumber_122 (lv_at hl 3 rfl) ?_
          refine lv_l2i hx hb dX9_scanNumber_124 rfl ?_
          obtain ⟨⟨g903_0, g903_1, g903_2, u3_3⟩, hu_3, hsp⟩ := ox_bind hsp
          try dsimp only at hsp
          have hPc := hP.sub (ws' := [(h0, .inr (9, [.ref qf0, .ref qf1, .ref qf2, .int x3_96, .ref qf4, .ref qf5, .ref qf6, .ref qf7, .ref qf8, .int v9, .int v10, .int v11, .int v12])), (qf0, .inl (cf0, 3001, .inl g0_96)), (qf1, .inl (cf1, 3001, .inl g1_96)), (qf2, .inl (cf2, 3001, .inl g2_96))]) [0, 2, 3, 4] rfl
          have hDc := hD.sub (ws' := [(h0, .inr (9, [.ref qf0, .ref qf1, .ref qf2, .int x3_96, .ref qf4, .ref qf5, .ref qf6, .ref qf7, .ref qf8, .int v9, .int v10, .int v11, .int v12])), (qf0, .inl (cf0, 3001, .inl g0_96)), (qf1, .inl (cf1, 3001, .inl g1_96)), (qf2, .inl (cf2, 3001, .inl g2_96))]) [0, 2, 3, 4] (by decide) rfl
          have hKc := hK.sub (tys' := [(cf0, .int), (cf1, .int), (cf2, .int)]) [1, 2, 3] rfl
          have hFc := va_free (wc := [(h0, .inr (9, [.ref qf0, .ref qf1, .ref qf2, .int x3_96, .ref qf4, .ref qf5, .ref qf6, .ref qf7, .ref qf8, .int v9, .int v10, .int v11, .int v12])), (qf0, .inl (cf0, 3001, .inl g0_96)), (qf1, .inl (cf1, 3001, .inl g1_96)), (qf2, .inl (cf2, 3001, .inl g2_96))]) hD hS hA [0, 2, 3, 4] rfl
          refine va_callv (va_runV (As := [.int 3, .int l3_96, .int ((j4_96 : Int64).toInt32)]) (rest := []) ⟨hx, hb, hml, hown, hts⟩ (t9_addToken l dC dI H.size h0 3 l3_96 (((j4_96 : Int64).toInt32)) qf0 qf1 qf2 x3_96 qf4 qf5 qf6 qf7 qf8 v9 v10 v11 v12 cf0 g0_96 cf1 g1_96 cf2 g2_96 nf g903_0 g903_1 g903_2 u3_3 hu_3) (cwV 3 hts gv_h7_63 rfl rfl rfl (by decide +kernel) ⟨Nat.le_of_ble_eq_true rfl, Nat.le_of_ble_eq_true rfl⟩) ⟨fun a U g mk q => by obtain ⟨q0, q1, qP, qK, qD⟩ := q; exact ⟨q0, q1, qP, va_K.moved (u := U) (U := U.calling g mk a) (Vm.Alike.refl U.vm) qK, qD⟩, va_recv hKc hPc (ci := 9) (q0 := 0) rfl rfl, fun U hU hW => ⟨rfl, by rw [hU], by rw [hU]; exact hPc, va_K.moved hW.alike hKc, hDc.weaken (fun _ _ _ _ => trivial)⟩⟩ rfl rfl hl.1 rfl (lv_room (Nat.le_of_ble_eq_true rfl)) dX9_scanNumber_125 ⟨Nat.le_of_ble_eq_true rfl, Nat.le_of_ble_eq_true rfl⟩) hS (fun q _ h => hFc q h) hFc ?_
          clear hS
          intro u t H1 locs ht hvm hw hB hz1 hk1 hS
          obtain ⟨⟩ := u
          obtain ⟨hP1, hK1, hD1⟩ := hB
          rw [ht] at hP1
          have hK1 := va_K.moved hvm.symm hK1
          try dsimp only at hw
          have hPD := va_join (wr := [(qa1, .inl (ca1, na1, .inl fa1))]) (w1 := [(h0, .inr (9, [.ref qf0, .ref qf1, .ref qf2, .int u3_3, .ref qf4, .ref qf5, .ref qf6, .ref qf7, .ref qf8, .int v9, .int v10, .int v11, .int v12])), (qf0, .inl (cf0, 3001, .inl g903_0)), (qf1, .inl (cf1, 3001, .inl g903_1)), (qf2, .inl (cf2, 3001, .inl g903_2))]) hP hD [0, 2, 3, 4] [1] rfl rfl (by decide) (by decide) hk1 hFc hP1 hD1
          clear hP hD
          obtain ⟨hP, hD⟩ := hPD
          replace hK := (hK.sub (tys' := [(ca1, .byte)]) [0] rfl).app hK1
          clear hPc hDc hKc hFc hP1 hK1 hD1 hz1 hk1 ht hvm
          generalize H1 = H at hP hS ⊢
          replace hP : va_P (dC, dI) vwCl [(qa1, .inl (ca1, na1, .inl fa1)), (h0, .inr (9, [.ref qf0, .ref qf1, .ref qf2, .int u3_3, .ref qf4, .ref qf5, .ref qf6, .ref qf7, .ref qf8, .int v9, .int v10, .int v11, .int v12])), (qf0, .inl (cf0, 3001, .inl g903_0)), (qf1, .inl (cf1, 3001, .inl g903_1)), (qf2, .inl (cf2, 3001, .inl g903_2))] H := hP
          replace hD : va_D A [(qa1, .inl (ca1, na1, .inl fa1)), (h0, .inr (9, [.ref qf0, .ref qf1, .ref qf2, .int u3_3, .ref qf4, .ref qf5, .ref qf6, .ref qf7, .ref qf8, .int v9, .int v10, .int v11, .int v12])), (qf0, .inl (cf0, 3001, .inl g903_0)), (qf1, .inl (cf1, 3001, .inl g903_1)), (qf2, .inl (cf2, 3001, .inl g903_2))] := hD
          replace hK : va_K (dC, dI) vwCl [(ca1, .byte), (cf0, .int), (cf1, .int), (cf2, .int)] s := hK
          refine lv_iload hx hb dX9_scanNumber_128 (lv_at hl 4 rfl) ?_
          refine lv_iload_n hx hb dX9_scanNumber_130 rfl (lv_at hl 2 rfl) ?_
          refine lv_isub hx hb dX9_scanNumber_131 ?_
          have hr0 := Option.some.inj hsp
          clear hsp
          obtain ⟨hq0, hr1⟩ := Prod.mk.inj hr0
          clear hr0
          obtain ⟨hq1, hr2⟩ := Prod.mk.inj hr1
          clear hr1
          obtain ⟨hq2, hr3⟩ := Prod.mk.inj hr2
          clear hr2
          obtain ⟨hq3, hr4⟩ := Prod.mk.inj hr3
          clear hr3
          subst hq0
          subst hq1
          subst hq2
          subst hq3
          subst hr4
          have hP9 := hP.sub (ws' := [(h0, .inr (9, [.ref qf0, .ref qf1, .ref qf2, .int u3_3, .ref qf4, .ref qf5, .ref qf6, .ref qf7, .ref qf8, .int v9, .int v10, .int v11, .int v12])), (qa1, .inl (ca1, na1, .inl fa1)), (qf0, .inl (cf0, 3001, .inl g903_0)), (qf1, .inl (cf1, 3001, .inl g903_1)), (qf2, .inl (cf2, 3001, .inl g903_2))]) [1, 0, 2, 3, 4] rfl
          have hD9 := hD.sub (ws' := [(h0, .inr (9, [.ref qf0, .ref qf1, .ref qf2, .int u3_3, .ref qf4, .ref qf5, .ref qf6, .ref qf7, .ref qf8, .int v9, .int v10, .int v11, .int v12])), (qa1, .inl (ca1, na1, .inl fa1)), (qf0, .inl (cf0, 3001, .inl g903_0)), (qf1, .inl (cf1, 3001, .inl g903_1)), (qf2, .inl (cf2, 3001, .inl g903_2))]) [1, 0, 2, 3, 4] (by decide) rfl
          have hK9 := hK.sub (tys' := [(ca1, .byte), (cf0, .int), (cf1, .int), (cf2, .int)]) [0, 1, 2, 3] rfl
          exact W.iret hx hb hr (fun t ht hW => ⟨⟨((l6_96 - l3_96)), (), rfl, rfl, by rw [ht]; exact hP9, va_K.moved hW.alike hK9, hD9⟩, hS.F ht⟩) hS.2.2 dX9_scanNumber_132
        · rw [if_neg c_17] at hsp
          refine lv_iconst (v := 0) hx hb dX9_scanNumber_117 (by decide) ?_
          have hr0 := Option.some.inj hsp
          clear hsp
          obtain ⟨hq0, hr1⟩ := Prod.mk.inj hr0
          clear hr0
          obtain ⟨hq1, hr2⟩ := Prod.mk.inj hr1
          clear hr1
          obtain ⟨hq2, hr3⟩ := Prod.mk.inj hr2
          clear hr2
          obtain ⟨hq3, hr4⟩ := Prod.mk.inj hr3
          clear hr3
          subst hq0
          subst hq1
          subst hq2
          subst hq3
          subst hr4
          have hP9 := hP.sub (ws' := [(h0, .inr (9, [.ref qf0, .ref qf1, .ref qf2, .int x3_96, .ref qf4, .ref qf5, .ref qf6, .ref qf7, .ref qf8, .int v9, .int v10, .int v11, .int v12])), (qa1, .inl (ca1, na1, .inl fa1)), (qf0, .inl (cf0, 3001, .inl g0_96)), (qf1, .inl (cf1, 3001, .inl g1_96)), (qf2, .inl (cf2, 3001, .inl g2_96))]) [0, 1, 2, 3, 4] rfl
          have hD9 := hD.sub (ws' := [(h0, .inr (9, [.ref qf0, .ref qf1, .ref qf2, .int x3_96, .ref qf4, .ref qf5, .ref qf6, .ref qf7, .ref qf8, .int v9, .int v10, .int v11, .int v12])), (qa1, .inl (ca1, na1, .inl fa1)), (qf0, .inl (cf0, 3001, .inl g0_96)), (qf1, .inl (cf1, 3001, .inl g1_96)), (qf2, .inl (cf2, 3001, .inl g2_96))]) [0, 1, 2, 3, 4] (by decide) rfl
          have hK9 := hK.sub (tys' := [(ca1, .byte), (cf0, .int), (cf1, .int), (cf2, .int)]) [0, 1, 2, 3] rfl
          exact W.iret hx hb hr (fun t ht hW => ⟨⟨(0), (), rfl, rfl, by rw [ht]; exact hP9, va_K.moved hW.alike hK9, hD9⟩, hS.F ht⟩) hS.2.2 dX9_scanNumber_118
  intro hj_96
  refine jn_use (α := Heap × List Loc × Array Slot × Int32 × Int64 × Int32 × Int32 × (Nat → Int32) × (Nat → Int32) × (Nat → Int32) × Int32) (fun x9 => x9.1) (fun x9 => x9.2.1) (fun x9 => F0 m 95 x9.2.2.1 []) (fun x9 => match x9 with | (H, locs, ls, l3_95, j4_95, l6_95, l7_95, g0_95, g1_95, g2_95, x3_95) => lv_has ls 9 [(0, .ref h0), (3, .int l3_95), (4, .long j4_95), (6, .int l6_95), (7, .int l7_95)] ∧ va_S A s.heap H locs ∧ va_D A [(h0, .inr (9, [.ref qf0, .ref qf1, .ref qf2, .int x3_95, .ref qf4, .ref qf5, .ref qf6, .ref qf7, .ref qf8, .int v9, .int v10, .int v11, .int v12])), (qa1, .inl (ca1, na1, .inl fa1)), (qf0, .inl (cf0, 3001, .inl g0_95)), (qf1, .inl (cf1, 3001, .inl g1_95)), (qf2, .inl (cf2, 3001, .inl g2_95))] ∧ va_P (dC, dI) vwCl [(h0, .inr (9, [.ref qf0, .ref qf1, .ref qf2, .int x3_95, .ref qf4, .ref qf5, .ref qf6, .ref qf7, .ref qf8, .int v9, .int v10, .int v11, .int v12])), (qa1, .inl (ca1, na1, .inl fa1)), (qf0, .inl (cf0, 3001, .inl g0_95)), (qf1, .inl (cf1, 3001, .inl g1_95)), (qf2, .inl (cf2, 3001, .inl g2_95))] H ∧ jn_v9_scanNumber_95 nf a2 a3 v3 na1 fa1 f0 f1 f2 l3_95 j4_95 l6_95 l7_95 g0_95 g1_95 g2_95 x3_95 = some (r0, o0, o1, o2, w3)) ?_ ?_
  · intro x9 hJ9
    obtain ⟨H, locs, ls, l3_95, j4_95, l6_95, l7_95, g0_95, g1_95, g2_95, x3_95⟩ := x9
    obtain ⟨hl, hS, hD, hP, hsp⟩ := hJ9
    replace hl : lv_has ls 9 [(0, .ref h0), (3, .int l3_95), (4, .long j4_95), (6, .int l6_95), (7, .int l7_95)] := hl
    replace hS : va_S A s.heap H locs := hS
    replace hD : va_D A [(h0, .inr (9, [.ref qf0, .ref qf1, .ref qf2, .int x3_95, .ref qf4, .ref qf5, .ref qf6, .ref qf7, .ref qf8, .int v9, .int v10, .int v11, .int v12])), (qa1, .inl (ca1, na1, .inl fa1)), (qf0, .inl (cf0, 3001, .inl g0_95)), (qf1, .inl (cf1, 3001, .inl g1_95)), (qf2, .inl (cf2, 3001, .inl g2_95))] := hD
    replace hP : va_P (dC, dI) vwCl [(h0, .inr (9, [.ref qf0, .ref qf1, .ref qf2, .int x3_95, .ref qf4, .ref qf5, .ref qf6, .ref qf7, .ref qf8, .int v9, .int v10, .int v11, .int v12])), (qa1, .inl (ca1, na1, .inl fa1)), (qf0, .inl (cf0, 3001, .inl g0_95)), (qf1, .inl (cf1, 3001, .inl g1_95)), (qf2, .inl (cf2, 3001, .inl g2_95))] H := hP
    replace hsp : jn_v9_scanNumber_95 nf a2 a3 v3 na1 fa1 f0 f1 f2 l3_95 j4_95 l6_95 l7_95 g0_95 g1_95 g2_95 x3_95 = some (r0, o0, o1, o2, w3) := hsp
    show W _ _ _ _ _ _ _ _ _ _ H locs _ _ _ (F0 m 95 ls [])
    unfold jn_v9_scanNumber_95 at hsp
    try dsimp only at hsp
    refine lv_iconst (v := 0) hx hb dX9_scanNumber_95 (by decide) ?_
    exact hj_96 (H, locs, ls, l3_95, j4_95, l6_95, l7_95, 0, g0_95, g1_95, g2_95, x3_95) ⟨lv_sub hl [0, 1, 2, 3, 4] rfl, hS, hD.sub (ws' := [(h0, .inr (9, [.ref qf0, .ref qf1, .ref qf2, .int x3_95, .ref qf4, .ref qf5, .ref qf6, .ref qf7, .ref qf8, .int v9, .int v10, .int v11, .int v12])), (qa1, .inl (ca1, na1, .inl fa1)), (qf0, .inl (cf0, 3001, .inl g0_95)), (qf1, .inl (cf1, 3001, .inl g1_95)), (qf2, .inl (cf2, 3001, .inl g2_95))]) [0, 1, 2, 3, 4] (by decide) rfl, hP.sub (ws' := [(h0, .inr (9, [.ref qf0, .ref qf1, .ref qf2, .int x3_95, .ref qf4, .ref qf5, .ref qf6, .ref qf7, .ref qf8, .int v9, .int v10, .int v11, .int v12])), (qa1, .inl (ca1, na1, .inl fa1)), (qf0, .inl (cf0, 3001, .inl g0_95)), (qf1, .inl (cf1, 3001, .inl g1_95)), (qf2, .inl (cf2, 3001, .inl g2_95))]) [0, 1, 2, 3, 4] rfl, hsp⟩
  intro hj_95
  refine jn_use (α := Heap × List Loc × Array Slot × Int32 × Int32 × Int64 × Int32 × Int32 × (Nat → Int32) × (Nat → Int32) × (Nat → Int32) × Int32) (fun x9 => x9.1) (fun x9 => x9.2.1) (fun x9 => F0 m 73 x9.2.2.1 [.int (x9.2.2.2.2.2.2.2.1)]) (fun x9 => match x9 with | (H, locs, ls, l2_73, l3_73, j4_73, l6_73, s0_73, g0_73, g1_73, g2_73, x3_73) => lv_has ls 9 [(0, .ref h0), (1, .ref qa1), (2, .int l2_73), (3, .int l3_73), (4, .long j4_73), (6, .int l6_73)] ∧ va_S A s.heap H locs ∧ va_D A [(h0, .inr (9, [.ref qf0, .ref qf1, .ref qf2, .int x3_73, .ref qf4, .ref qf5, .ref qf6, .ref qf7, .ref qf8, .int v9, .int v10, .int v11, .int v12])), (qa1, .inl (ca1, na1, .inl fa1)), (qf0, .inl (cf0, 3001, .inl g0_73)), (qf1, .inl (cf1, 3001, .inl g1_73)), (qf2, .inl (cf2, 3001, .inl g2_73))] ∧ va_P (dC, dI) vwCl [(h0, .inr (9, [.ref qf0, .ref qf1, .ref qf2, .int x3_73, .ref qf4, .ref qf5, .ref qf6, .ref qf7, .ref qf8, .int v9, .int v10, .int v11, .int v12])), (qa1, .inl (ca1, na1, .inl fa1)), (qf0, .inl (cf0, 3001, .inl g0_73)), (qf1, .inl (cf1, 3001, .inl g1_73)), (qf2, .inl (cf2, 3001, .inl g2_73))] H ∧ jn_v9_scanNumber_73 nf a2 a3 v3 na1 fa1 f0 f1 f2 l2_73 l3_73 j4_73 l6_73 s0_73 g0_73 g1_73 g2_73 x3_73 = some (r0, o0, o1, o2, w3)) ?_ ?_
  · intro x9 hJ9
    obtain ⟨H, locs, ls, l2_73, l3_73, j4_73, l6_73, s0_73, g0_73, g1_73, g2_73, x3_73⟩ := x9
    obtain ⟨hl, hS, hD, hP, hsp⟩ := hJ9
    replace hl : lv_has ls 9 [(0, .ref h0), (1, .ref qa1), (2, .int l2_73), (3, .int l3_73), (4, .long j4_73), (6, .int l6_73)] := hl
    replace hS : va_S A s.heap H locs := hS
    replace hD : va_D A [(h0, .inr (9, [.ref qf0, .ref qf1, .ref qf2, .int x3_73, .ref qf4, .ref qf5, .ref qf6, .ref qf7, .ref qf8, .int v9, .int v10, .int v11, .int v12])), (qa1, .inl (ca1, na1, .inl fa1)), (qf0, .inl (cf0, 3001, .inl g0_73)), (qf1, .inl (cf1, 3001, .inl g1_73)), (qf2, .inl (cf2, 3001, .inl g2_73))] := hD
    replace hP : va_P (dC, dI) vwCl [(h0, .inr (9, [.ref qf0, .ref qf1, .ref qf2, .int x3_73, .ref qf4, .ref qf5, .ref qf6, .ref qf7, .ref qf8, .int v9, .int v10, .int v11, .int v12])), (qa1, .inl (ca1, na1, .inl fa1)), (qf0, .inl (cf0, 3001, .inl g0_73)), (qf1, .inl (cf1, 3001, .inl g1_73)), (qf2, .inl (cf2, 3001, .inl g2_73))] H := hP
    replace hsp : jn_v9_scanNumber_73 nf a2 a3 v3 na1 fa1 f0 f1 f2 l2_73 l3_73 j4_73 l6_73 s0_73 g0_73 g1_73 g2_73 x3_73 = some (r0, o0, o1, o2, w3) := hsp
    show W _ _ _ _ _ _ _ _ _ _ H locs _ _ _ (F0 m 73 ls [.int s0_73])
    unfold jn_v9_scanNumber_73 at hsp
    try dsimp only at hsp
    refine lv_istore (lv' := [(7, .int s0_73), (0, .ref h0), (1, .ref qa1), (2, .int l2_73), (3, .int l3_73), (4, .long j4_73), (6, .int l6_73)]) hx hb dX9_scanNumber_73 hl (by decide) rfl (fun ls hl => ?_)
    refine lv_iload hx hb dX9_scanNumber_75 (lv_at hl 6 rfl) ?_
    refine lv_iload_n hx hb dX9_scanNumber_77 rfl (lv_at hl 3 rfl) ?_
    refine lv_icmp_ge (tgt := 95) hx hb dX9_scanNumber_78 (by decide) (fun c_10 => ?_) (fun c_10 => ?_)
    · rw [if_pos c_10] at hsp
      exact hj_95 (H, locs, ls, l3_73, j4_73, l6_73, s0_73, g0_73, g1_73, g2_73, x3_73) ⟨lv_sub hl [1, 4, 5, 6, 0] rfl, hS, hD.sub (ws' := [(h0, .inr (9, [.ref qf0, .ref qf1, .ref qf2, .int x3_73, .ref qf4, .ref qf5, .ref qf6, .ref qf7, .ref qf8, .int v9, .int v10, .int v11, .int v12])), (qa1, .inl (ca1, na1, .inl fa1)), (qf0, .inl (cf0, 3001, .inl g0_73)), (qf1, .inl (cf1, 3001, .inl g1_73)), (qf2, .inl (cf2, 3001, .inl g2_73))]) [0, 1, 2, 3, 4] (by decide) rfl, hP.sub (ws' := [(h0, .inr (9, [.ref qf0, .ref qf1, .ref qf2, .int x3_73, .ref qf4, .ref qf5, .ref qf6, .ref qf7, .ref qf8, .int v9, .int v10, .int v11, .int v12])), (qa1, .inl (ca1, na1, .inl fa1)), (qf0, .inl (cf0, 3001, .inl g0_73)), (qf1, .inl (cf1, 3001, .inl g1_73)), (qf2, .inl (cf2, 3001, .inl g2_73))]) [0, 1, 2, 3, 4] rfl, hsp⟩
    · rw [if_neg c_10] at hsp
      refine lv_aload_n hx hb dX9_scanNumber_81 rfl (lv_at hl 2 rfl) ?_
      refine lv_iload hx hb dX9_scanNumber_82 (lv_at hl 6 rfl) ?_
      obtain ⟨hi_11, hsp⟩ := ox_in hsp
      refine va_bald hx hb hK hP 1 0 rfl rfl (i := l6_73) hi_11 dX9_scanNumber_84 ?_
      obtain ⟨u2_0, hu_2, hsp⟩ := ox_bind hsp
      try dsimp only at hsp
      have hPc := hP.sub (ws' := []) [] rfl
      have hDc := hD.sub (ws' := []) [] (by decide) rfl
      have hKc := hK.sub (tys' := []) [] rfl
      have hFc := va_free (wc := []) hD hS hA [] rfl
      refine va_calli (va_runS (As := [.int (fa1 (l6_73 : Int32).toNatClampNeg)]) (rest := []) ⟨hx, hb, hml, hown, hts⟩ (t9_isNamePart l dC dI H.size ((fa1 (l6_73 : Int32).toNatClampNeg)) nf u2_0 hu_2) (va_cwS 1 hts gv_h7_66 rfl rfl rfl (by decide +kernel) ⟨Nat.le_of_ble_eq_true rfl, Nat.le_of_ble_eq_true rfl⟩) ⟨fun a U g mk q => by obtain ⟨q0, q1, qP, qK, qD⟩ := q; exact ⟨q0, q1, qP, va_K.moved (u := U) (U := U.calling g mk a) (Vm.Alike.refl U.vm) qK, qD⟩, fun U hU hW => ⟨rfl, by rw [hU], by rw [hU]; exact hPc, va_K.moved hW.alike hKc, hDc.weaken (fun _ _ _ _ => trivial)⟩⟩ rfl rfl hl.1 rfl (lv_room (Nat.le_of_ble_eq_true rfl)) dX9_scanNumber_85 ⟨Nat.le_of_ble_eq_true rfl, Nat.le_of_ble_eq_true rfl⟩) hS (fun q _ h => hFc q h) hFc ?_
      clear hS
      intro r_12 u t H1 locs ht hvm hw hB hz1 hk1 hS
      obtain ⟨⟩ := u
      obtain ⟨hP1, hK1, hD1⟩ := hB
      rw [ht] at hP1
      have hK1 := va_K.moved hvm.symm hK1
      try dsimp only at hw
      have hPD := va_join (wr := [(h0, .inr (9, [.ref qf0, .ref qf1, .ref qf2, .int x3_73, .ref qf4, .ref qf5, .ref qf6, .ref qf7, .ref qf8, .int v9, .int v10, .int v11, .int v12])), (qa1, .inl (ca1, na1, .inl fa1)), (qf0, .inl (cf0, 3001, .inl g0_73)), (qf1, .inl (cf1, 3001, .inl g1_73)), (qf2, .inl (cf2, 3001, .inl g2_73))]) (w1 := []) hP hD [] [0, 1, 2, 3, 4] rfl rfl (by decide) (by decide) hk1 hFc hP1 hD1
      clear hP hD
      obtain ⟨hP, hD⟩ := hPD
      replace hK := (hK.sub (tys' := [(ca1, .byte), (cf0, .int), (cf1, .int), (cf2, .int)]) [0, 1, 2, 3] rfl).app hK1
      clear hPc hDc hKc hFc hP1 hK1 hD1 hz1 hk1 ht hvm
      generalize H1 = H at hP hS ⊢
      replace hP : va_P (dC, dI) vwCl [(h0, .inr (9, [.ref qf0, .ref qf1, .ref qf2, .int x3_73, .ref qf4, .ref qf5, .ref qf6, .ref qf7, .ref qf8, .int v9, .int v10, .int v11, .int v12])), (qa1, .inl (ca1, na1, .inl fa1)), (qf0, .inl (cf0, 3001, .inl g0_73)), (qf1, .inl (cf1, 3001, .inl g1_73)), (qf2, .inl (cf2, 3001, .inl g2_73))] H := hP
      replace hD : va_D A [(h0, .inr (9, [.ref qf0, .ref qf1, .ref qf2, .int x3_73, .ref qf4, .ref qf5, .ref qf6, .ref qf7, .ref qf8, .int v9, .int v10, .int v11, .int v12])), (qa1, .inl (ca1, na1, .inl fa1)), (qf0, .inl (cf0, 3001, .inl g0_73)), (qf1, .inl (cf1, 3001, .inl g1_73)), (qf2, .inl (cf2, 3001, .inl g2_73))] := hD
      replace hK : va_K (dC, dI) vwCl [(ca1, .byte), (cf0, .int), (cf1, .int), (cf2, .int)] s := hK
      obtain ⟨rfl, hz_2⟩ := hw
      rcases hz_2 with rfl | rfl
      · rw [if_pos rfl] at hsp
        refine lv_if_eq (tgt := 95) hx hb dX9_scanNumber_88 (by decide) (fun c_13 => ?_) (fun c_13 => (show False by revert c_13; decide).elim)
        exact hj_95 (H, locs, ls, l3_73, j4_73, l6_73, s0_73, g0_73, g1_73, g2_73, x3_73) ⟨lv_sub hl [1, 4, 5, 6, 0] rfl, hS, hD.sub (ws' := [(h0, .inr (9, [.ref qf0, .ref qf1, .ref qf2, .int x3_73, .ref qf4, .ref qf5, .ref qf6, .ref qf7, .ref qf8, .int v9, .int v10, .int v11, .int v12])), (qa1, .inl (ca1, na1, .inl fa1)), (qf0, .inl (cf0, 3001, .inl g0_73)), (qf1, .inl (cf1, 3001, .inl g1_73)), (qf2, .inl (cf2, 3001, .inl g2_73))]) [0, 1, 2, 3, 4] (by decide) rfl, hP.sub (ws' := [(h0, .inr (9, [.ref qf0, .ref qf1, .ref qf2, .int x3_73, .ref qf4, .ref qf5, .ref qf6, .ref qf7, .ref qf8, .int v9, .int v10, .int v11, .int v12])), (qa1, .inl (ca1, na1, .inl fa1)), (qf0, .inl (cf0, 3001, .inl g0_73)), (qf1, .inl (cf1, 3001, .inl g1_73)), (qf2, .inl (cf2, 3001, .inl g2_73))]) [0, 1, 2, 3, 4] rfl, hsp⟩
      · rw [if_neg (by decide)] at hsp
        refine lv_if_eq (tgt := 95) hx hb dX9_scanNumber_88 (by decide) (fun c_14 => (show False by revert c_14; decide).elim) (fun c_14 => ?_)
        refine lv_iconst (v := 1) hx hb dX9_scanNumber_91 (by decide) ?_
        refine lv_goto (tgt := 96) hx hb dX9_scanNumber_92 (by decide) ?_
        exact hj_96 (H, locs, ls, l3_73, j4_73, l6_73, s0_73, 1, g0_73, g1_73, g2_73, x3_73) ⟨lv_sub hl [1, 4, 5, 6, 0] rfl, hS, hD.sub (ws' := [(h0, .inr (9, [.ref qf0, .ref qf1, .ref qf2, .int x3_73, .ref qf4, .ref qf5, .ref qf6, .ref qf7, .ref qf8, .int v9, .int v10, .int v11, .int v12])), (qa1, .inl (ca1, na1, .inl fa1)), (qf0, .inl (cf0, 3001, .inl g0_73)), (qf1, .inl (cf1, 3001, .inl g1_73)), (qf2, .inl (cf2, 3001, .inl g2_73))]) [0, 1, 2, 3, 4] (by decide) rfl, hP.sub (ws' := [(h0, .inr (9, [.ref qf0, .ref qf1, .ref qf2, .int x3_73, .ref qf4, .ref qf5, .ref qf6, .ref qf7, .ref qf8, .int v9, .int v10, .int v11, .int v12])), (qa1, .inl (ca1, na1, .inl fa1)), (qf0, .inl (cf0, 3001, .inl g0_73)), (qf1, .inl (cf1, 3001, .inl g1_73)), (qf2, .inl (cf2, 3001, .inl g2_73))]) [0, 1, 2, 3, 4] rfl, hsp⟩
  intro hj_73
  refine jn_use (α := Heap × List Loc × Array Slot × Int32 × Int32 × Int64 × Int32 × (Nat → Int32) × (Nat → Int32) × (Nat → Int32) × Int32) (fun x9 => x9.1) (fun x9 => x9.2.1) (fun x9 => F0 m 72 x9.2.2.1 []) (fun x9 => match x9 with | (H, locs, ls, l2_72, l3_72, j4_72, l6_72, g0_72, g1_72, g2_72, x3_72) => lv_has ls 9 [(0, .ref h0), (1, .ref qa1), (2, .int l2_72), (3, .int l3_72), (4, .long j4_72), (6, .int l6_72)] ∧ va_S A s.heap H locs ∧ va_D A [(h0, .inr (9, [.ref qf0, .ref qf1, .ref qf2, .int x3_72, .ref qf4, .ref qf5, .ref qf6, .ref qf7, .ref qf8, .int v9, .int v10, .int v11, .int v12])), (qa1, .inl (ca1, na1, .inl fa1)), (qf0, .inl (cf0, 3001, .inl g0_72)), (qf1, .inl (cf1, 3001, .inl g1_72)), (qf2, .inl (cf2, 3001, .inl g2_72))] ∧ va_P (dC, dI) vwCl [(h0, .inr (9, [.ref qf0, .ref qf1, .ref qf2, .int x3_72, .ref qf4, .ref qf5, .ref qf6, .ref qf7, .ref qf8, .int v9, .int v10, .int v11, .int v12])), (qa1, .inl (ca1, na1, .inl fa1)), (qf0, .inl (cf0, 3001, .inl g0_72)), (qf1, .inl (cf1, 3001, .inl g1_72)), (qf2, .inl (cf2, 3001, .inl g2_72))] H ∧ jn_v9_scanNumber_72 nf a2 a3 v3 na1 fa1 f0 f1 f2 l2_72 l3_72 j4_72 l6_72 g0_72 g1_72 g2_72 x3_72 = some (r0, o0, o1, o2, w3)) ?_ ?_
  · intro x9 hJ9
    obtain ⟨H, locs, ls, l2_72, l3_72, j4_72, l6_72, g0_72, g1_72, g2_72, x3_72⟩ := x9
    obtain ⟨hl, hS, hD, hP, hsp⟩ := hJ9
    replace hl : lv_has ls 9 [(0, .ref h0), (1, .ref qa1), (2, .int l2_72), (3, .int l3_72), (4, .long j4_72), (6, .int l6_72)] := hl
    replace hS : va_S A s.heap H locs := hS
    replace hD : va_D A [(h0, .inr (9, [.ref qf0, .ref qf1, .ref qf2, .int x3_72, .ref qf4, .ref qf5, .ref qf6, .ref qf7, .ref qf8, .int v9, .int v10, .int v11, .int v12])), (qa1, .inl (ca1, na1, .inl fa1)), (qf0, .inl (cf0, 3001, .inl g0_72)), (qf1, .inl (cf1, 3001, .inl g1_72)), (qf2, .inl (cf2, 3001, .inl g2_72))] := hD
    replace hP : va_P (dC, dI) vwCl [(h0, .inr (9, [.ref qf0, .ref qf1, .ref qf2, .int x3_72, .ref qf4, .ref qf5, .ref qf6, .ref qf7, .ref qf8, .int v9, .int v10, .int v11, .int v12])), (qa1, .inl (ca1, na1, .inl fa1)), (qf0, .inl (cf0, 3001, .inl g0_72)), (qf1, .inl (cf1, 3001, .inl g1_72)), (qf2, .inl (cf2, 3001, .inl g2_72))] H := hP
    replace hsp : jn_v9_scanNumber_72 nf a2 a3 v3 na1 fa1 f0 f1 f2 l2_72 l3_72 j4_72 l6_72 g0_72 g1_72 g2_72 x3_72 = some (r0, o0, o1, o2, w3) := hsp
    show W _ _ _ _ _ _ _ _ _ _ H locs _ _ _ (F0 m 72 ls [])
    unfold jn_v9_scanNumber_72 at hsp
    try dsimp only at hsp
    refine lv_iconst (v := 0) hx hb dX9_scanNumber_72 (by decide) ?_
    exact hj_73 (H, locs, ls, l2_72, l3_72, j4_72, l6_72, 0, g0_72, g1_72, g2_72, x3_72) ⟨lv_sub hl [0, 1, 2, 3, 4, 5] rfl, hS, hD.sub (ws' := [(h0, .inr (9, [.ref qf0, .ref qf1, .ref qf2, .int x3_72, .ref qf4, .ref qf5, .ref qf6, .ref qf7, .ref qf8, .int v9, .int v10, .int v11, .int v12])), (qa1, .inl (ca1, na1, .inl fa1)), (qf0, .inl (cf0, 3001, .inl g0_72)), (qf1, .inl (cf1, 3001, .inl g1_72)), (qf2, .inl (cf2, 3001, .inl g2_72))]) [0, 1, 2, 3, 4] (by decide) rfl, hP.sub (ws' := [(h0, .inr (9, [.ref qf0, .ref qf1, .ref qf2, .int x3_72, .ref qf4, .ref qf5, .ref qf6, .ref qf7, .ref qf8, .int v9, .int v10, .int v11, .int v12])), (qa1, .inl (ca1, na1, .inl fa1)), (qf0, .inl (cf0, 3001, .inl g0_72)), (qf1, .inl (cf1, 3001, .inl g1_72)), (qf2, .inl (cf2, 3001, .inl g2_72))]) [0, 1, 2, 3, 4] rfl, hsp⟩
  intro hj_72
  refine jn_use (α := Heap × List Loc × Array Slot × Int32 × Int32 × Int64 × Int32 × (Nat → Int32) × (Nat → Int32) × (Nat → Int32) × Int32) (fun x9 => x9.1) (fun x9 => x9.2.1) (fun x9 => F0 m 52 x9.2.2.1 []) (fun x9 => match x9 with | (H, locs, ls, l2_52, l3_52, j4_52, l6_52, g0_52, g1_52, g2_52, x3_52) => lv_has ls 9 [(0, .ref h0), (1, .ref qa1), (2, .int l2_52), (3, .int l3_52), (4, .long j4_52), (6, .int l6_52)] ∧ va_S A s.heap H locs ∧ va_D A [(h0, .inr (9, [.ref qf0, .ref qf1, .ref qf2, .int x3_52, .ref qf4, .ref qf5, .ref qf6, .ref qf7, .ref qf8, .int v9, .int v10, .int v11, .int v12])), (qa1, .inl (ca1, na1, .inl fa1)), (qf0, .inl (cf0, 3001, .inl g0_52)), (qf1, .inl (cf1, 3001, .inl g1_52)), (qf2, .inl (cf2, 3001, .inl g2_52))] ∧ va_P (dC, dI) vwCl [(h0, .inr (9, [.ref qf0, .ref qf1, .ref qf2, .int x3_52, .ref qf4, .ref qf5, .ref qf6, .ref qf7, .ref qf8, .int v9, .int v10, .int v11, .int v12])), (qa1, .inl (ca1, na1, .inl fa1)), (qf0, .inl (cf0, 3001, .inl g0_52)), (qf1, .inl (cf1, 3001, .inl g1_52)), (qf2, .inl (cf2, 3001, .inl g2_52))] H ∧ jn_v9_scanNumber_52 nf a2 a3 v3 na1 fa1 f0 f1 f2 l2_52 l3_52 j4_52 l6_52 g0_52 g1_52 g2_52 x3_52 = some (r0, o0, o1, o2, w3)) ?_ ?_
  · intro x9 hJ9
    obtain ⟨H, locs, ls, l2_52, l3_52, j4_52, l6_52, g0_52, g1_52, g2_52, x3_52⟩ := x9
    obtain ⟨hl, hS, hD, hP, hsp⟩ := hJ9
    replace hl : lv_has ls 9 [(0, .ref h0), (1, .ref qa1), (2, .int l2_52), (3, .int l3_52), (4, .long j4_52), (6, .int l6_52)] := hl
    replace hS : va_S A s.heap H locs := hS
    replace hD : va_D A [(h0, .inr (9, [.ref qf0, .ref qf1, .ref qf2, .int x3_52, .ref qf4, .ref qf5, .ref qf6, .ref qf7, .ref qf8, .int v9, .int v10, .int v11, .int v12])), (qa1, .inl (ca1, na1, .inl fa1)), (qf0, .inl (cf0, 3001, .inl g0_52)), (qf1, .inl (cf1, 3001, .inl g1_52)), (qf2, .inl (cf2, 3001, .inl g2_52))] := hD
    replace hP : va_P (dC, dI) vwCl [(h0, .inr (9, [.ref qf0, .ref qf1, .ref qf2, .int x3_52, .ref qf4, .ref qf5, .ref qf6, .ref qf7, .ref qf8, .int v9, .int v10, .int v11, .int v12])), (qa1, .inl (ca1, na1, .inl fa1)), (qf0, .inl (cf0, 3001, .inl g0_52)), (qf1, .inl (cf1, 3001, .inl g1_52)), (qf2, .inl (cf2, 3001, .inl g2_52))] H := hP
    replace hsp : jn_v9_scanNumber_52 nf a2 a3 v3 na1 fa1 f0 f1 f2 l2_52 l3_52 j4_52 l6_52 g0_52 g1_52 g2_52 x3_52 = some (r0, o0, o1, o2, w3) := hsp
    show W _ _ _ _ _ _ _ _ _ _ H locs _ _ _ (F0 m 52 ls [])
    unfold jn_v9_scanNumber_52 at hsp
    try dsimp only at hsp
    refine lv_aload_n hx hb dX9_scanNumber_52 rfl (lv_at hl 1 rfl) ?_
    refine lv_iload_n hx hb dX9_scanNumber_53 rfl (lv_at hl 3 rfl) ?_
    obtain ⟨hi_7, hsp⟩ := ox_in hsp
    refine va_bald hx hb hK hP 1 0 rfl rfl (i := l3_52) hi_7 dX9_scanNumber_54 ?_
    refine lv_bipush (v := 48) hx hb dX9_scanNumber_55 (by decide) ?_
    refine lv_icmp_ne (tgt := 72) hx hb dX9_scanNumber_57 (by decide) (fun c_8 => ?_) (fun c_8 => ?_)
    · rw [if_neg c_8] at hsp
      exact hj_72 (H, locs, ls, l2_52, l3_52, j4_52, l6_52, g0_52, g1_52, g2_52, x3_52) ⟨lv_sub hl [0, 1, 2, 3, 4, 5] rfl, hS, hD.sub (ws' := [(h0, .inr (9, [.ref qf0, .ref qf1, .ref qf2, .int x3_52, .ref qf4, .ref qf5, .ref qf6, .ref qf7, .ref qf8, .int v9, .int v10, .int v11, .int v12])), (qa1, .inl (ca1, na1, .inl fa1)), (qf0, .inl (cf0, 3001, .inl g0_52)), (qf1, .inl (cf1, 3001, .inl g1_52)), (qf2, .inl (cf2, 3001, .inl g2_52))]) [0, 1, 2, 3, 4] (by decide) rfl, hP.sub (ws' := [(h0, .inr (9, [.ref qf0, .ref qf1, .ref qf2, .int x3_52, .ref qf4, .ref qf5, .ref qf6, .ref qf7, .ref qf8, .int v9, .int v10, .int v11, .int v12])), (qa1, .inl (ca1, na1, .inl fa1)), (qf0, .inl (cf0, 3001, .inl g0_52)), (qf1, .inl (cf1, 3001, .inl g1_52)), (qf2, .inl (cf2, 3001, .inl g2_52))]) [0, 1, 2, 3, 4] rfl, hsp⟩
    · rw [if_pos c_8] at hsp
      refine lv_iload hx hb dX9_scanNumber_60 (lv_at hl 5 rfl) ?_
      refine lv_iload_n hx hb dX9_scanNumber_62 rfl (lv_at hl 3 rfl) ?_
      refine lv_iconst (v := 1) hx hb dX9_scanNumber_63 (by decide) ?_
      refine lv_iadd hx hb dX9_scanNumber_64 ?_
      refine lv_icmp_le (tgt := 72) hx hb dX9_scanNumber_65 (by decide) (fun c_9 => ?_) (fun c_9 => ?_)
      · rw [if_pos c_9] at hsp
        exact hj_72 (H, locs, ls, l2_52, l3_52, j4_52, l6_52, g0_52, g1_52, g2_52, x3_52) ⟨lv_sub hl [0, 1, 2, 3, 4, 5] rfl, hS, hD.sub (ws' := [(h0, .inr (9, [.ref qf0, .ref qf1, .ref qf2, .int x3_52, .ref qf4, .ref qf5, .ref qf6, .ref qf7, .ref qf8, .int v9, .int v10, .int v11, .int v12])), (qa1, .inl (ca1, na1, .inl fa1)), (qf0, .inl (cf0, 3001, .inl g0_52)), (qf1, .inl (cf1, 3001, .inl g1_52)), (qf2, .inl (cf2, 3001, .inl g2_52))]) [0, 1, 2, 3, 4] (by decide) rfl, hP.sub (ws' := [(h0, .inr (9, [.ref qf0, .ref qf1, .ref qf2, .int x3_52, .ref qf4, .ref qf5, .ref qf6, .ref qf7, .ref qf8, .int v9, .int v10, .int v11, .int v12])), (qa1, .inl (ca1, na1, .inl fa1)), (qf0, .inl (cf0, 3001, .inl g0_52)), (qf1, .inl (cf1, 3001, .inl g1_52)), (qf2, .inl (cf2, 3001, .inl g2_52))]) [0, 1, 2, 3, 4] rfl, hsp⟩
      · rw [if_neg c_9] at hsp
        refine lv_iconst (v := 1) hx hb dX9_scanNumber_68 (by decide) ?_
        refine lv_goto (tgt := 73) hx hb dX9_scanNumber_69 (by decide) ?_
        exact hj_73 (H, locs, ls, l2_52, l3_52, j4_52, l6_52, 1, g0_52, g1_52, g2_52, x3_52) ⟨lv_sub hl [0, 1, 2, 3, 4, 5] rfl, hS, hD.sub (ws' := [(h0, .inr (9, [.ref qf0, .ref qf1, .ref qf2, .int x3_52, .ref qf4, .ref qf5, .ref qf6, .ref qf7, .ref qf8, .int v9, .int v10, .int v11, .int v12])), (qa1, .inl (ca1, na1, .inl fa1)), (qf0, .inl (cf0, 3001, .inl g0_52)), (qf1, .inl (cf1, 3001, .inl g1_52)), (qf2, .inl (cf2, 3001, .inl g2_52))]) [0, 1, 2, 3, 4] (by decide) rfl, hP.sub (ws' := [(h0, .inr (9, [.ref qf0, .ref qf1, .ref qf2, .int x3_52, .ref qf4, .ref qf5, .ref qf6, .ref qf7, .ref qf8, .int v9, .int v10, .int v11, .int v12])), (qa1, .inl (ca1, na1, .inl fa1)), (qf0, .inl (cf0, 3001, .inl g0_52)), (qf1, .inl (cf1, 3001, .inl g1_52)), (qf2, .inl (cf2, 3001, .inl g2_52))]) [0, 1, 2, 3, 4] rfl, hsp⟩
  intro hj_52
  refine lv_lconst (v := 0) hx hb dX9_scanNumber_0 (by decide) ?_
  refine lv_lstore (lv' := [(4, .long 0), (0, .ref h0), (1, .ref qa1), (2, .int a2), (3, .int a3)]) hx hb dX9_scanNumber_1 hl (by decide) rfl (fun ls hl => ?_)
  refine lv_iload_n hx hb dX9_scanNumber_3 rfl (lv_at hl 4 rfl) ?_
  refine lv_istore (lv' := [(6, .int a3), (4, .long 0), (0, .ref h0), (1, .ref qa1), (2, .int a2), (3, .int a3)]) hx hb dX9_scanNumber_4 hl (by decide) rfl (fun ls hl => ?_)
  replace hl : lv_has ls 9 [(6, .int a3), (4, .long 0), (0, .ref h0), (1, .ref qa1), (2, .int a2), (3, .int a3)] := lv_sub hl [0, 1, 2, 3, 4, 5] rfl
  replace hP := hP.sub (ws' := [(h0, .inr (9, [.ref qf0, .ref qf1, .ref qf2, .int v3, .ref qf4, .ref qf5, .ref qf6, .ref qf7, .ref qf8, .int v9, .int v10, .int v11, .int v12])), (qa1, .inl (ca1, na1, .inl fa1)), (qf0, .inl (cf0, 3001, .inl f0)), (qf1, .inl (cf1, 3001, .inl f1)), (qf2, .inl (cf2, 3001, .inl f2))]) [0, 1, 2, 3, 4] rfl
  replace hD := hD.sub (ws' := [(h0, .inr (9, [.ref qf0, .ref qf1, .ref qf2, .int v3, .ref qf4, .ref qf5, .ref qf6, .ref qf7, .ref qf8, .int v9, .int v10, .int v11, .int v12])), (qa1, .inl (ca1, na1, .inl fa1)), (qf0, .inl (cf0, 3001, .inl f0)), (qf1, .inl (cf1, 3001, .inl f1)), (qf2, .inl (cf2, 3001, .inl f2))]) [0, 1, 2, 3, 4] (by decide) rfl
  replace hK := hK.sub (tys' := [(ca1, .byte), (cf0, .int), (cf1, .int), (cf2, .int)]) [0, 1, 2, 3] rfl
  obtain ⟨n_6, hn_6⟩ : ∃ z : Nat, z = nf := ⟨_, rfl⟩
  obtain ⟨l2_6, el2_6⟩ : ∃ z : Int32, z = a2 := ⟨_, rfl⟩
  obtain ⟨l3_6, el3_6⟩ : ∃ z : Int32, z = a3 := ⟨_, rfl⟩
  obtain ⟨j4_6, ej4_6⟩ : ∃ z : Int64, z = 0 := ⟨_, rfl⟩
  obtain ⟨l6_6, el6_6⟩ : ∃ z : Int32, z = a3 := ⟨_, rfl⟩
  obtain ⟨g0_6, eg0_6⟩ : ∃ z : Nat → Int32, z = f0 := ⟨_, rfl⟩
  obtain ⟨g1_6, eg1_6⟩ : ∃ z : Nat → Int32, z = f1 := ⟨_, rfl⟩
  obtain ⟨g2_6, eg2_6⟩ : ∃ z : Nat → Int32, z = f2 := ⟨_, rfl⟩
  obtain ⟨x3_6, ex3_6⟩ : ∃ z : Int32, z = v3 := ⟨_, rfl⟩
  replace hsp : lp_v9_scanNumber_6 nf n_6 a2 a3 v3 na1 fa1 f0 f1 f2 l2_6 l3_6 j4_6 l6_6 g0_6 g1_6 g2_6 x3_6 = some (r0, o0, o1, o2, w3) := by rw [hn_6, el2_6, el3_6, ej4_6, el6_6, eg0_6, eg1_6, eg2_6, ex3_6]; exact hsp
  replace hl : lv_has ls 9 [(6, .int l6_6), (4, .long j4_6), (0, .ref h0), (1, .ref qa1), (2, .int l2_6), (3, .int l3_6)] := by rw [el2_6, el3_6, ej4_6, el6_6]; exact hl
  replace hP : va_P (dC, dI) vwCl [(h0, .inr (9, [.ref qf0, .ref qf1, .ref qf2, .int x3_6, .ref qf4, .ref qf5, .ref qf6, .ref qf7, .ref qf8, .int v9, .int v10, .int v11, .int v12])), (qa1, .inl (ca1, na1, .inl fa1)), (qf0, .inl (cf0, 3001, .inl g0_6)), (qf1, .inl (cf1, 3001, .inl g1_6)), (qf2, .inl (cf2, 3001, .inl g2_6))] H := by rw [eg0_6, eg1_6, eg2_6, ex3_6]; exact hP
  replace hD : va_D A [(h0, .inr (9, [.ref qf0, .ref qf1, .ref qf2, .int x3_6, .ref qf4, .ref qf5, .ref qf6, .ref qf7, .ref qf8, .int v9, .int v10, .int v11, .int v12])), (qa1, .inl (ca1, na1, .inl fa1)), (qf0, .inl (cf0, 3001, .inl g0_6)), (qf1, .inl (cf1, 3001, .inl g1_6)), (qf2, .inl (cf2, 3001, .inl g2_6))] := by rw [eg0_6, eg1_6, eg2_6, ex3_6]; exact hD
  clear hn_6 el2_6 el3_6 ej4_6 el6_6 eg0_6 eg1_6 eg2_6 ex3_6
  try clear hlo
  try clear hH
  revert hsp
  revert hP
  revert hD
  revert hS
  revert hl
  revert x3_6
  revert g2_6
  revert g1_6
  revert g0_6
  revert l6_6
  revert j4_6
  revert l3_6
  revert l2_6
  revert ls
  revert locs
  revert H
  induction n_6 with
  | zero => intro H locs ls l2_6 l3_6 j4_6 l6_6 g0_6 g1_6 g2_6 x3_6  hl hS hD hP hsp; unfold lp_v9_scanNumber_6 at hsp; cases hsp
  | succ n_6 ih_6 =>
    intro H locs ls l2_6 l3_6 j4_6 l6_6 g0_6 g1_6 g2_6 x3_6  hl hS hD hP hsp
    unfold lp_v9_scanNumber_6 at hsp
    try dsimp only at hsp
    refine lv_iload hx hb dX9_scanNumber_6 (lv_at hl 0 rfl) ?_
    refine lv_iload_n hx hb dX9_scanNumber_8 rfl (lv_at hl 4 rfl) ?_
    refine lv_icmp_ge (tgt := 52) hx hb dX9_scanNumber_9 (by decide) (fun c_1 => ?_) (fun c_1 => ?_)
    · rw [if_pos c_1] at hsp
      exact hj_52 (H, locs, ls, l2_6, l3_6, j4_6, l6_6, g0_6, g1_6, g2_6, x3_6) ⟨lv_sub hl [2, 3, 4, 5, 1, 0] rfl, hS, hD.sub (ws' := [(h0, .inr (9, [.ref qf0, .ref qf1, .ref qf2, .int x3_6, .ref qf4, .ref qf5, .ref qf6, .ref qf7, .ref qf8, .int v9, .int v10, .int v11, .int v12])), (qa1, .inl (ca1, na1, .inl fa1)), (qf0, .inl (cf0, 3001, .inl g0_6)), (qf1, .inl (cf1, 3001, .inl g1_6)), (qf2, .inl (cf2, 3001, .inl g2_6))]) [0, 1, 2, 3, 4] (by decide) rfl, hP.sub (ws' := [(h0, .inr (9, [.ref qf0, .ref qf1, .ref qf2, .int x3_6, .ref qf4, .ref qf5, .ref qf6, .ref qf7, .ref qf8, .int v9, .int v10, .int v11, .int v12])), (qa1, .inl (ca1, na1, .inl fa1)), (qf0, .inl (cf0, 3001, .inl g0_6)), (qf1, .inl (cf1, 3001, .inl g1_6)), (qf2, .inl (cf2, 3001, .inl g2_6))]) [0, 1, 2, 3, 4] rfl, hsp⟩
    · rw [if_neg c_1] at hsp
      refine lv_aload_n hx hb dX9_scanNumber_12 rfl (lv_at hl 3 rfl) ?_
      refine lv_iload hx hb dX9_scanNumber_13 (lv_at hl 0 rfl) ?_
      obtain ⟨hi_2, hsp⟩ := ox_in hsp
      refine va_bald hx hb hK hP 1 0 rfl rfl (i := l6_6) hi_2 dX9_scanNumber_15 ?_
      obtain ⟨u1_0, hu_1, hsp⟩ := ox_bind hsp
      try dsimp only at hsp
      have hPc := hP.sub (ws' := []) [] rfl
      have hDc := hD.sub (ws' := []) [] (by decide) rfl
      have hKc := hK.sub (tys' := []) [] rfl
      have hFc := va_free (wc := []) hD hS hA [] rfl
      refine va_calli (va_runS (As := [.int (fa1 (l6_6 : Int32).toNatClampNeg)]) (rest := []) ⟨hx, hb, hml, hown, hts⟩ (t9_isDigit l dC dI H.size ((fa1 (l6_6 : Int32).toNatClampNeg)) nf u1_0 hu_1) (va_cwS 1 hts gv_h7_65 rfl rfl rfl (by decide +kernel) ⟨Nat.le_of_ble_eq_true rfl, Nat.le_of_ble_eq_true rfl⟩) ⟨fun a U g mk q => by obtain ⟨q0, q1, qP, qK, qD⟩ := q; exact ⟨q0, q1, qP, va_K.moved (u := U) (U := U.calling g mk a) (Vm.Alike.refl U.vm) qK, qD⟩, fun U hU hW => ⟨rfl, by rw [hU], by rw [hU]; exact hPc, va_K.moved hW.alike hKc, hDc.weaken (fun _ _ _ _ => trivial)⟩⟩ rfl rfl hl.1 rfl (lv_room (Nat.le_of_ble_eq_true rfl)) dX9_scanNumber_16 ⟨Nat.le_of_ble_eq_true rfl, Nat.le_of_ble_eq_true rfl⟩) hS (fun q _ h => hFc q h) hFc ?_
      clear hS
      intro r_3 u t H1 locs ht hvm hw hB hz1 hk1 hS
      obtain ⟨⟩ := u
      obtain ⟨hP1, hK1, hD1⟩ := hB
      rw [ht] at hP1
      have hK1 := va_K.moved hvm.symm hK1
      try dsimp only at hw
      have hPD := va_join (wr := [(h0, .inr (9, [.ref qf0, .ref qf1, .ref qf2, .int x3_6, .ref qf4, .ref qf5, .ref qf6, .ref qf7, .ref qf8, .int v9, .int v10, .int v11, .int v12])), (qa1, .inl (ca1, na1, .inl fa1)), (qf0, .inl (cf0, 3001, .inl g0_6)), (qf1, .inl (cf1, 3001, .inl g1_6)), (qf2, .inl (cf2, 3001, .inl g2_6))]) (w1 := []) hP hD [] [0, 1, 2, 3, 4] rfl rfl (by decide) (by decide) hk1 hFc hP1 hD1
      clear hP hD
      obtain ⟨hP, hD⟩ := hPD
      replace hK := (hK.sub (tys' := [(ca1, .byte), (cf0, .int), (cf1, .int), (cf2, .int)]) [0, 1, 2, 3] rfl).app hK1
      clear hPc hDc hKc hFc hP1 hK1 hD1 hz1 hk1 ht hvm
      generalize H1 = H at hP hS ⊢
      replace hP : va_P (dC, dI) vwCl [(h0, .inr (9, [.ref qf0, .ref qf1, .ref qf2, .int x3_6, .ref qf4, .ref qf5, .ref qf6, .ref qf7, .ref qf8, .int v9, .int v10, .int v11, .int v12])), (qa1, .inl (ca1, na1, .inl fa1)), (qf0, .inl (cf0, 3001, .inl g0_6)), (qf1, .inl (cf1, 3001, .inl g1_6)), (qf2, .inl (cf2, 3001, .inl g2_6))] H := hP
      replace hD : va_D A [(h0, .inr (9, [.ref qf0, .ref qf1, .ref qf2, .int x3_6, .ref qf4, .ref qf5, .ref qf6, .ref qf7, .ref qf8, .int v9, .int v10, .int v11, .int v12])), (qa1, .inl (ca1, na1, .inl fa1)), (qf0, .inl (cf0, 3001, .inl g0_6)), (qf1, .inl (cf1, 3001, .inl g1_6)), (qf2, .inl (cf2, 3001, .inl g2_6))] := hD
      replace hK : va_K (dC, dI) vwCl [(ca1, .byte), (cf0, .int), (cf1, .int), (cf2, .int)] s := hK
      obtain ⟨rfl, hz_1⟩ := hw
      rcases hz_1 with rfl | rfl
      · rw [if_pos rfl] at hsp
        refine lv_if_eq (tgt := 52) hx hb dX9_scanNumber_19 (by decide) (fun c_4 => ?_) (fun c_4 => (show False by revert c_4; decide).elim)
        exact hj_52 (H, locs, ls, l2_6, l3_6, j4_6, l6_6, g0_6, g1_6, g2_6, x3_6) ⟨lv_sub hl [2, 3, 4, 5, 1, 0] rfl, hS, hD.sub (ws' := [(h0, .inr (9, [.ref qf0, .ref qf1, .ref qf2, .int x3_6, .ref qf4, .ref qf5, .ref qf6, .ref qf7, .ref qf8, .int v9, .int v10, .int v11, .int v12])), (qa1, .inl (ca1, na1, .inl fa1)), (qf0, .inl (cf0, 3001, .inl g0_6)), (qf1, .inl (cf1, 3001, .inl g1_6)), (qf2, .inl (cf2, 3001, .inl g2_6))]) [0, 1, 2, 3, 4] (by decide) rfl, hP.sub (ws' := [(h0, .inr (9, [.ref qf0, .ref qf1, .ref qf2, .int x3_6, .ref qf4, .ref qf5, .ref qf6, .ref qf7, .ref qf8, .int v9, .int v10, .int v11, .int v12])), (qa1, .inl (ca1, na1, .inl fa1)), (qf0, .inl (cf0, 3001, .inl g0_6)), (qf1, .inl (cf1, 3001, .inl g1_6)), (qf2, .inl (cf2, 3001, .inl g2_6))]) [0, 1, 2, 3, 4] rfl, hsp⟩
      · rw [if_neg (by decide)] at hsp
        refine lv_if_eq (tgt := 52) hx hb dX9_scanNumber_19 (by decide) (fun c_5 => (show False by revert c_5; decide).elim) (fun c_5 => ?_)
        refine lv_lload hx hb dX9_scanNumber_22 (lv_at hl 1 rfl) ?_
        refine lv_ldc2 (v := 10) hx hb hown (hts (.constantLong RX9 133 10) mw_h7_323) dX9_scanNumber_24 ?_
        refine lv_lmul hx hb dX9_scanNumber_27 ?_
        refine lv_aload_n hx hb dX9_scanNumber_28 rfl (lv_at hl 3 rfl) ?_
        refine lv_iload hx hb dX9_scanNumber_29 (lv_at hl 0 rfl) ?_
        obtain ⟨hi_6, hsp⟩ := ox_in hsp
        refine va_bald hx hb hK hP 1 0 rfl rfl (i := l6_6) hi_6 dX9_scanNumber_31 ?_
        refine lv_i2l hx hb dX9_scanNumber_32 rfl ?_
        refine lv_ladd hx hb dX9_scanNumber_33 ?_
        refine lv_ldc2 (v := 48) hx hb hown (hts (.constantLong RX9 135 48) mw_h7_324) dX9_scanNumber_34 ?_
        refine lv_lsub hx hb dX9_scanNumber_37 ?_
        refine lv_ldc2 (v := 2147483648) hx hb hown (hts (.constantLong RX9 137 2147483648) mw_h7_325) dX9_scanNumber_38 ?_
        refine va_mmin_long hx hb (by rw [hml]; exact hl.1.symm) hown (hts (.methodLink RX9 139 yJ9_min_f86c9) mw_h7_326) (hts (.static yJ9_min_f86c9) mw_h7_327) (hts (.initialized "java/lang/Math") mw_h7_328) (hts (.code yJ9_min_f86c9 cJ9_min_f86c9 4 (some .long)) mw_h7_329) (Nat.le_of_ble_eq_true rfl) (Nat.le_of_ble_eq_true rfl) (Nat.le_of_ble_eq_true rfl) (Nat.le_of_ble_eq_true rfl) dX9_scanNumber_41 ?_
        refine lv_lstore (lv' := [(4, .long (if 2147483648 < (((j4_6 * 10) + (((fa1 (l6_6 : Int32).toNatClampNeg) : Int32).toInt64)) - 48) then 2147483648 else (((j4_6 * 10) + (((fa1 (l6_6 : Int32).toNatClampNeg) : Int32).toInt64)) - 48))), (6, .int l6_6), (0, .ref h0), (1, .ref qa1), (2, .int l2_6), (3, .int l3_6)]) hx hb dX9_scanNumber_44 hl (by decide) rfl (fun ls hl => ?_)
        refine lv_iinc (v := (l6_6 + 1)) (lv' := [(6, .int (l6_6 + 1)), (4, .long (if 2147483648 < (((j4_6 * 10) + (((fa1 (l6_6 : Int32).toNatClampNeg) : Int32).toInt64)) - 48) then 2147483648 else (((j4_6 * 10) + (((fa1 (l6_6 : Int32).toNatClampNeg) : Int32).toInt64)) - 48))), (0, .ref h0), (1, .ref qa1), (2, .int l2_6), (3, .int l3_6)]) hx hb dX9_scanNumber_46 hl (k := 1) rfl rfl (by decide) rfl (fun ls hl => ?_)
        refine lv_goto (tgt := 6) hx hb dX9_scanNumber_49 (by decide) ?_
        exact ih_6 H locs ls l2_6 l3_6 (if 2147483648 < (((j4_6 * 10) + (((fa1 (l6_6 : Int32).toNatClampNeg) : Int32).toInt64)) - 48) then 2147483648 else (((j4_6 * 10) + (((fa1 (l6_6 : Int32).toNatClampNeg) : Int32).toInt64)) - 48)) (l6_6 + 1) g0_6 g1_6 g2_6 x3_6 (lv_sub hl [0, 1, 2, 3, 4, 5] rfl) hS (hD.sub (ws' := [(h0, .inr (9, [.ref qf0, .ref qf1, .ref qf2, .int x3_6, .ref qf4, .ref qf5, .ref qf6, .ref qf7, .ref qf8, .int v9, .int v10, .int v11, .int v12])), (qa1, .inl (ca1, na1, .inl fa1)), (qf0, .inl (cf0, 3001, .inl g0_6)), (qf1, .inl (cf1, 3001, .inl g1_6)), (qf2, .inl (cf2, 3001, .inl g2_6))]) [0, 1, 2, 3, 4] (by decide) rfl) (hP.sub (ws' := [(h0, .inr (9, [.ref qf0, .ref qf1, .ref qf2, .int x3_6, .ref qf4, .ref qf5, .ref qf6, .ref qf7, .ref qf8, .int v9, .int v10, .int v11, .int v12])), (qa1, .inl (ca1, na1, .inl fa1)), (qf0, .inl (cf0, 3001, .inl g0_6)), (qf1, .inl (cf1, 3001, .inl g1_6)), (qf2, .inl (cf2, 3001, .inl g2_6))]) [0, 1, 2, 3, 4] rfl) hsp
def lp_v11_proveInstructions_33 (nf n : Nat) (v6 : Int32) (v7 : Int32) (v5_1 : Int32) (v5_12 : Int32) (f5_13 : Nat → Int32) (f12 : Nat → Int32) (nb : Nat) (f5_0 : Nat → Int32)  (l1_33 : Int32) (g12_33 : Nat → Int32) (x16_33 : Int32) (x7_33 : Int32) : Option (Int32 × (Nat → Int32) × Int32 × Int32) := match n with
  | 0 => none
  | n + 1 => (if x16_33 ≤ l1_33 then (some (0, g12_33, x16_33, x7_33)) else ((sp_t11_codeAt nf l1_33 v6 v5_1 v5_12 f5_13 nb f5_0).bind (fun p1 => ((sp_t11_widthOf nf p1).bind (fun p2 => (if p2 = 0 then ((sp_t11_at nf 6 l1_33).bind (fun p3 => (some (p3.1, g12_33, x16_33, p3.2)))) else (if (l1_33 + p2) ≤ x16_33 then (if l1_33 < 0 then none else if 1500 ≤ (l1_33 : Int32).toNatClampNeg then none else (lp_v11_proveInstructions_33 nf n v6 v7 v5_1 v5_12 f5_13 f12 nb f5_0 (l1_33 + p2) (upd g12_33 (l1_33 : Int32).toNatClampNeg (-1)) x16_33 x7_33)) else ((sp_t11_at nf 6 l1_33).bind (fun p4 => (some (p4.1, g12_33, x16_33, p4.2)))))))))))
def sp_v11_proveInstructions (nf : Nat) (v6 : Int32) (v7 : Int32) (v5_1 : Int32) (v5_12 : Int32) (f5_13 : Nat → Int32) (f12 : Nat → Int32) (nb : Nat) (f5_0 : Nat → Int32) : Option (Int32 × (Nat → Int32) × Int32 × Int32) := ((sp_t11_info nf 5 v6 v5_12 f5_13).bind (fun p1 => ((sp_jd_fill4 nf 0 (if 1500 < p1 then 1500 else p1) (-2) 1500 f12).bind (fun p2 => (lp_v11_proveInstructions_33 nf nf v6 v7 v5_1 v5_12 f5_13 f12 nb f5_0  0 p2 (if 1500 < p1 then 1500 else p1) v7)))))

set_option maxHeartbeats 4000000 in
set_option maxRecDepth 100000 in
/-- ClassMill$Code.slotOfFrame -/
theorem v1_slotOfFrame (l : Launch) (dC : Nat → ClassId) (dI : Nat → Nat → Nat) (sz : Nat) (h0 : Nat) (a1 : Int32) (qf0 : Nat) (v1 : Int32) (qf2 : Nat) (v3 : Int32) (v4 : Int32) (qf5 : Nat) (qf6 : Nat) (v7 : Int32) (v8 : Int32) (qf9 : Nat) (v10 : Int32) (qf11 : Nat) (qf12 : Nat) (qf13 : Nat) (v14 : Int32) (v15 : Int32) (cf13 : ClassId) (f13 : (Nat → Int32)) (cf11 : ClassId) (f11 : (Nat → Int32)) (nf : Nat) (r0 : Int32) (o11 : (Nat → Int32)) (o13 : (Nat → Int32)) (w14 : Int32) (hsp : sp_v1_slotOfFrame nf a1 v14 f13 f11 = some (r0, o11, o13, w14)) : Met l yX1_slotOfFrame (.code yX1_slotOfFrame cX1_slotOfFrame 3 (some .int) :: VS_h7) ({ frames := 1, cells := 0, slots := 0, locals := 40 }) (va_Pc [.ref h0, .int a1] (fun U => U.heap.size = sz ∧ va_P (dC, dI) vwCl [(h0, .inr (1, [.ref qf0, .int v1, .ref qf2, .int v3, .int v4, .ref qf5, .ref qf6, .int v7, .int v8, .ref qf9, .int v10, .ref qf11, .ref qf12, .ref qf13, .int v14, .int v15])), (qf13, .inl (cf13, 100, .inl f13)), (qf11, .inl (cf11, 100, .inl f11))] U.heap ∧ va_K (dC, dI) vwCl [(cf13, .int), (cf11, .int)] U ∧ va_D (fun _ => True) [(h0, .inr (1, [.ref qf0, .int v1, .ref qf2, .int v3, .int v4, .ref qf5, .ref qf6, .int v7, .int v8, .ref qf9, .int v10, .ref qf11, .ref qf12, .ref qf13, .int v14, .int v15])), (qf13, .inl (cf13, 100, .inl f13)), (qf11, .inl (cf11, 100, .inl f11))])) (va_Qi (fun (r : Int32) (u : Unit) => match u with | () => r0 = r) (fun (u : Unit) (t : State) => match u with | () => va_P (dC, dI) vwCl [(h0, .inr (1, [.ref qf0, .int v1, .ref qf2, .int v3, .int v4, .ref qf5, .ref qf6, .int v7, .int v8, .ref qf9, .int v10, .ref qf11, .ref qf12, .ref qf13, .int w14, .int v15])), (qf13, .inl (cf13, 100, .inl o13)), (qf11, .inl (cf11, 100, .inl o11))] t.heap ∧ va_K (dC, dI) vwCl [(cf13, .int), (cf11, .int)] t ∧ va_D (va_A [(h0, .inr (1, [.ref qf0, .int v1, .ref qf2, .int v3, .int v4, .ref qf5, .ref qf6, .int v7, .int v8, .ref qf9, .int v10, .ref qf11, .ref qf12, .ref qf13, .int v14, .int v15])), (qf13, .inl (cf13, 100, .inl f13)), (qf11, .inl (cf11, 100, .inl f11))] sz) [(h0, .inr (1, [.ref qf0, .int v1, .ref qf2, .int v3, .int v4, .ref qf5, .ref qf6, .int v7, .int v8, .ref qf9, .int v10, .ref qf11, .ref qf12, .ref qf13, .int w14, .int v15])), (qf13, .inl (cf13, 100, .inl o13)), (qf11, .inl (cf11, 100, .inl o11))]) (va_A [(h0, .inr (1, [.ref qf0, .int v1, .ref qf2, .int v3, .int v4, .ref qf5, .ref qf6, .int v7, .int v8, .ref qf9, .int v10, .ref qf11, .ref qf12, .ref qf13, .int v14, .int v15])), (qf13, .inl (cf13, 100, .inl f13)), (qf11, .inl (cf11, 100, .inl f11))] sz)) 0 0 (va_A [(h0, .inr (1, [.ref qf0, .int v1, .ref qf2, .int v3, .int v4, .ref qf5, .ref qf6, .int v7, .int v8, .ref qf9, .int v10, .ref qf11, .ref qf12, .ref qf13, .int v14, .int v15])), (qf13, .inl (cf13, 100, .inl f13)), (qf11, .inl (cf11, 100, .inl f11))] sz) := by
  refine Met.ofW (cc := cX1_slotOfFrame) (maxL := 3) (ret := (some .int)) (by decide) rfl ?_
  intro p e s m args below meth c s₁ B hml hv
  obtain ⟨rfl, hsz, hP, hK, hD0⟩ := hv
  have hx := B.exec
  have hb := B.bytes
  have hr := B.returns
  have hts := atoms_spec (ws := (.code yX1_slotOfFrame cX1_slotOfFrame 3 (some .int) :: VS_h7)) B.pre
  replace hts := fun w (h : w ∈ VS_h7) => hts w (List.mem_cons_of_mem _ h)
  have hown : s.vm.findClass RX1 = some m.cls := findClass_of_methodNamed B.named
  have hlocks := B.notSynchronized
  subst hsz
  have hD := hD0.self (sz := s.heap.size)
  generalize hAe : va_A [(h0, .inr (1, [.ref qf0, .int v1, .ref qf2, .int v3, .int v4, .ref qf5, .ref qf6, .int v7, .int v8, .ref qf9, .int v10, .ref qf11, .ref qf12, .ref qf13, .int v14, .int v15])), (qf13, .inl (cf13, 100, .inl f13)), (qf11, .inl (cf11, 100, .inl f11))] s.heap.size = A at hD  ⊢
  have hA : ∀ q : Nat, s.heap.size ≤ q → A q := fun q h => by rw [← hAe]; exact Or.inr h
  have hP : va_P (dC, dI) vwCl [(h0, .inr (1, [.ref qf0, .int v1, .ref qf2, .int v3, .int v4, .ref qf5, .ref qf6, .int v7, .int v8, .ref qf9, .int v10, .ref qf11, .ref qf12, .ref qf13, .int v14, .int v15])), (qf13, .inl (cf13, 100, .inl f13)), (qf11, .inl (cf11, 100, .inl f11))] s.heap := hP
  have hl := lv_entry ([.ref h0, .int a1]) (n := 3) (Nat.le_of_ble_eq_true rfl)
  rw [lg_entry_eq]
  generalize (lg_sl ([.ref h0, .int a1]) ++ List.replicate (3 - (lg_sl ([.ref h0, .int a1])).length) Slot.unset).toArray = ls at hl ⊢
  have hl : lv_has ls 3 [(0, .ref h0), (1, .int a1)] := hl
  obtain ⟨H, hH⟩ : ∃ H : Heap, s.heap = H := ⟨_, rfl⟩
  rw [hH] at hP ⊢
  have hS : va_S A s.heap H [] := by rw [← hH]; exact va_S.rf
  obtain ⟨locs, hlo⟩ : ∃ locs : List Loc, locs = [] := ⟨_, rfl⟩
  rw [← hlo] at hS ⊢
  unfold sp_v1_slotOfFrame at hsp
  refine jn_use (α := Heap × List Loc × Array Slot × Int32 × Int32 × (Nat → Int32) × (Nat → Int32) × Int32) (fun x9 => x9.1) (fun x9 => x9.2.1) (fun x9 => F0 m 62 x9.2.2.1 []) (fun x9 => match x9 with | (H, locs, ls, l1_62, l2_62, g11_62, g13_62, x14_62) => lv_has ls 3 [(0, .ref h0), (1, .int l1_62), (2, .int l2_62)] ∧ va_S A s.heap H locs ∧ va_D A [(h0, .inr (1, [.ref qf0, .int v1, .ref qf2, .int v3, .int v4, .ref qf5, .ref qf6, .int v7, .int v8, .ref qf9, .int v10, .ref qf11, .ref qf12, .ref qf13, .int x14_62, .int v15])), (qf13, .inl (cf13, 100, .inl g13_62)), (qf11, .inl (cf11, 100, .inl g11_62))] ∧ va_P (dC, dI) vwCl [(h0, .inr (1, [.ref qf0, .int v1, .ref qf2, .int v3, .int v4, .ref qf5, .ref qf6, .int v7, .int v8, .ref qf9, .int v10, .ref qf11, .ref qf12, .ref qf13, .int x14_62, .int v15])), (qf13, .inl (cf13, 100, .inl g13_62)), (qf11, .inl (cf11, 100, .inl g11_62))] H ∧ jn_v1_slotOfFrame_62 nf a1 v14 f13 f11 l1_62 l2_62 g11_62 g13_62 x14_62 = some (r0, o11, o13, w14)) ?_ ?_
  · intro x9 hJ9
    obtain ⟨H, locs, ls, l1_62, l2_62, g11_62, g13_62, x14_62⟩ := x9
    obtain ⟨hl, hS, hD, hP, hsp⟩ := hJ9
    replace hl : lv_has ls 3 [(0, .ref h0), (1, .int l1_62), (2, .int l2_62)] := hl
    replace hS : va_S A s.heap H locs := hS
    replace hD : va_D A [(h0, .inr (1, [.ref qf0, .int v1, .ref qf2, .int v3, .int v4, .ref qf5, .ref qf6, .int v7, .int v8, .ref qf9, .int v10, .ref qf11, .ref qf12, .ref qf13, .int x14_62, .int v15])), (qf13, .inl (cf13, 100, .inl g13_62)), (qf11, .inl (cf11, 100, .inl g11_62))] := hD
    replace hP : va_P (dC, dI) vwCl [(h0, .inr (1, [.ref qf0, .int v1, .ref qf2, .int v3, .int v4, .ref qf5, .ref qf6, .int v7, .int v8, .ref qf9, .int v10, .ref qf11, .ref qf12, .ref qf13, .int x14_62, .int v15])), (qf13, .inl (cf13, 100, .inl g13_62)), (qf11, .inl (cf11, 100, .inl g11_62))] H := hP
    replace hsp : jn_v1_slotOfFrame_62 nf a1 v14 f13 f11 l1_62 l2_62 g11_62 g13_62 x14_62 = some (r0, o11, o13, w14) := hsp
    show W _ _ _ _ _ _ _ _ _ _ H locs _ _ _ (F0 m 62 ls [])
    unfold jn_v1_slotOfFrame_62 at hsp
    try dsimp only at hsp
    refine lv_aload_n hx hb dX1_slotOfFrame_62 rfl (lv_at hl 0 rfl) ?_
    refine va_get (D := (dC, dI)) (ci := 1) (v := .int x14_62) (C := RX1) (T := TX1) (N := 16) hx hb hts uV_h7_X1 hown hK hP 0 rfl rfl 14 (by decide) (hts (.fieldLink RX1 58 "ClassMill$Code" "frameCount" "I") mw_h7_33) (fun _ h9 => h9) rfl dX1_slotOfFrame_63 ?_
    refine lv_bipush (v := 100) hx hb dX1_slotOfFrame_66 (by decide) ?_
    refine lv_icmp_lt (tgt := 73) hx hb dX1_slotOfFrame_68 (by decide) (fun c_10 => ?_) (fun c_10 => ?_)
    · rw [if_pos c_10] at hsp
      refine lv_aload_n hx hb dX1_slotOfFrame_73 rfl (lv_at hl 0 rfl) ?_
      refine va_get (D := (dC, dI)) (ci := 1) (v := .ref qf13) (C := RX1) (T := TX1) (N := 16) hx hb hts uV_h7_X1 hown hK hP 0 rfl rfl 13 (by decide) (hts (.fieldLink RX1 36 "ClassMill$Code" "frameOrder" "[I") mw_h7_34) (fun _ h9 => h9) rfl dX1_slotOfFrame_74 ?_
      refine lv_iload_n hx hb dX1_slotOfFrame_77 rfl (lv_at hl 2 rfl) ?_
      refine lv_aload_n hx hb dX1_slotOfFrame_78 rfl (lv_at hl 0 rfl) ?_
      refine va_get (D := (dC, dI)) (ci := 1) (v := .ref qf13) (C := RX1) (T := TX1) (N := 16) hx hb hts uV_h7_X1 hown hK hP 0 rfl rfl 13 (by decide) (hts (.fieldLink RX1 36 "ClassMill$Code" "frameOrder" "[I") mw_h7_34) (fun _ h9 => h9) rfl dX1_slotOfFrame_79 ?_
      refine lv_iload_n hx hb dX1_slotOfFrame_82 rfl (lv_at hl 2 rfl) ?_
      refine lv_iconst (v := 1) hx hb dX1_slotOfFrame_83 (by decide) ?_
      refine lv_iadd hx hb dX1_slotOfFrame_84 ?_
      refine lv_aload_n hx hb dX1_slotOfFrame_85 rfl (lv_at hl 0 rfl) ?_
      refine va_get (D := (dC, dI)) (ci := 1) (v := .int x14_62) (C := RX1) (T := TX1) (N := 16) hx hb hts uV_h7_X1 hown hK hP 0 rfl rfl 14 (by decide) (hts (.fieldLink RX1 58 "ClassMill$Code" "frameCount" "I") mw_h7_33) (fun _ h9 => h9) rfl dX1_slotOfFrame_86 ?_
      refine lv_iload_n hx hb dX1_slotOfFrame_89 rfl (lv_at hl 2 rfl) ?_
      refine lv_isub hx hb dX1_slotOfFrame_90 ?_
      obtain ⟨⟨hc_111, hc_112, hc_113, hc_114, hc_115⟩, hsp⟩ := ox_cp hsp
      refine va_copyi hx hb (by rw [hml]; exact hl.1.symm) hown (hts (.methodLink RX1 110 arraycopyName) mw_h7_28) (hts (.native arraycopyName) mw_h7_29) (hts (.static arraycopyName) mw_h7_30) (hts (.initialized "java/lang/System") mw_h7_31) hK hP hD hS 1 1 0 0 rfl rfl rfl rfl rfl (sp := l2_62) (dp := (l2_62 + 1)) (n := (x14_62 - l2_62)) hc_111 hc_112 hc_113 hc_114 hc_115 (fun _ _ => rfl) (Nat.le_of_ble_eq_true rfl) (Nat.le_of_ble_eq_true rfl) dX1_slotOfFrame_91 ?_
      clear hP hD hS
      intro H locs hP hD hS
      replace hP : va_P (dC, dI) vwCl [(h0, .inr (1, [.ref qf0, .int v1, .ref qf2, .int v3, .int v4, .ref qf5, .ref qf6, .int v7, .int v8, .ref qf9, .int v10, .ref qf11, .ref qf12, .ref qf13, .int x14_62, .int v15])), (qf13, .inl (cf13, 100, .inl (va_cpy g13_62 g13_62 (l2_62 : Int32).toNatClampNeg ((l2_62 + 1) : Int32).toNatClampNeg ((x14_62 - l2_62) : Int32).toNatClampNeg))), (qf11, .inl (cf11, 100, .inl g11_62))] H := hP
      replace hD : va_D A [(h0, .inr (1, [.ref qf0, .int v1, .ref qf2, .int v3, .int v4, .ref qf5, .ref qf6, .int v7, .int v8, .ref qf9, .int v10, .ref qf11, .ref qf12, .ref qf13, .int x14_62, .int v15])), (qf13, .inl (cf13, 100, .inl (va_cpy g13_62 g13_62 (l2_62 : Int32).toNatClampNeg ((l2_62 + 1) : Int32).toNatClampNeg ((x14_62 - l2_62) : Int32).toNatClampNeg))), (qf11, .inl (cf11, 100, .inl g11_62))] := hD
      refine lv_aload_n hx hb dX1_slotOfFrame_94 rfl (lv_at hl 0 rfl) ?_
      refine va_get (D := (dC, dI)) (ci := 1) (v := .ref qf13) (C := RX1) (T := TX1) (N := 16) hx hb hts uV_h7_X1 hown hK hP 0 rfl rfl 13 (by decide) (hts (.fieldLink RX1 36 "ClassMill$Code" "frameOrder" "[I") mw_h7_34) (fun _ h9 => h9) rfl dX1_slotOfFrame_95 ?_
      refine lv_iload_n hx hb dX1_slotOfFrame_98 rfl (lv_at hl 2 rfl) ?_
      refine lv_aload_n hx hb dX1_slotOfFrame_99 rfl (lv_at hl 0 rfl) ?_
      refine va_get (D := (dC, dI)) (ci := 1) (v := .int x14_62) (C := RX1) (T := TX1) (N := 16) hx hb hts uV_h7_X1 hown hK hP 0 rfl rfl 14 (by decide) (hts (.fieldLink RX1 58 "ClassMill$Code" "frameCount" "I") mw_h7_33) (fun _ h9 => h9) rfl dX1_slotOfFrame_100 ?_
      obtain ⟨hi_12, hsp⟩ := ox_in hsp
      refine va_iast hx hb hK hP hD hS 1 0 rfl rfl (i := l2_62) (x := x14_62) hi_12 dX1_slotOfFrame_103 ?_
      clear hP hD hS
      intro H locs hP hD hS
      replace hP : va_P (dC, dI) vwCl [(h0, .inr (1, [.ref qf0, .int v1, .ref qf2, .int v3, .int v4, .ref qf5, .ref qf6, .int v7, .int v8, .ref qf9, .int v10, .ref qf11, .ref qf12, .ref qf13, .int x14_62, .int v15])), (qf13, .inl (cf13, 100, .inl (upd (va_cpy g13_62 g13_62 (l2_62 : Int32).toNatClampNeg ((l2_62 + 1) : Int32).toNatClampNeg ((x14_62 - l2_62) : Int32).toNatClampNeg) (l2_62 : Int32).toNatClampNeg x14_62))), (qf11, .inl (cf11, 100, .inl g11_62))] H := hP
      replace hD : va_D A [(h0, .inr (1, [.ref qf0, .int v1, .ref qf2, .int v3, .int v4, .ref qf5, .ref qf6, .int v7, .int v8, .ref qf9, .int v10, .ref qf11, .ref qf12, .ref qf13, .int x14_62, .int v15])), (qf13, .inl (cf13, 100, .inl (upd (va_cpy g13_62 g13_62 (l2_62 : Int32).toNatClampNeg ((l2_62 + 1) : Int32).toNatClampNeg ((x14_62 - l2_62) : Int32).toNatClampNeg) (l2_62 : Int32).toNatClampNeg x14_62))), (qf11, .inl (cf11, 100, .inl g11_62))] := hD
      refine lv_aload_n hx hb dX1_slotOfFrame_104 rfl (lv_at hl 0 rfl) ?_
      refine va_get (D := (dC, dI)) (ci := 1) (v := .ref qf11) (C := RX1) (T := TX1) (N := 16) hx hb hts uV_h7_X1 hown hK hP 0 rfl rfl 11 (by decide) (hts (.fieldLink RX1 30 "ClassMill$Code" "framePlace" "[I") mw_h7_35) (fun _ h9 => h9) rfl dX1_slotOfFrame_105 ?_
      refine lv_aload_n hx hb dX1_slotOfFrame_108 rfl (lv_at hl 0 rfl) ?_
      refine va_get (D := (dC, dI)) (ci := 1) (v := .int x14_62) (C := RX1) (T := TX1) (N := 16) hx hb hts uV_h7_X1 hown hK hP 0 rfl rfl 14 (by decide) (hts (.fieldLink RX1 58 "ClassMill$Code" "frameCount" "I") mw_h7_33) (fun _ h9 => h9) rfl dX1_slotOfFrame_109 ?_
      refine lv_iload_n hx hb dX1_slotOfFrame_112 rfl (lv_at hl 1 rfl) ?_
      obtain ⟨hi_13, hsp⟩ := ox_in hsp
      refine va_iast hx hb hK hP hD hS 2 1 rfl rfl (i := x14_62) (x := l1_62) hi_13 dX1_slotOfFrame_113 ?_
      clear hP hD hS
      intro H locs hP hD hS
      replace hP : va_P (dC, dI) vwCl [(h0, .inr (1, [.ref qf0, .int v1, .ref qf2, .int v3, .int v4, .ref qf5, .ref qf6, .int v7, .int v8, .ref qf9, .int v10, .ref qf11, .ref qf12, .ref qf13, .int x14_62, .int v15])), (qf13, .inl (cf13, 100, .inl (upd (va_cpy g13_62 g13_62 (l2_62 : Int32).toNatClampNeg ((l2_62 + 1) : Int32).toNatClampNeg ((x14_62 - l2_62) : Int32).toNatClampNeg) (l2_62 : Int32).toNatClampNeg x14_62))), (qf11, .inl (cf11, 100, .inl (upd g11_62 (x14_62 : Int32).toNatClampNeg l1_62)))] H := hP
      replace hD : va_D A [(h0, .inr (1, [.ref qf0, .int v1, .ref qf2, .int v3, .int v4, .ref qf5, .ref qf6, .int v7, .int v8, .ref qf9, .int v10, .ref qf11, .ref qf12, .ref qf13, .int x14_62, .int v15])), (qf13, .inl (cf13, 100, .inl (upd (va_cpy g13_62 g13_62 (l2_62 : Int32).toNatClampNeg ((l2_62 + 1) : Int32).toNatClampNeg ((x14_62 - l2_62) : Int32).toNatClampNeg) (l2_62 : Int32).toNatClampNeg x14_62))), (qf11, .inl (cf11, 100, .inl (upd g11_62 (x14_62 : Int32).toNatClampNeg l1_62)))] := hD
      refine lv_aload_n hx hb dX1_slotOfFrame_114 rfl (lv_at hl 0 rfl) ?_
      refine lv_dup hx hb dX1_slotOfFrame_115 rfl ?_
      refine va_get (D := (dC, dI)) (ci := 1) (v := .int x14_62) (C := RX1) (T := TX1) (N := 16) hx hb hts uV_h7_X1 hown hK hP 0 rfl rfl 14 (by decide) (hts (.fieldLink RX1 58 "ClassMill$Code" "frameCount" "I") mw_h7_33) (fun _ h9 => h9) rfl dX1_slotOfFrame_116 ?_
      refine lv_iconst (v := 1) hx hb dX1_slotOfFrame_119 (by decide) ?_
      refine lv_iadd hx hb dX1_slotOfFrame_120 ?_
      refine va_put (D := (dC, dI)) (ci := 1) (v := .int (x14_62 + 1)) (ty := .int) (C := RX1) (T := TX1) (N := 16) hx hb hts uV_h7_X1 tyX1 tyX1_ok nmX1 hown hK hP hD hS 0 rfl rfl 14 (by decide) (hts (.fieldLink RX1 58 "ClassMill$Code" "frameCount" "I") mw_h7_33) (fun _ h9 => h9) rfl (by decide +kernel) rfl rfl (Nat.le_of_ble_eq_true rfl) dX1_slotOfFrame_121 ?_
      clear hP hD hS
      intro H locs hP hD hS
      replace hP : va_P (dC, dI) vwCl [(h0, .inr (1, [.ref qf0, .int v1, .ref qf2, .int v3, .int v4, .ref qf5, .ref qf6, .int v7, .int v8, .ref qf9, .int v10, .ref qf11, .ref qf12, .ref qf13, .int (x14_62 + 1), .int v15])), (qf13, .inl (cf13, 100, .inl (upd (va_cpy g13_62 g13_62 (l2_62 : Int32).toNatClampNeg ((l2_62 + 1) : Int32).toNatClampNeg ((x14_62 - l2_62) : Int32).toNatClampNeg) (l2_62 : Int32).toNatClampNeg x14_62))), (qf11, .inl (cf11, 100, .inl (upd g11_62 (x14_62 : Int32).toNatClampNeg l1_62)))] H := hP
      replace hD : va_D A [(h0, .inr (1, [.ref qf0, .int v1, .ref qf2, .int v3, .int v4, .ref qf5, .ref qf6, .int v7, .int v8, .ref qf9, .int v10, .ref qf11, .ref qf12, .ref qf13, .int (x14_62 + 1), .int v15])), (qf13, .inl (cf13, 100, .inl (upd (va_cpy g13_62 g13_62 (l2_62 : Int32).toNatClampNeg ((l2_62 + 1) : Int32).toNatClampNeg ((x14_62 - l2_62) : Int32).toNatClampNeg) (l2_62 : Int32).toNatClampNeg x14_62))), (qf11, .inl (cf11, 100, .inl (upd g11_62 (x14_62 : Int32).toNatClampNeg l1_62)))] := hD
      refine lv_aload_n hx hb dX1_slotOfFrame_124 rfl (lv_at hl 0 rfl) ?_
      refine va_get (D := (dC, dI)) (ci := 1) (v := .ref qf13) (C := RX1) (T := TX1) (N := 16) hx hb hts uV_h7_X1 hown hK hP 0 rfl rfl 13 (by decide) (hts (.fieldLink RX1 36 "ClassMill$Code" "frameOrder" "[I") mw_h7_34) (fun _ h9 => h9) rfl dX1_slotOfFrame_125 ?_
      refine lv_iload_n hx hb dX1_slotOfFrame_128 rfl (lv_at hl 2 rfl) ?_
      obtain ⟨hi_14, hsp⟩ := ox_in hsp
      refine va_iald hx hb hK hP 1 0 rfl rfl (i := l2_62) hi_14 dX1_slotOfFrame_129 ?_
      have hr0 := Option.some.inj hsp
      clear hsp
      obtain ⟨hq0, hr1⟩ := Prod.mk.inj hr0
      clear hr0
      obtain ⟨hq1, hr2⟩ := Prod.mk.inj hr1
      clear hr1
      obtain ⟨hq2, hr3⟩ := Prod.mk.inj hr2
      clear hr2
      subst hq0
      subst hq1
      subst hq2
      subst hr3
      have hP9 := hP.sub (ws' := [(h0, .inr (1, [.ref qf0, .int v1, .ref qf2, .int v3, .int v4, .ref qf5, .ref qf6, .int v7, .int v8, .ref qf9, .int v10, .ref qf11, .ref qf12, .ref qf13, .int (x14_62 + 1), .int v15])), (qf13, .inl (cf13, 100, .inl (upd (va_cpy g13_62 g13_62 (l2_62 : Int32).toNatClampNeg ((l2_62 + 1) : Int32).toNatClampNeg ((x14_62 - l2_62) : Int32).toNatClampNeg) (l2_62 : Int32).toNatClampNeg x14_62))), (qf11, .inl (cf11, 100, .inl (upd g11_62 (x14_62 : Int32).toNatClampNeg l1_62)))]) [0, 1, 2] rfl
      have hD9 := hD.sub (ws' := [(h0, .inr (1, [.ref qf0, .int v1, .ref qf2, .int v3, .int v4, .ref qf5, .ref qf6, .int v7, .int v8, .ref qf9, .int v10, .ref qf11, .ref qf12, .ref qf13, .int (x14_62 + 1), .int v15])), (qf13, .inl (cf13, 100, .inl (upd (va_cpy g13_62 g13_62 (l2_62 : Int32).toNatClampNeg ((l2_62 + 1) : Int32).toNatClampNeg ((x14_62 - l2_62) : Int32).toNatClampNeg) (l2_62 : Int32).toNatClampNeg x14_62))), (qf11, .inl (cf11, 100, .inl (upd g11_62 (x14_62 : Int32).toNatClampNeg l1_62)))]) [0, 1, 2] (by decide) rfl
      have hK9 := hK.sub (tys' := [(cf13, .int), (cf11, .int)]) [0, 1] rfl
      exact W.iret hx hb hr (fun t ht hW => ⟨⟨(((upd (va_cpy g13_62 g13_62 (l2_62 : Int32).toNatClampNeg ((l2_62 + 1) : Int32).toNatClampNeg ((x14_62 - l2_62) : Int32).toNatClampNeg) (l2_62 : Int32).toNatClampNeg x14_62) (l2_62 : Int32).toNatClampNeg)), (), rfl, rfl, by rw [ht]; exact hP9, va_K.moved hW.alike hK9, hD9⟩, hS.F ht⟩) hS.2.2 dX1_slotOfFrame_130
    · rw [if_neg c_10] at hsp
      refine lv_iconst (v := (-1)) hx hb dX1_slotOfFrame_71 (by decide) ?_
      have hr0 := Option.some.inj hsp
      clear hsp
      obtain ⟨hq0, hr1⟩ := Prod.mk.inj hr0
      clear hr0
      obtain ⟨hq1, hr2⟩ := Prod.mk.inj hr1
      clear hr1
      obtain ⟨hq2, hr3⟩ := Prod.mk.inj hr2
      clear hr2
      subst hq0
      subst hq1
      subst hq2
      subst hr3
      have hP9 := hP.sub (ws' := [(h0, .inr (1, [.ref qf0, .int v1, .ref qf2, .int v3, .int v4, .ref qf5, .ref qf6, .int v7, .int v8, .ref qf9, .int v10, .ref qf11, .ref qf12, .ref qf13, .int x14_62, .int v15])), (qf13, .inl (cf13, 100, .inl g13_62)), (qf11, .inl (cf11, 100, .inl g11_62))]) [0, 1, 2] rfl
      have hD9 := hD.sub (ws' := [(h0, .inr (1, [.ref qf0, .int v1, .ref qf2, .int v3, .int v4, .ref qf5, .ref qf6, .int v7, .int v8, .ref qf9, .int v10, .ref qf11, .ref qf12, .ref qf13, .int x14_62, .int v15])), (qf13, .inl (cf13, 100, .inl g13_62)), (qf11, .inl (cf11, 100, .inl g11_62))]) [0, 1, 2] (by decide) rfl
      have hK9 := hK.sub (tys' := [(cf13, .int), (cf11, .int)]) [0, 1] rfl
      exact W.iret hx hb hr (fun t ht hW => ⟨⟨((-1)), (), rfl, rfl, by rw [ht]; exact hP9, va_K.moved hW.alike hK9, hD9⟩, hS.F ht⟩) hS.2.2 dX1_slotOfFrame_72
  intro hj_62
  refine jn_use (α := Heap × List Loc × Array Slot × Int32 × Int32 × (Nat → Int32) × (Nat → Int32) × Int32) (fun x9 => x9.1) (fun x9 => x9.2.1) (fun x9 => F0 m 32 x9.2.2.1 []) (fun x9 => match x9 with | (H, locs, ls, l1_32, l2_32, g11_32, g13_32, x14_32) => lv_has ls 3 [(0, .ref h0), (1, .int l1_32), (2, .int l2_32)] ∧ va_S A s.heap H locs ∧ va_D A [(h0, .inr (1, [.ref qf0, .int v1, .ref qf2, .int v3, .int v4, .ref qf5, .ref qf6, .int v7, .int v8, .ref qf9, .int v10, .ref qf11, .ref qf12, .ref qf13, .int x14_32, .int v15])), (qf13, .inl (cf13, 100, .inl g13_32)), (qf11, .inl (cf11, 100, .inl g11_32))] ∧ va_P (dC, dI) vwCl [(h0, .inr (1, [.ref qf0, .int v1, .ref qf2, .int v3, .int v4, .ref qf5, .ref qf6, .int v7, .int v8, .ref qf9, .int v10, .ref qf11, .ref qf12, .ref qf13, .int x14_32, .int v15])), (qf13, .inl (cf13, 100, .inl g13_32)), (qf11, .inl (cf11, 100, .inl g11_32))] H ∧ jn_v1_slotOfFrame_32 nf a1 v14 f13 f11 l1_32 l2_32 g11_32 g13_32 x14_32 = some (r0, o11, o13, w14)) ?_ ?_
  · intro x9 hJ9
    obtain ⟨H, locs, ls, l1_32, l2_32, g11_32, g13_32, x14_32⟩ := x9
    obtain ⟨hl, hS, hD, hP, hsp⟩ := hJ9
    replace hl : lv_has ls 3 [(0, .ref h0), (1, .int l1_32), (2, .int l2_32)] := hl
    replace hS : va_S A s.heap H locs := hS
    replace hD : va_D A [(h0, .inr (1, [.ref qf0, .int v1, .ref qf2, .int v3, .int v4, .ref qf5, .ref qf6, .int v7, .int v8, .ref qf9, .int v10, .ref qf11, .ref qf12, .ref qf13, .int x14_32, .int v15])), (qf13, .inl (cf13, 100, .inl g13_32)), (qf11, .inl (cf11, 100, .inl g11_32))] := hD
    replace hP : va_P (dC, dI) vwCl [(h0, .inr (1, [.ref qf0, .int v1, .ref qf2, .int v3, .int v4, .ref qf5, .ref qf6, .int v7, .int v8, .ref qf9, .int v10, .ref qf11, .ref qf12, .ref qf13, .int x14_32, .int v15])), (qf13, .inl (cf13, 100, .inl g13_32)), (qf11, .inl (cf11, 100, .inl g11_32))] H := hP
    replace hsp : jn_v1_slotOfFrame_32 nf a1 v14 f13 f11 l1_32 l2_32 g11_32 g13_32 x14_32 = some (r0, o11, o13, w14) := hsp
    show W _ _ _ _ _ _ _ _ _ _ H locs _ _ _ (F0 m 32 ls [])
    unfold jn_v1_slotOfFrame_32 at hsp
    try dsimp only at hsp
    refine lv_iload_n hx hb dX1_slotOfFrame_32 rfl (lv_at hl 2 rfl) ?_
    refine lv_if_le (tgt := 62) hx hb dX1_slotOfFrame_33 (by decide) (fun c_5 => ?_) (fun c_5 => ?_)
    · rw [if_pos c_5] at hsp
      exact hj_62 (H, locs, ls, l1_32, l2_32, g11_32, g13_32, x14_32) ⟨lv_sub hl [0, 1, 2] rfl, hS, hD.sub (ws' := [(h0, .inr (1, [.ref qf0, .int v1, .ref qf2, .int v3, .int v4, .ref qf5, .ref qf6, .int v7, .int v8, .ref qf9, .int v10, .ref qf11, .ref qf12, .ref qf13, .int x14_32, .int v15])), (qf13, .inl (cf13, 100, .inl g13_32)), (qf11, .inl (cf11, 100, .inl g11_32))]) [0, 1, 2] (by decide) rfl, hP.sub (ws' := [(h0, .inr (1, [.ref qf0, .int v1, .ref qf2, .int v3, .int v4, .ref qf5, .ref qf6, .int v7, .int v8, .ref qf9, .int v10, .ref qf11, .ref qf12, .ref qf13, .int x14_32, .int v15])), (qf13, .inl (cf13, 100, .inl g13_32)), (qf11, .inl (cf11, 100, .inl g11_32))]) [0, 1, 2] rfl, hsp⟩
    · rw [if_neg c_5] at hsp
      refine lv_aload_n hx hb dX1_slotOfFrame_36 rfl (lv_at hl 0 rfl) ?_
      refine va_get (D := (dC, dI)) (ci := 1) (v := .ref qf11) (C := RX1) (T := TX1) (N := 16) hx hb hts uV_h7_X1 hown hK hP 0 rfl rfl 11 (by decide) (hts (.fieldLink RX1 30 "ClassMill$Code" "framePlace" "[I") mw_h7_35) (fun _ h9 => h9) rfl dX1_slotOfFrame_37 ?_
      refine lv_aload_n hx hb dX1_slotOfFrame_40 rfl (lv_at hl 0 rfl) ?_
      refine va_get (D := (dC, dI)) (ci := 1) (v := .ref qf13) (C := RX1) (T := TX1) (N := 16) hx hb hts uV_h7_X1 hown hK hP 0 rfl rfl 13 (by decide) (hts (.fieldLink RX1 36 "ClassMill$Code" "frameOrder" "[I") mw_h7_34) (fun _ h9 => h9) rfl dX1_slotOfFrame_41 ?_
      refine lv_iload_n hx hb dX1_slotOfFrame_44 rfl (lv_at hl 2 rfl) ?_
      refine lv_iconst (v := 1) hx hb dX1_slotOfFrame_45 (by decide) ?_
      refine lv_isub hx hb dX1_slotOfFrame_46 ?_
      obtain ⟨hi_6, hsp⟩ := ox_in hsp
      refine va_iald hx hb hK hP 1 0 rfl rfl (i := (l2_32 - 1)) hi_6 dX1_slotOfFrame_47 ?_
      obtain ⟨hi_7, hsp⟩ := ox_in hsp
      refine va_iald hx hb hK hP 2 1 rfl rfl (i := (g13_32 ((l2_32 - 1) : Int32).toNatClampNeg)) hi_7 dX1_slotOfFrame_48 ?_
      refine lv_iload_n hx hb dX1_slotOfFrame_49 rfl (lv_at hl 1 rfl) ?_
      refine lv_icmp_ne (tgt := 62) hx hb dX1_slotOfFrame_50 (by decide) (fun c_8 => ?_) (fun c_8 => ?_)
      · rw [if_neg c_8] at hsp
        exact hj_62 (H, locs, ls, l1_32, l2_32, g11_32, g13_32, x14_32) ⟨lv_sub hl [0, 1, 2] rfl, hS, hD.sub (ws' := [(h0, .inr (1, [.ref qf0, .int v1, .ref qf2, .int v3, .int v4, .ref qf5, .ref qf6, .int v7, .int v8, .ref qf9, .int v10, .ref qf11, .ref qf12, .ref qf13, .int x14_32, .int v15])), (qf13, .inl (cf13, 100, .inl g13_32)), (qf11, .inl (cf11, 100, .inl g11_32))]) [0, 1, 2] (by decide) rfl, hP.sub (ws' := [(h0, .inr (1, [.ref qf0, .int v1, .ref qf2, .int v3, .int v4, .ref qf5, .ref qf6, .int v7, .int v8, .ref qf9, .int v10, .ref qf11, .ref qf12, .ref qf13, .int x14_32, .int v15])), (qf13, .inl (cf13, 100, .inl g13_32)), (qf11, .inl (cf11, 100, .inl g11_32))]) [0, 1, 2] rfl, hsp⟩
      · rw [if_pos c_8] at hsp
        refine lv_aload_n hx hb dX1_slotOfFrame_53 rfl (lv_at hl 0 rfl) ?_
        refine va_get (D := (dC, dI)) (ci := 1) (v := .ref qf13) (C := RX1) (T := TX1) (N := 16) hx hb hts uV_h7_X1 hown hK hP 0 rfl rfl 13 (by decide) (hts (.fieldLink RX1 36 "ClassMill$Code" "frameOrder" "[I") mw_h7_34) (fun _ h9 => h9) rfl dX1_slotOfFrame_54 ?_
        refine lv_iload_n hx hb dX1_slotOfFrame_57 rfl (lv_at hl 2 rfl) ?_
        refine lv_iconst (v := 1) hx hb dX1_slotOfFrame_58 (by decide) ?_
        refine lv_isub hx hb dX1_slotOfFrame_59 ?_
        obtain ⟨hi_9, hsp⟩ := ox_in hsp
        refine va_iald hx hb hK hP 1 0 rfl rfl (i := (l2_32 - 1)) hi_9 dX1_slotOfFrame_60 ?_
        have hr0 := Option.some.inj hsp
        clear hsp
        obtain ⟨hq0, hr1⟩ := Prod.mk.inj hr0
        clear hr0
        obtain ⟨hq1, hr2⟩ := Prod.mk.inj hr1
        clear hr1
        obtain ⟨hq2, hr3⟩ := Prod.mk.inj hr2
        clear hr2
        subst hq0
        subst hq1
        subst hq2
        subst hr3
        have hP9 := hP.sub (ws' := [(h0, .inr (1, [.ref qf0, .int v1, .ref qf2, .int v3, .int v4, .ref qf5, .ref qf6, .int v7, .int v8, .ref qf9, .int v10, .ref qf11, .ref qf12, .ref qf13, .int x14_32, .int v15])), (qf13, .inl (cf13, 100, .inl g13_32)), (qf11, .inl (cf11, 100, .inl g11_32))]) [0, 1, 2] rfl
        have hD9 := hD.sub (ws' := [(h0, .inr (1, [.ref qf0, .int v1, .ref qf2, .int v3, .int v4, .ref qf5, .ref qf6, .int v7, .int v8, .ref qf9, .int v10, .ref qf11, .ref qf12, .ref qf13, .int x14_32, .int v15])), (qf13, .inl (cf13, 100, .inl g13_32)), (qf11, .inl (cf11, 100, .inl g11_32))]) [0, 1, 2] (by decide) rfl
        have hK9 := hK.sub (tys' := [(cf13, .int), (cf11, .int)]) [0, 1] rfl
        exact W.iret hx hb hr (fun t ht hW => ⟨⟨((g13_32 ((l2_32 - 1) : Int32).toNatClampNeg)), (), rfl, rfl, by rw [ht]; exact hP9, va_K.moved hW.alike hK9, hD9⟩, hS.F ht⟩) hS.2.2 dX1_slotOfFrame_61
  intro hj_32
  refine lv_aload_n hx hb dX1_slotOfFrame_0 rfl (lv_at hl 0 rfl) ?_
  refine va_get (D := (dC, dI)) (ci := 1) (v := .int v14) (C := RX1) (T := TX1) (N := 16) hx hb hts uV_h7_X1 hown hK hP 0 rfl rfl 14 (by decide) (hts (.fieldLink RX1 58 "ClassMill$Code" "frameCount" "I") mw_h7_33) (fun _ h9 => h9) rfl dX1_slotOfFrame_1 ?_
  refine lv_istore_n (lv' := [(2, .int v14), (0, .ref h0), (1, .int a1)]) hx hb dX1_slotOfFrame_4 rfl hl (by decide) rfl (fun ls hl => ?_)
  replace hl : lv_has ls 3 [(2, .int v14), (0, .ref h0), (1, .int a1)] := lv_sub hl [0, 1, 2] rfl
  replace hP := hP.sub (ws' := [(h0, .inr (1, [.ref qf0, .int v1, .ref qf2, .int v3, .int v4, .ref qf5, .ref qf6, .int v7, .int v8, .ref qf9, .int v10, .ref qf11, .ref qf12, .ref qf13, .int v14, .int v15])), (qf13, .inl (cf13, 100, .inl f13)), (qf11, .inl (cf11, 100, .inl f11))]) [0, 1, 2] rfl
  replace hD := hD.sub (ws' := [(h0, .inr (1, [.ref qf0, .int v1, .ref qf2, .int v3, .int v4, .ref qf5, .ref qf6, .int v7, .int v8, .ref qf9, .int v10, .ref qf11, .ref qf12, .ref qf13, .int v14, .int v15])), (qf13, .inl (cf13, 100, .inl f13)), (qf11, .inl (cf11, 100, .inl f11))]) [0, 1, 2] (by decide) rfl
  replace hK := hK.sub (tys' := [(cf13, .int), (cf11, .int)]) [0, 1] rfl
  obtain ⟨n_5, hn_5⟩ : ∃ z : Nat, z = nf := ⟨_, rfl⟩
  obtain ⟨l1_5, el1_5⟩ : ∃ z : Int32, z = a1 := ⟨_, rfl⟩
  obtain ⟨l2_5, el2_5⟩ : ∃ z : Int32, z = v14 := ⟨_, rfl⟩
  obtain ⟨g11_5, eg11_5⟩ : ∃ z : Nat → Int32, z = f11 := ⟨_, rfl⟩
  obtain ⟨g13_5, eg13_5⟩ : ∃ z : Nat → Int32, z = f13 := ⟨_, rfl⟩
  obtain ⟨x14_5, ex14_5⟩ : ∃ z : Int32, z = v14 := ⟨_, rfl⟩
  replace hsp : lp_v1_slotOfFrame_5 nf n_5 a1 v14 f13 f11 l1_5 l2_5 g11_5 g13_5 x14_5 = some (r0, o11, o13, w14) := by rw [hn_5, el1_5, el2_5, eg11_5, eg13_5, ex14_5]; exact hsp
  replace hl : lv_has ls 3 [(2, .int l2_5), (0, .ref h0), (1, .int l1_5)] := by rw [el1_5, el2_5]; exact hl
  replace hP : va_P (dC, dI) vwCl [(h0, .inr (1, [.ref qf0, .int v1, .ref qf2, .int v3, .int v4, .ref qf5, .ref qf6, .int v7, .int v8, .ref qf9, .int v10, .ref qf11, .ref qf12, .ref qf13, .int x14_5, .int v15])), (qf13, .inl (cf13, 100, .inl g13_5)), (qf11, .inl (cf11, 100, .inl g11_5))] H := by rw [eg11_5, eg13_5, ex14_5]; exact hP
  replace hD : va_D A [(h0, .inr (1, [.ref qf0, .int v1, .ref qf2, .int v3, .int v4, .ref qf5, .ref qf6, .int v7, .int v8, .ref qf9, .int v10, .ref qf11, .ref qf12, .ref qf13, .int x14_5, .int v15])), (qf13, .inl (cf13, 100, .inl g13_5)), (qf11, .inl (cf11, 100, .inl g11_5))] := by rw [eg11_5, eg13_5, ex14_5]; exact hD
  clear hn_5 el1_5 el2_5 eg11_5 eg13_5 ex14_5
  try clear hlo
  try clear hH
  revert hsp
  revert hP
  revert hD
  revert hS
  revert hl
  revert x14_5
  revert g13_5
  revert g11_5
  revert l2_5
  revert l1_5
  revert ls
  revert locs
  revert H
  induction n_5 with
  | zero => intro H locs ls l1_5 l2_5 g11_5 g13_5 x14_5  hl hS hD hP hsp; unfold lp_v1_slotOfFrame_5 at hsp; cases hsp
  | succ n_5 ih_5 =>
    intro H locs ls l1_5 l2_5 g11_5 g13_5 x14_5  hl hS hD hP hsp
    unfold lp_v1_slotOfFrame_5 at hsp
    try dsimp only at hsp
    refine lv_iload_n hx hb dX1_slotOfFrame_5 rfl (lv_at hl 0 rfl) ?_
    refine lv_if_le (tgt := 32) hx hb dX1_slotOfFrame_6 (by decide) (fun c_1 => ?_) (fun c_1 => ?_)
    · rw [if_pos c_1] at hsp
      exact hj_32 (H, locs, ls, l1_5, l2_5, g11_5, g13_5, x14_5) ⟨lv_sub hl [1, 2, 0] rfl, hS, hD.sub (ws' := [(h0, .inr (1, [.ref qf0, .int v1, .ref qf2, .int v3, .int v4, .ref qf5, .ref qf6, .int v7, .int v8, .ref qf9, .int v10, .ref qf11, .ref qf12, .ref qf13, .int x14_5, .int v15])), (qf13, .inl (cf13, 100, .inl g13_5)), (qf11, .inl (cf11, 100, .inl g11_5))]) [0, 1, 2] (by decide) rfl, hP.sub (ws' := [(h0, .inr (1, [.ref qf0, .int v1, .ref qf2, .int v3, .int v4, .ref qf5, .ref qf6, .int v7, .int v8, .ref qf9, .int v10, .ref qf11, .ref qf12, .ref qf13, .int x14_5, .int v15])), (qf13, .inl (cf13, 100, .inl g13_5)), (qf11, .inl (cf11, 100, .inl g11_5))]) [0, 1, 2] rfl, hsp⟩
    · rw [if_neg c_1] at hsp
      refine lv_aload_n hx hb dX1_slotOfFrame_9 rfl (lv_at hl 1 rfl) ?_
      refine va_get (D := (dC, dI)) (ci := 1) (v := .ref qf11) (C := RX1) (T := TX1) (N := 16) hx hb hts uV_h7_X1 hown hK hP 0 rfl rfl 11 (by decide) (hts (.fieldLink RX1 30 "ClassMill$Code" "framePlace" "[I") mw_h7_35) (fun _ h9 => h9) rfl dX1_slotOfFrame_10 ?_
      refine lv_aload_n hx hb dX1_slotOfFrame_13 rfl (lv_at hl 1 rfl) ?_
      refine va_get (D := (dC, dI)) (ci := 1) (v := .ref qf13) (C := RX1) (T := TX1) (N := 16) hx hb hts uV_h7_X1 hown hK hP 0 rfl rfl 13 (by decide) (hts (.fieldLink RX1 36 "ClassMill$Code" "frameOrder" "[I") mw_h7_34) (fun _ h9 => h9) rfl dX1_slotOfFrame_14 ?_
      refine lv_iload_n hx hb dX1_slotOfFrame_17 rfl (lv_at hl 0 rfl) ?_
      refine lv_iconst (v := 1) hx hb dX1_slotOfFrame_18 (by decide) ?_
      refine lv_isub hx hb dX1_slotOfFrame_19 ?_
      obtain ⟨hi_2, hsp⟩ := ox_in hsp
      refine va_iald hx hb hK hP 1 0 rfl rfl (i := (l2_5 - 1)) hi_2 dX1_slotOfFrame_20 ?_
      obtain ⟨hi_3, hsp⟩ := ox_in hsp
      refine va_iald hx hb hK hP 2 1 rfl rfl (i := (g13_5 ((l2_5 - 1) : Int32).toNatClampNeg)) hi_3 dX1_slotOfFrame_21 ?_
      refine lv_iload_n hx hb dX1_slotOfFrame_22 rfl (lv_at hl 2 rfl) ?_
      refine lv_icmp_le (tgt := 32) hx hb dX1_slotOfFrame_23 (by decide) (fun c_4 => ?_) (fun c_4 => ?_)
      · rw [if_pos c_4] at hsp
        exact hj_32 (H, locs, ls, l1_5, l2_5, g11_5, g13_5, x14_5) ⟨lv_sub hl [1, 2, 0] rfl, hS, hD.sub (ws' := [(h0, .inr (1, [.ref qf0, .int v1, .ref qf2, .int v3, .int v4, .ref qf5, .ref qf6, .int v7, .int v8, .ref qf9, .int v10, .ref qf11, .ref qf12, .ref qf13, .int x14_5, .int v15])), (qf13, .inl (cf13, 100, .inl g13_5)), (qf11, .inl (cf11, 100, .inl g11_5))]) [0, 1, 2] (by decide) rfl, hP.sub (ws' := [(h0, .inr (1, [.ref qf0, .int v1, .ref qf2, .int v3, .int v4, .ref qf5, .ref qf6, .int v7, .int v8, .ref qf9, .int v10, .ref qf11, .ref qf12, .ref qf13, .int x14_5, .int v15])), (qf13, .inl (cf13, 100, .inl g13_5)), (qf11, .inl (cf11, 100, .inl g11_5))]) [0, 1, 2] rfl, hsp⟩
      · rw [if_neg c_4] at hsp
        refine lv_iinc (v := (l2_5 + (-1))) (lv' := [(2, .int (l2_5 + (-1))), (0, .ref h0), (1, .int l1_5)]) hx hb dX1_slotOfFrame_26 hl (k := 0) rfl rfl (by decide) rfl (fun ls hl => ?_)
        refine lv_goto (tgt := 5) hx hb dX1_slotOfFrame_29 (by decide) ?_
        exact ih_5 H locs ls l1_5 (l2_5 + (-1)) g11_5 g13_5 x14_5 (lv_sub hl [0, 1, 2] rfl) hS (hD.sub (ws' := [(h0, .inr (1, [.ref qf0, .int v1, .ref qf2, .int v3, .int v4, .ref qf5, .ref qf6, .int v7, .int v8, .ref qf9, .int v10, .ref qf11, .ref qf12, .ref qf13, .int x14_5, .int v15])), (qf13, .inl (cf13, 100, .inl g13_5)), (qf11, .inl (cf11, 100, .inl g11_5))]) [0, 1, 2] (by decide) rfl) (hP.sub (ws' := [(h0, .inr (1, [.ref qf0, .int v1, .ref qf2, .int v3, .int v4, .ref qf5, .ref qf6, .int v7, .int v8, .ref qf9, .int v10, .ref qf11, .ref qf12, .ref qf13, .int x14_5, .int v15])), (qf13, .inl (cf13, 100, .inl g13_5)), (qf11, .inl (cf11, 100, .inl g11_5))]) [0, 1, 2] rfl) hsp
def lp_v1_writeTo_147 (nf n : Nat) (v1 : Int32) (v4 : Int32) (v8 : Int32) (v10 : Int32) (v14 : Int32) (va1_4 : Int32) (va1_5 : Int32) (va1_7 : Int32) (fa1_6 : Nat → Int32) (f0 : Nat → Int32) (f13 : Nat → Int32) (f12 : Nat → Int32) (f11 : Nat → Int32) (fa1_1_18 : Nat → Int32) (fa1_2 : Nat → Int32) (fa1_3 : Nat → Int32) (f9 : Nat → Int32)  (l2_147 : Int32) (ga1_2_147 : Nat → Int32) (ga1_3_147 : Nat → Int32) (ga1_6_147 : Nat → Int32) (xa1_4_147 : Int32) (xa1_5_147 : Int32) (xa1_7_147 : Int32) : Option ((Nat → Int32) × (Nat → Int32) × (Nat → Int32) × Int32 × Int32 × Int32) := match n with
  | 0 => none
  | n + 1 => (if v14 ≤ l2_147 then (some (ga1_2_147, ga1_3_147, ga1_6_147, xa1_4_147, xa1_5_147, xa1_7_147)) else (if l2_147 < 0 then none else if 100 ≤ (l2_147 : Int32).toNatClampNeg then none else ((sp_t1_writeFrame nf (f13 (l2_147 : Int32).toNatClampNeg) f12 f11 xa1_4_147 xa1_5_147 xa1_7_147 ga1_6_147 fa1_1_18 ga1_2_147 ga1_3_147).bind (fun p1 => (lp_v1_writeTo_147 nf n v1 v4 v8 v10 v14 va1_4 va1_5 va1_7 fa1_6 f0 f13 f12 f11 fa1_1_18 fa1_2 fa1_3 f9 (l2_147 + 1) p1.1 p1.2.1 p1.2.2.1 p1.2.2.2.1 p1.2.2.2.2.1 p1.2.2.2.2.2)))))
def lp_v1_writeTo_69 (nf n : Nat) (v1 : Int32) (v4 : Int32) (v8 : Int32) (v10 : Int32) (v14 : Int32) (va1_4 : Int32) (va1_5 : Int32) (va1_7 : Int32) (fa1_6 : Nat → Int32) (f0 : Nat → Int32) (f13 : Nat → Int32) (f12 : Nat → Int32) (f11 : Nat → Int32) (fa1_1_18 : Nat → Int32) (fa1_2 : Nat → Int32) (fa1_3 : Nat → Int32) (f9 : Nat → Int32)  (l2_69 : Int32) (ga1_2_69 : Nat → Int32) (ga1_3_69 : Nat → Int32) (ga1_6_69 : Nat → Int32) (xa1_4_69 : Int32) (xa1_5_69 : Int32) (xa1_7_69 : Int32) : Option ((Nat → Int32) × (Nat → Int32) × (Nat → Int32) × Int32 × Int32 × Int32) := match n with
  | 0 => none
  | n + 1 => (if v10 ≤ l2_69 then ((sp_t6_put nf v14 xa1_7_69 ga1_6_69).bind (fun p1 => (lp_v1_writeTo_147 nf nf v1 v4 v8 v10 v14 va1_4 va1_5 va1_7 fa1_6 f0 f13 f12 f11 fa1_1_18 fa1_2 fa1_3 f9  0 ga1_2_69 ga1_3_69 p1.1 xa1_4_69 xa1_5_69 p1.2))) else (if (l2_69 * 4) < 0 then none else if 80 ≤ ((l2_69 * 4) : Int32).toNatClampNeg then none else ((sp_t6_putPair nf (f9 ((l2_69 * 4) : Int32).toNatClampNeg) xa1_7_69 ga1_6_69).bind (fun p2 => (if ((l2_69 * 4) + 1) < 0 then none else if 80 ≤ (((l2_69 * 4) + 1) : Int32).toNatClampNeg then none else ((sp_t6_putPair nf (f9 (((l2_69 * 4) + 1) : Int32).toNatClampNeg) p2.2 p2.1).bind (fun p3 => (if ((l2_69 * 4) + 2) < 0 then none else if 80 ≤ (((l2_69 * 4) + 2) : Int32).toNatClampNeg then none else ((sp_t6_putPair nf (f9 (((l2_69 * 4) + 2) : Int32).toNatClampNeg) p3.2 p3.1).bind (fun p4 => (if ((l2_69 * 4) + 3) < 0 then none else if 80 ≤ (((l2_69 * 4) + 3) : Int32).toNatClampNeg then none else ((sp_t6_classOf nf (f9 (((l2_69 * 4) + 3) : Int32).toNatClampNeg) xa1_4_69 xa1_5_69 fa1_1_18 ga1_2_69 ga1_3_69).bind (fun p5 => ((sp_t6_put nf p5.1 p4.2 p4.1).bind (fun p6 => (lp_v1_writeTo_69 nf n v1 v4 v8 v10 v14 va1_4 va1_5 va1_7 fa1_6 f0 f13 f12 f11 fa1_1_18 fa1_2 fa1_3 f9 (l2_69 + 1) p5.2.1 p5.2.2.1 p6.1 p5.2.2.2.1 p5.2.2.2.2 p6.2))))))))))))))))
def jn_v1_writeTo_59 (nf : Nat) (v1 : Int32) (v4 : Int32) (v8 : Int32) (v10 : Int32) (v14 : Int32) (va1_4 : Int32) (va1_5 : Int32) (va1_7 : Int32) (fa1_6 : Nat → Int32) (f0 : Nat → Int32) (f13 : Nat → Int32) (f12 : Nat → Int32) (f11 : Nat → Int32) (fa1_1_18 : Nat → Int32) (fa1_2 : Nat → Int32) (fa1_3 : Nat → Int32) (f9 : Nat → Int32)  (ga1_2_59 : Nat → Int32) (ga1_3_59 : Nat → Int32) (ga1_6_59 : Nat → Int32) (xa1_4_59 : Int32) (xa1_5_59 : Int32) (xa1_7_59 : Int32) : Option ((Nat → Int32) × (Nat → Int32) × (Nat → Int32) × Int32 × Int32 × Int32) := ((sp_t6_put nf v10 xa1_7_59 ga1_6_59).bind (fun p1 => (lp_v1_writeTo_69 nf nf v1 v4 v8 v10 v14 va1_4 va1_5 va1_7 fa1_6 f0 f13 f12 f11 fa1_1_18 fa1_2 fa1_3 f9  0 ga1_2_59 ga1_3_59 p1.1 xa1_4_59 xa1_5_59 p1.2)))
def lp_v1_writeTo_26 (nf n : Nat) (v1 : Int32) (v4 : Int32) (v8 : Int32) (v10 : Int32) (v14 : Int32) (va1_4 : Int32) (va1_5 : Int32) (va1_7 : Int32) (fa1_6 : Nat → Int32) (f0 : Nat → Int32) (f13 : Nat → Int32) (f12 : Nat → Int32) (f11 : Nat → Int32) (fa1_1_18 : Nat → Int32) (fa1_2 : Nat → Int32) (fa1_3 : Nat → Int32) (f9 : Nat → Int32)  (l2_26 : Int32) (ga1_2_26 : Nat → Int32) (ga1_3_26 : Nat → Int32) (ga1_6_26 : Nat → Int32) (xa1_4_26 : Int32) (xa1_5_26 : Int32) (xa1_7_26 : Int32) : Option ((Nat → Int32) × (Nat → Int32) × (Nat → Int32) × Int32 × Int32 × Int32) := match n with
  | 0 => none
  | n + 1 => (if v1 ≤ l2_26 then (jn_v1_writeTo_59 nf v1 v4 v8 v10 v14 va1_4 va1_5 va1_7 fa1_6 f0 f13 f12 f11 fa1_1_18 fa1_2 fa1_3 f9  ga1_2_26 ga1_3_26 ga1_6_26 xa1_4_26 xa1_5_26 xa1_7_26) else (if 1500 ≤ l2_26 then (jn_v1_writeTo_59 nf v1 v4 v8 v10 v14 va1_4 va1_5 va1_7 fa1_6 f0 f13 f12 f11 fa1_1_18 fa1_2 fa1_3 f9  ga1_2_26 ga1_3_26 ga1_6_26 xa1_4_26 xa1_5_26 xa1_7_26) else (if l2_26 < 0 then none else if 1500 ≤ (l2_26 : Int32).toNatClampNeg then none else ((sp_t6_put nf (f0 (l2_26 : Int32).toNatClampNeg) xa1_7_26 ga1_6_26).bind (fun p1 => (lp_v1_writeTo_26 nf n v1 v4 v8 v10 v14 va1_4 va1_5 va1_7 fa1_6 f0 f13 f12 f11 fa1_1_18 fa1_2 fa1_3 f9 (l2_26 + 1) ga1_2_26 ga1_3_26 p1.1 xa1_4_26 xa1_5_26 p1.2))))))
def sp_v1_writeTo (nf : Nat) (v1 : Int32) (v4 : Int32) (v8 : Int32) (v10 : Int32) (v14 : Int32) (va1_4 : Int32) (va1_5 : Int32) (va1_7 : Int32) (fa1_6 : Nat → Int32) (f0 : Nat → Int32) (f13 : Nat → Int32) (f12 : Nat → Int32) (f11 : Nat → Int32) (fa1_1_18 : Nat → Int32) (fa1_2 : Nat → Int32) (fa1_3 : Nat → Int32) (f9 : Nat → Int32) : Option ((Nat → Int32) × (Nat → Int32) × (Nat → Int32) × Int32 × Int32 × Int32) := ((sp_t6_put nf v4 va1_7 fa1_6).bind (fun p1 => ((sp_t6_put nf v8 p1.2 p1.1).bind (fun p2 => ((sp_t6_putPair nf v1 p2.2 p2.1).bind (fun p3 => (lp_v1_writeTo_26 nf nf v1 v4 v8 v10 v14 va1_4 va1_5 va1_7 fa1_6 f0 f13 f12 f11 fa1_1_18 fa1_2 fa1_3 f9  0 fa1_2 fa1_3 p3.1 va1_4 va1_5 p3.2)))))))

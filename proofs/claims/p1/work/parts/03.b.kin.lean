set_option maxHeartbeats 4000000 in
set_option maxRecDepth 100000 in
theorem lp_settle1 {p : Program} {l : Launch} {e : Env} {R : Room} {s : State} {m : MethodId} {args : Array Value} {below : List Frame} {meth : Method} {c : Code} {cells slots : Nat} {Q : State → Prop} {A : Nat → Prop} {H0 : Heap} {dC : Nat → ClassId} {dI : Nat → Nat → Nat} (hx : p.tables.exec = Jvm.exec) (hb : c.code = cX4_settle) (hown : s.vm.findClass RX4 = some m.cls) (hts : ∀ w ∈ wsX4_settle, w.before args s = true) {h0 qa qu : Nat} {ca cu : ClassId} {f : Nat → Int32} (hK : va_K (dC, dI) vwCl [(ca, .int), (cu, .boolean)] s) (i : Nat) (hi : i < 16) (kk : ∀ (g : Nat → Int32) (H : Heap) (locs : List Loc) (ls : Array Slot), va_P (dC, dI) vwCl [(h0, .inr (4, [.ref qa, .ref qu])), (qa, .inl (ca, 16, .inl f)), (qu, .inl (cu, 256, .inl g))] H → va_D A [(h0, .inr (4, [.ref qa, .ref qu])), (qa, .inl (ca, 16, .inl f)), (qu, .inl (cu, 256, .inl g))] → va_S A H0 H locs → lv_has ls 4 [(1, .int (nI i)), (0, .ref h0)] → W p l e R s m args below meth c H locs cells slots Q (F0 m 34 ls [])) : ∀ (n j : Nat), j ≤ 16 → 16 - j < n → ∀ (g : Nat → Int32) (H : Heap) (locs : List Loc) (ls : Array Slot), va_P (dC, dI) vwCl [(h0, .inr (4, [.ref qa, .ref qu])), (qa, .inl (ca, 16, .inl f)), (qu, .inl (cu, 256, .inl g))] H → va_D A [(h0, .inr (4, [.ref qa, .ref qu])), (qa, .inl (ca, 16, .inl f)), (qu, .inl (cu, 256, .inl g))] → va_S A H0 H locs → lv_has ls 4 [(2, .int (nI j)), (1, .int (nI i)), (0, .ref h0)] → W p l e R s m args below meth c H locs cells slots Q (F0 m 10 ls []) := by
  intro n
  induction n with
  | zero => intro j h1 h2; exact absurd h2 (by omega)
  | succ n ih =>
    intro j hj hn g H locs ls hP hD hS hl
    refine lv_iload_n hx hb dX4_settle_10 rfl (lv_at hl 0 rfl) ?_
    refine lv_bipush (v := 16) hx hb dX4_settle_11 (by decide) ?_
    refine lv_icmp_ge (tgt := 34) hx hb dX4_settle_13 (by decide) (fun c_1 => ?_) (fun c_1 => ?_)
    · exact kk g H locs ls hP hD hS (lv_sub hl [1, 2] rfl)
    · have hj2 : j < 16 := by
        rcases Nat.lt_or_ge j 16 with q | q
        · exact q
        · exact absurd (by rw [show (16 : Int32) = nI 16 from rfl]; exact nI_le q (by omega)) c_1
      refine lv_aload_n hx hb dX4_settle_16 rfl (lv_at hl 2 rfl) ?_
      refine va_get (D := (dC, dI)) (ci := 4) (v := .ref qu) (C := RX4) (T := TX4) (N := 2) hx hb hts uX4_settle_X4 hown hK hP 0 rfl rfl 1 (by decide) (hts (.fieldLink RX4 15 "ClassMill$Kin" "under" "[Z") (by decide +kernel)) (fun _ h9 => h9) rfl dX4_settle_17 ?_
      refine lv_iload_n hx hb dX4_settle_20 rfl (lv_at hl 1 rfl) ?_
      refine lv_bipush (v := 16) hx hb dX4_settle_21 (by decide) ?_
      refine lv_imul hx hb dX4_settle_23 ?_
      refine lv_topi (fun y_1 ey_1 => ?_)
      refine lv_iload_n hx hb dX4_settle_24 rfl (lv_at hl 0 rfl) ?_
      refine lv_iadd hx hb dX4_settle_25 ?_
      refine lv_topi (fun y_2 ey_2 => ?_)
      have hy : y_2 = nI (i * 16 + j) := by rw [ey_2, ey_1, show (16 : Int32) = nI 16 from rfl, pk_mul, nI_add]
      refine lv_iconst (v := 0) hx hb dX4_settle_26 (by decide) ?_
      refine va_zast hx hb hK hP hD hS 2 1 rfl rfl (i := y_2) (x := 0) (by rw [hy]; exact vp_in_nI (by omega) (by decide)) dX4_settle_27 ?_
      clear hP hD hS
      intro H locs hP hD hS
      obtain ⟨f_3, ef_3⟩ : ∃ zf : Nat → Int32, zf = upd g (y_2 : Int32).toNatClampNeg (vp_nar .boolean 0) := ⟨_, rfl⟩
      rw [← ef_3] at hP hD
      replace hP : va_P (dC, dI) vwCl [(h0, .inr (4, [.ref qa, .ref qu])), (qa, .inl (ca, 16, .inl f)), (qu, .inl (cu, 256, .inl f_3))] H := hP
      replace hD : va_D A [(h0, .inr (4, [.ref qa, .ref qu])), (qa, .inl (ca, 16, .inl f)), (qu, .inl (cu, 256, .inl f_3))] := hD
      obtain ⟨y_4, ey_4⟩ : ∃ zy : Int32, zy = (nI j) + 1 := ⟨_, rfl⟩
      refine lv_iinc (v := y_4) (lv' := [(2, .int y_4), (1, .int (nI i)), (0, .ref h0)]) hx hb dX4_settle_28 hl (k := 0) rfl (by rw [ey_4]; rfl) (by decide) rfl (fun ls hl => ?_)
      refine lv_goto (tgt := 10) hx hb dX4_settle_31 (by decide) ?_
      exact ih (j + 1) (by omega) (by omega) f_3 H locs ls hP hD hS (by rw [ey_4, nI_1] at hl; exact hl)
set_option maxHeartbeats 4000000 in
set_option maxRecDepth 100000 in
theorem lp_settle2 {p : Program} {l : Launch} {e : Env} {R : Room} {s : State} {m : MethodId} {args : Array Value} {below : List Frame} {meth : Method} {c : Code} {cells slots : Nat} {Q : State → Prop} {A : Nat → Prop} {H0 : Heap} {dC : Nat → ClassId} {dI : Nat → Nat → Nat} (hx : p.tables.exec = Jvm.exec) (hb : c.code = cX4_settle) (hown : s.vm.findClass RX4 = some m.cls) (hts : ∀ w ∈ wsX4_settle, w.before args s = true) {h0 qa qu : Nat} {ca cu : ClassId} {f : Nat → Int32} (hK : va_K (dC, dI) vwCl [(ca, .int), (cu, .boolean)] s) (i : Nat) (hi : i < 16) (kk : ∀ (g : Nat → Int32) (H : Heap) (locs : List Loc) (ls : Array Slot), va_P (dC, dI) vwCl [(h0, .inr (4, [.ref qa, .ref qu])), (qa, .inl (ca, 16, .inl f)), (qu, .inl (cu, 256, .inl g))] H → va_D A [(h0, .inr (4, [.ref qa, .ref qu])), (qa, .inl (ca, 16, .inl f)), (qu, .inl (cu, 256, .inl g))] → va_S A H0 H locs → lv_has ls 4 [(1, .int (nI i)), (0, .ref h0)] → W p l e R s m args below meth c H locs cells slots Q (F0 m 79 ls [])) : ∀ (n j : Nat), j ≤ 16 → 16 - j < n → ∀ (x : Int32) (g : Nat → Int32) (H : Heap) (locs : List Loc) (ls : Array Slot), va_P (dC, dI) vwCl [(h0, .inr (4, [.ref qa, .ref qu])), (qa, .inl (ca, 16, .inl f)), (qu, .inl (cu, 256, .inl g))] H → va_D A [(h0, .inr (4, [.ref qa, .ref qu])), (qa, .inl (ca, 16, .inl f)), (qu, .inl (cu, 256, .inl g))] → va_S A H0 H locs → lv_has ls 4 [(3, .int (nI j)), (2, .int x), (1, .int (nI i)), (0, .ref h0)] → W p l e R s m args below meth c H locs cells slots Q (F0 m 38 ls []) := by
  intro n
  induction n with
  | zero => intro j h1 h2; exact absurd h2 (by omega)
  | succ n ih =>
    intro j hj hn x g H locs ls hP hD hS hl
    refine lv_iload_n hx hb dX4_settle_38 rfl (lv_at hl 0 rfl) ?_
    refine lv_bipush (v := 16) hx hb dX4_settle_39 (by decide) ?_
    refine lv_icmp_ge (tgt := 79) hx hb dX4_settle_41 (by decide) (fun c_1 => by exact kk g H locs ls hP hD hS (lv_sub hl [2, 3] rfl)) (fun c_1 => ?_)
    have hj2 : j < 16 := by
      rcases Nat.lt_or_ge j 16 with q | q
      · exact q
      · exact absurd (by rw [show (16 : Int32) = nI 16 from rfl]; exact nI_le q (by omega)) c_1
    refine lv_iload_n hx hb dX4_settle_44 rfl (lv_at hl 1 rfl) ?_
    refine lv_if_lt (tgt := 79) hx hb dX4_settle_45 (by decide) (fun c_2 => by exact kk g H locs ls hP hD hS (lv_sub hl [2, 3] rfl)) (fun c_2 => ?_)
    refine lv_iload_n hx hb dX4_settle_48 rfl (lv_at hl 1 rfl) ?_
    refine lv_bipush (v := 16) hx hb dX4_settle_49 (by decide) ?_
    refine lv_icmp_ge (tgt := 79) hx hb dX4_settle_51 (by decide) (fun c_3 => by exact kk g H locs ls hP hD hS (lv_sub hl [2, 3] rfl)) (fun c_3 => ?_)
    obtain ⟨k, hk, rfl⟩ : ∃ k : Nat, k < 16 ∧ x = nI k := by
      rcases pk_ix x (n := 16) (by decide) with q | q | q
      · exact absurd q c_2
      · exact absurd q c_3
      · exact q
    refine lv_aload_n hx hb dX4_settle_54 rfl (lv_at hl 3 rfl) ?_
    refine va_get (D := (dC, dI)) (ci := 4) (v := .ref qu) (C := RX4) (T := TX4) (N := 2) hx hb hts uX4_settle_X4 hown hK hP 0 rfl rfl 1 (by decide) (hts (.fieldLink RX4 15 "ClassMill$Kin" "under" "[Z") (by decide +kernel)) (fun _ h9 => h9) rfl dX4_settle_55 ?_
    refine lv_iload_n hx hb dX4_settle_58 rfl (lv_at hl 2 rfl) ?_
    refine lv_bipush (v := 16) hx hb dX4_settle_59 (by decide) ?_
    refine lv_imul hx hb dX4_settle_61 ?_
    refine lv_topi (fun y_1 ey_1 => ?_)
    refine lv_iload_n hx hb dX4_settle_62 rfl (lv_at hl 1 rfl) ?_
    refine lv_iadd hx hb dX4_settle_63 ?_
    refine lv_topi (fun y_2 ey_2 => ?_)
    have hy : y_2 = nI (i * 16 + k) := by rw [ey_2, ey_1, show (16 : Int32) = nI 16 from rfl, pk_mul, nI_add]
    refine lv_iconst (v := 1) hx hb dX4_settle_64 (by decide) ?_
    refine va_zast hx hb hK hP hD hS 2 1 rfl rfl (i := y_2) (x := 1) (by rw [hy]; exact vp_in_nI (by omega) (by decide)) dX4_settle_65 ?_
    clear hP hD hS
    intro H locs hP hD hS
    obtain ⟨f_3, ef_3⟩ : ∃ zf : Nat → Int32, zf = upd g (y_2 : Int32).toNatClampNeg (vp_nar .boolean 1) := ⟨_, rfl⟩
    rw [← ef_3] at hP hD
    replace hP : va_P (dC, dI) vwCl [(h0, .inr (4, [.ref qa, .ref qu])), (qa, .inl (ca, 16, .inl f)), (qu, .inl (cu, 256, .inl f_3))] H := hP
    replace hD : va_D A [(h0, .inr (4, [.ref qa, .ref qu])), (qa, .inl (ca, 16, .inl f)), (qu, .inl (cu, 256, .inl f_3))] := hD
    refine lv_aload_n hx hb dX4_settle_66 rfl (lv_at hl 3 rfl) ?_
    refine va_get (D := (dC, dI)) (ci := 4) (v := .ref qa) (C := RX4) (T := TX4) (N := 2) hx hb hts uX4_settle_X4 hown hK hP 0 rfl rfl 0 (by decide) (hts (.fieldLink RX4 11 "ClassMill$Kin" "above" "[I") (by decide +kernel)) (fun _ h9 => h9) rfl dX4_settle_67 ?_
    refine lv_iload_n hx hb dX4_settle_70 rfl (lv_at hl 1 rfl) ?_
    refine va_iald hx hb hK hP 1 0 rfl rfl (i := (nI k)) (vp_in_nI hk (by decide)) dX4_settle_71 ?_
    refine lv_topi (fun y_4 ey_4 => ?_)
    refine lv_istore_n (lv' := [(2, .int y_4), (3, .int (nI j)), (1, .int (nI i)), (0, .ref h0)]) hx hb dX4_settle_72 rfl hl (by decide) rfl (fun ls hl => ?_)
    obtain ⟨y_5, ey_5⟩ : ∃ zy : Int32, zy = (nI j) + 1 := ⟨_, rfl⟩
    refine lv_iinc (v := y_5) (lv' := [(3, .int y_5), (2, .int y_4), (1, .int (nI i)), (0, .ref h0)]) hx hb dX4_settle_73 hl (k := 1) rfl (by rw [ey_5]; rfl) (by decide) rfl (fun ls hl => ?_)
    refine lv_goto (tgt := 38) hx hb dX4_settle_76 (by decide) ?_
    exact ih (j + 1) (by omega) (by omega) y_4 f_3 H locs ls hP hD hS (by rw [ey_5, nI_1] at hl; exact hl)
set_option maxHeartbeats 4000000 in
set_option maxRecDepth 100000 in
theorem lp_settle0 {p : Program} {l : Launch} {e : Env} {R : Room} {s : State} {m : MethodId} {args : Array Value} {below : List Frame} {meth : Method} {c : Code} {cells slots : Nat} {Q : State → Prop} {A : Nat → Prop} {H0 : Heap} {dC : Nat → ClassId} {dI : Nat → Nat → Nat} (hx : p.tables.exec = Jvm.exec) (hb : c.code = cX4_settle) (hown : s.vm.findClass RX4 = some m.cls) (hts : ∀ w ∈ wsX4_settle, w.before args s = true) {h0 qa qu : Nat} {ca cu : ClassId} {f : Nat → Int32} (hK : va_K (dC, dI) vwCl [(ca, .int), (cu, .boolean)] s) (kk : ∀ (g : Nat → Int32) (H : Heap) (locs : List Loc) (ls : Array Slot), va_P (dC, dI) vwCl [(h0, .inr (4, [.ref qa, .ref qu])), (qa, .inl (ca, 16, .inl f)), (qu, .inl (cu, 256, .inl g))] H → va_D A [(h0, .inr (4, [.ref qa, .ref qu])), (qa, .inl (ca, 16, .inl f)), (qu, .inl (cu, 256, .inl g))] → va_S A H0 H locs → W p l e R s m args below meth c H locs cells slots Q (F0 m 85 ls [])) : ∀ (n j : Nat), j ≤ 16 → 16 - j < n → ∀ (g : Nat → Int32) (H : Heap) (locs : List Loc) (ls : Array Slot), va_P (dC, dI) vwCl [(h0, .inr (4, [.ref qa, .ref qu])), (qa, .inl (ca, 16, .inl f)), (qu, .inl (cu, 256, .inl g))] H → va_D A [(h0, .inr (4, [.ref qa, .ref qu])), (qa, .inl (ca, 16, .inl f)), (qu, .inl (cu, 256, .inl g))] → va_S A H0 H locs → lv_has ls 4 [(1, .int (nI j)), (0, .ref h0)] → W p l e R s m args below meth c H locs cells slots Q (F0 m 2 ls []) := by
  intro n
  induction n with
  | zero => intro j h1 h2; exact absurd h2 (by omega)
  | succ n ih =>
    intro j hj hn g H locs ls hP hD hS hl
    refine lv_iload_n hx hb dX4_settle_2 rfl (lv_at hl 0 rfl) ?_
    refine lv_bipush (v := 16) hx hb dX4_settle_3 (by decide) ?_
    refine lv_icmp_ge (tgt := 85) hx hb dX4_settle_5 (by decide) (fun c_1 => kk g H locs ls hP hD hS) (fun c_1 => ?_)
    have hj2 : j < 16 := by
      rcases Nat.lt_or_ge j 16 with q | q
      · exact q
      · exact absurd (by rw [show (16 : Int32) = nI 16 from rfl]; exact nI_le q (by omega)) c_1
    refine lv_iconst (v := 0) hx hb dX4_settle_8 (by decide) ?_
    refine lv_istore_n (lv' := [(2, .int 0), (1, .int (nI j)), (0, .ref h0)]) hx hb dX4_settle_9 rfl hl (by decide) rfl (fun ls hl => ?_)
    refine lp_settle1 hx hb hown hts hK j hj2 ?_ 17 0 (by omega) (by omega) g H locs ls hP hD hS (lv_sub hl [0, 1, 2] rfl)
    intro g H locs ls hP hD hS hl
    refine lv_iload_n hx hb dX4_settle_34 rfl (lv_at hl 0 rfl) ?_
    refine lv_istore_n (lv' := [(2, .int (nI j)), (1, .int (nI j)), (0, .ref h0)]) hx hb dX4_settle_35 rfl hl (by decide) rfl (fun ls hl => ?_)
    refine lv_iconst (v := 0) hx hb dX4_settle_36 (by decide) ?_
    refine lv_istore_n (lv' := [(3, .int 0), (2, .int (nI j)), (1, .int (nI j)), (0, .ref h0)]) hx hb dX4_settle_37 rfl hl (by decide) rfl (fun ls hl => ?_)
    refine lp_settle2 hx hb hown hts hK j hj2 ?_ 17 0 (by omega) (by omega) (nI j) g H locs ls hP hD hS (lv_sub hl [0, 1, 2, 3] rfl)
    intro g H locs ls hP hD hS hl
    obtain ⟨y_1, ey_1⟩ : ∃ zy : Int32, zy = (nI j) + 1 := ⟨_, rfl⟩
    refine lv_iinc (v := y_1) (lv' := [(1, .int y_1), (0, .ref h0)]) hx hb dX4_settle_79 hl (k := 0) rfl (by rw [ey_1]; rfl) (by decide) rfl (fun ls hl => ?_)
    refine lv_goto (tgt := 2) hx hb dX4_settle_82 (by decide) ?_
    exact ih (j + 1) (by omega) (by omega) g H locs ls hP hD hS (by rw [ey_1, nI_1] at hl; exact hl)
set_option maxHeartbeats 4000000 in
set_option maxRecDepth 100000 in
/-- Kin.settle: `under` becomes something, `above` stays -/
theorem ct_settle (l : Launch) (dC : Nat → ClassId) (dI : Nat → Nat → Nat) (sz : Nat) (h0 qa qu : Nat) (ca cu : ClassId) (f g : Nat → Int32)  : Met l yX4_settle wsX4_settle ({ frames := 0, cells := 0, slots := 0, locals := 0 }) (va_Pc [.ref h0] (fun U => U.heap.size = sz ∧ va_P (dC, dI) vwCl [(h0, .inr (4, [.ref qa, .ref qu])), (qa, .inl (ca, 16, .inl f)), (qu, .inl (cu, 256, .inl g))] U.heap ∧ va_K (dC, dI) vwCl [(ca, .int), (cu, .boolean)] U ∧ va_D (fun _ => True) [(h0, .inr (4, [.ref qa, .ref qu])), (qa, .inl (ca, 16, .inl f)), (qu, .inl (cu, 256, .inl g))])) (va_Qv (fun (u : (Nat → Int32)) => match u with | (g2) => True) (fun (u : (Nat → Int32)) (t : State) => match u with | (g2) => va_P (dC, dI) vwCl [(h0, .inr (4, [.ref qa, .ref qu])), (qa, .inl (ca, 16, .inl f)), (qu, .inl (cu, 256, .inl g2))] t.heap ∧ va_K (dC, dI) vwCl [(ca, .int), (cu, .boolean)] t ∧ va_D (va_A [(h0, .inr (4, [.ref qa, .ref qu])), (qa, .inl (ca, 16, .inl f)), (qu, .inl (cu, 256, .inl g))] sz) [(h0, .inr (4, [.ref qa, .ref qu])), (qa, .inl (ca, 16, .inl f)), (qu, .inl (cu, 256, .inl g2))]) (va_A [(h0, .inr (4, [.ref qa, .ref qu])), (qa, .inl (ca, 16, .inl f)), (qu, .inl (cu, 256, .inl g))] sz)) 0 0 (va_A [(h0, .inr (4, [.ref qa, .ref qu])), (qa, .inl (ca, 16, .inl f)), (qu, .inl (cu, 256, .inl g))] sz) := by
  refine Met.ofW (cc := cX4_settle) (maxL := 4) (ret := none) (by decide) rfl ?_
  intro p e s m args below meth c s₁ B hml hv
  obtain ⟨rfl, hsz, hP, hK, hD0⟩ := hv
  have hx := B.exec
  have hb := B.bytes
  have hr := B.returns
  have hts := atoms_spec (ws := wsX4_settle) B.pre
  have hown : s.vm.findClass RX4 = some m.cls := findClass_of_methodNamed B.named
  have hlocks := B.notSynchronized
  subst hsz
  have hD := hD0.self (sz := s.heap.size)
  generalize hAe : va_A [(h0, .inr (4, [.ref qa, .ref qu])), (qa, .inl (ca, 16, .inl f)), (qu, .inl (cu, 256, .inl g))] s.heap.size = A at hD  ⊢
  have hA : ∀ q : Nat, s.heap.size ≤ q → A q := fun q h => by rw [← hAe]; exact Or.inr h
  have hP : va_P (dC, dI) vwCl [(h0, .inr (4, [.ref qa, .ref qu])), (qa, .inl (ca, 16, .inl f)), (qu, .inl (cu, 256, .inl g))] s.heap := hP
  have hl := lv_entry ([.ref h0]) (n := 4) (Nat.le_of_ble_eq_true rfl)
  rw [lg_entry_eq]
  generalize (lg_sl ([.ref h0]) ++ List.replicate (4 - (lg_sl ([.ref h0])).length) Slot.unset).toArray = ls at hl ⊢
  have hl : lv_has ls 4 [(0, .ref h0)] := hl
  obtain ⟨H, hH⟩ : ∃ H : Heap, s.heap = H := ⟨_, rfl⟩
  rw [hH] at hP ⊢
  have hS : va_S A s.heap H [] := by rw [← hH]; exact va_S.rf
  obtain ⟨locs, hlo⟩ : ∃ locs : List Loc, locs = [] := ⟨_, rfl⟩
  rw [← hlo] at hS ⊢
  refine lv_iconst (v := 0) hx hb dX4_settle_0 (by decide) ?_
  refine lv_istore_n (lv' := [(1, .int 0), (0, .ref h0)]) hx hb dX4_settle_1 rfl hl (by decide) rfl (fun ls hl => ?_)
  refine lp_settle0 hx hb hown hts hK ?_ 17 0 (by omega) (by omega) g H locs ls hP hD hS (lv_sub hl [0, 1] rfl)
  intro g2 H locs ls hP hD hS
  have hP9 := hP.sub (ws' := [(h0, .inr (4, [.ref qa, .ref qu])), (qa, .inl (ca, 16, .inl f)), (qu, .inl (cu, 256, .inl g2))]) [0, 1, 2] rfl
  have hD9 := hD.sub (ws' := [(h0, .inr (4, [.ref qa, .ref qu])), (qa, .inl (ca, 16, .inl f)), (qu, .inl (cu, 256, .inl g2))]) [0, 1, 2] (by decide) rfl
  have hK9 := hK.sub (tys' := [(ca, .int), (cu, .boolean)]) [0, 1] rfl
  exact W.vret hx hb hr (fun t ht hW => ⟨⟨(g2), rfl, trivial, by rw [ht]; exact hP9, va_K.moved hW.alike hK9, hD9⟩, hS.F ht⟩) hS.2.2 dX4_settle_85
def kinF (i : Nat) : Int32 := if i = 0 then -1 else if i = 1 then 0 else if i < 8 then 1 else -1
set_option maxHeartbeats 4000000 in
set_option maxRecDepth 100000 in
/-- Kin.forget: `above` holds what classes 0 to 7 extend -/
theorem ct_kforget (l : Launch) (dC : Nat → ClassId) (dI : Nat → Nat → Nat) (sz : Nat) (h0 qa qu : Nat) (ca cu : ClassId) (f g : Nat → Int32)  : Met l yX4_forget wsX4_forget ({ frames := 1, cells := 0, slots := 0, locals := 23 }) (va_Pc [.ref h0] (fun U => U.heap.size = sz ∧ va_P (dC, dI) vwCl [(h0, .inr (4, [.ref qa, .ref qu])), (qa, .inl (ca, 16, .inl f)), (qu, .inl (cu, 256, .inl g))] U.heap ∧ va_K (dC, dI) vwCl [(ca, .int), (cu, .boolean)] U ∧ va_D (fun _ => True) [(h0, .inr (4, [.ref qa, .ref qu])), (qa, .inl (ca, 16, .inl f)), (qu, .inl (cu, 256, .inl g))])) (va_Qv (fun (u : (Nat → Int32) × (Nat → Int32)) => match u with | (f2, g2) => (∀ i, i < 16 → f2 i = kinF i)) (fun (u : (Nat → Int32) × (Nat → Int32)) (t : State) => match u with | (f2, g2) => va_P (dC, dI) vwCl [(h0, .inr (4, [.ref qa, .ref qu])), (qa, .inl (ca, 16, .inl f2)), (qu, .inl (cu, 256, .inl g2))] t.heap ∧ va_K (dC, dI) vwCl [(ca, .int), (cu, .boolean)] t ∧ va_D (va_A [(h0, .inr (4, [.ref qa, .ref qu])), (qa, .inl (ca, 16, .inl f)), (qu, .inl (cu, 256, .inl g))] sz) [(h0, .inr (4, [.ref qa, .ref qu])), (qa, .inl (ca, 16, .inl f2)), (qu, .inl (cu, 256, .inl g2))]) (va_A [(h0, .inr (4, [.ref qa, .ref qu])), (qa, .inl (ca, 16, .inl f)), (qu, .inl (cu, 256, .inl g))] sz)) 0 0 (va_A [(h0, .inr (4, [.ref qa, .ref qu])), (qa, .inl (ca, 16, .inl f)), (qu, .inl (cu, 256, .inl g))] sz) := by
  refine Met.ofW (cc := cX4_forget) (maxL := 2) (ret := none) (by decide) rfl ?_
  intro p e s m args below meth c s₁ B hml hv
  obtain ⟨rfl, hsz, hP, hK, hD0⟩ := hv
  have hx := B.exec
  have hb := B.bytes
  have hr := B.returns
  have hts := atoms_spec (ws := wsX4_forget) B.pre
  have hown : s.vm.findClass RX4 = some m.cls := findClass_of_methodNamed B.named
  have hlocks := B.notSynchronized
  subst hsz
  have hD := hD0.self (sz := s.heap.size)
  generalize hAe : va_A [(h0, .inr (4, [.ref qa, .ref qu])), (qa, .inl (ca, 16, .inl f)), (qu, .inl (cu, 256, .inl g))] s.heap.size = A at hD  ⊢
  have hA : ∀ q : Nat, s.heap.size ≤ q → A q := fun q h => by rw [← hAe]; exact Or.inr h
  have hP : va_P (dC, dI) vwCl [(h0, .inr (4, [.ref qa, .ref qu])), (qa, .inl (ca, 16, .inl f)), (qu, .inl (cu, 256, .inl g))] s.heap := hP
  have hl := lv_entry ([.ref h0]) (n := 2) (Nat.le_of_ble_eq_true rfl)
  rw [lg_entry_eq]
  generalize (lg_sl ([.ref h0]) ++ List.replicate (2 - (lg_sl ([.ref h0])).length) Slot.unset).toArray = ls at hl ⊢
  have hl : lv_has ls 2 [(0, .ref h0)] := hl
  obtain ⟨H, hH⟩ : ∃ H : Heap, s.heap = H := ⟨_, rfl⟩
  rw [hH] at hP ⊢
  have hS : va_S A s.heap H [] := by rw [← hH]; exact va_S.rf
  obtain ⟨locs, hlo⟩ : ∃ locs : List Loc, locs = [] := ⟨_, rfl⟩
  rw [← hlo] at hS ⊢
  refine lv_aload_n hx hb dX4_forget_0 rfl (lv_at hl 0 rfl) ?_
  refine va_get (D := (dC, dI)) (ci := 4) (v := .ref qa) (C := RX4) (T := TX4) (N := 2) hx hb hts uX4_forget_X4 hown hK hP 0 rfl rfl 0 (by decide) (hts (.fieldLink RX4 11 "ClassMill$Kin" "above" "[I") (by decide +kernel)) (fun _ h9 => h9) rfl dX4_forget_1 ?_
  refine lv_iconst (v := (-1)) hx hb dX4_forget_4 (by decide) ?_
  have hPc := hP.sub (ws' := [(qa, .inl (ca, 16, .inl f))]) [1] rfl
  have hDc := hD.sub (ws' := [(qa, .inl (ca, 16, .inl f))]) [1] (by decide) rfl
  have hKc := hK.sub (tys' := [(ca, .int)]) [0] rfl
  have hFc := va_free (wc := [(qa, .inl (ca, 16, .inl f))]) hD hS hA [1] rfl
  refine va_callv (va_runS (As := [.ref qa, .int (-1)]) (rest := []) ⟨hx, hb, hml, hown, hts⟩ (ct_fill l dC dI H.size qa 16 ca f (-1) (by decide)) (va_cwS 2 hts gX4_forget_J7_fill_53178 rfl rfl rfl (by decide +kernel) ⟨Nat.le_of_ble_eq_true rfl, Nat.le_of_ble_eq_true rfl⟩) ⟨fun a U g mk q => by obtain ⟨q0, q1, qP, qK, qD⟩ := q; exact ⟨q0, q1, qP, va_K.moved (u := U) (U := U.calling g mk a) (Vm.Alike.refl U.vm) qK, qD⟩, fun U hU hW => ⟨rfl, by rw [hU], by rw [hU]; exact hPc, va_K.moved hW.alike hKc, hDc.weaken (fun _ _ _ _ => trivial)⟩⟩ rfl rfl hl.1 rfl (lv_room (Nat.le_of_ble_eq_true rfl)) dX4_forget_5 ⟨Nat.le_of_ble_eq_true rfl, Nat.le_of_ble_eq_true rfl⟩) hS (fun q _ h => hFc q h) hFc ?_
  clear hS
  intro u t H1 locs ht hvm hw hB hz1 hk1 hS
  obtain ⟨f_1, rfl⟩ : ∃ z, z = u := ⟨_, rfl⟩
  obtain ⟨hP1, hK1, hD1⟩ := hB
  rw [ht] at hP1
  have hK1 := va_K.moved hvm.symm hK1
  try dsimp only at hw
  have hPD := va_join (wr := [(h0, .inr (4, [.ref qa, .ref qu])), (qu, .inl (cu, 256, .inl g))]) (w1 := [(qa, .inl (ca, 16, .inl f_1))]) hP hD [1] [0, 2] rfl rfl (by decide) (by decide) hk1 hFc hP1 hD1
  clear hP hD
  obtain ⟨hP, hD⟩ := hPD
  replace hK := (hK.sub (tys' := [(cu, .boolean)]) [1] rfl).app hK1
  clear hPc hDc hKc hFc hP1 hK1 hD1 hz1 hk1 ht hvm
  generalize H1 = H at hP hS ⊢
  replace hP : va_P (dC, dI) vwCl [(h0, .inr (4, [.ref qa, .ref qu])), (qu, .inl (cu, 256, .inl g)), (qa, .inl (ca, 16, .inl f_1))] H := hP
  replace hD : va_D A [(h0, .inr (4, [.ref qa, .ref qu])), (qu, .inl (cu, 256, .inl g)), (qa, .inl (ca, 16, .inl f_1))] := hD
  replace hK : va_K (dC, dI) vwCl [(cu, .boolean), (ca, .int)] s := hK
  have hfill := hw
  replace hP := hP.sub (ws' := [(h0, .inr (4, [.ref qa, .ref qu])), (qa, .inl (ca, 16, .inl f_1)), (qu, .inl (cu, 256, .inl g))]) [0, 2, 1] rfl
  replace hD := hD.sub (ws' := [(h0, .inr (4, [.ref qa, .ref qu])), (qa, .inl (ca, 16, .inl f_1)), (qu, .inl (cu, 256, .inl g))]) [0, 2, 1] (by decide) rfl
  replace hK := hK.sub (tys' := [(ca, .int), (cu, .boolean)]) [1, 0] rfl
  refine lv_iconst (v := 1) hx hb dX4_forget_8 (by decide) ?_
  refine lv_istore_n (lv' := [(1, .int 1), (0, .ref h0)]) hx hb dX4_forget_9 rfl hl (by decide) rfl (fun ls hl => ?_)
  refine lv_iload_n hx hb dX4_forget_10 rfl (lv_at hl 0 rfl) ?_
  refine lv_bipush (v := 8) hx hb dX4_forget_11 (by decide) ?_
  refine lv_icmp_ge (tgt := 38) hx hb dX4_forget_13 (by decide) (fun c_2 => (show False by revert c_2; decide).elim) (fun c_2 => ?_)
  refine lv_aload_n hx hb dX4_forget_16 rfl (lv_at hl 1 rfl) ?_
  refine va_get (D := (dC, dI)) (ci := 4) (v := .ref qa) (C := RX4) (T := TX4) (N := 2) hx hb hts uX4_forget_X4 hown hK hP 0 rfl rfl 0 (by decide) (hts (.fieldLink RX4 11 "ClassMill$Kin" "above" "[I") (by decide +kernel)) (fun _ h9 => h9) rfl dX4_forget_17 ?_
  refine lv_iload_n hx hb dX4_forget_20 rfl (lv_at hl 0 rfl) ?_
  refine lv_iload_n hx hb dX4_forget_21 rfl (lv_at hl 0 rfl) ?_
  refine lv_iconst (v := 1) hx hb dX4_forget_22 (by decide) ?_
  refine lv_icmp_ne (tgt := 30) hx hb dX4_forget_23 (by decide) (fun c_3 => (show False by revert c_3; decide).elim) (fun c_3 => ?_)
  refine lv_iconst (v := 0) hx hb dX4_forget_26 (by decide) ?_
  refine lv_goto (tgt := 31) hx hb dX4_forget_27 (by decide) ?_
  refine va_iast hx hb hK hP hD hS 1 0 rfl rfl (i := 1) (x := 0) (by unfold vp_in; decide) dX4_forget_31 ?_
  clear hP hD hS
  intro H locs hP hD hS
  obtain ⟨f_4, ef_4⟩ : ∃ zf : Nat → Int32, zf = upd f_1 (1 : Int32).toNatClampNeg 0 := ⟨_, rfl⟩
  rw [← ef_4] at hP hD
  replace hP : va_P (dC, dI) vwCl [(h0, .inr (4, [.ref qa, .ref qu])), (qa, .inl (ca, 16, .inl f_4)), (qu, .inl (cu, 256, .inl g))] H := hP
  replace hD : va_D A [(h0, .inr (4, [.ref qa, .ref qu])), (qa, .inl (ca, 16, .inl f_4)), (qu, .inl (cu, 256, .inl g))] := hD
  refine lv_iinc (v := 2) (lv' := [(1, .int 2), (0, .ref h0)]) hx hb dX4_forget_32 hl (k := 0) rfl (by decide) (by decide) rfl (fun ls hl => ?_)
  refine lv_goto (tgt := 10) hx hb dX4_forget_35 (by decide) ?_
  refine lv_iload_n hx hb dX4_forget_10 rfl (lv_at hl 0 rfl) ?_
  refine lv_bipush (v := 8) hx hb dX4_forget_11 (by decide) ?_
  refine lv_icmp_ge (tgt := 38) hx hb dX4_forget_13 (by decide) (fun c_5 => (show False by revert c_5; decide).elim) (fun c_5 => ?_)
  refine lv_aload_n hx hb dX4_forget_16 rfl (lv_at hl 1 rfl) ?_
  refine va_get (D := (dC, dI)) (ci := 4) (v := .ref qa) (C := RX4) (T := TX4) (N := 2) hx hb hts uX4_forget_X4 hown hK hP 0 rfl rfl 0 (by decide) (hts (.fieldLink RX4 11 "ClassMill$Kin" "above" "[I") (by decide +kernel)) (fun _ h9 => h9) rfl dX4_forget_17 ?_
  refine lv_iload_n hx hb dX4_forget_20 rfl (lv_at hl 0 rfl) ?_
  refine lv_iload_n hx hb dX4_forget_21 rfl (lv_at hl 0 rfl) ?_
  refine lv_iconst (v := 1) hx hb dX4_forget_22 (by decide) ?_
  refine lv_icmp_ne (tgt := 30) hx hb dX4_forget_23 (by decide) (fun c_6 => ?_) (fun c_6 => (show False by revert c_6; decide).elim)
  refine lv_iconst (v := 1) hx hb dX4_forget_30 (by decide) ?_
  refine va_iast hx hb hK hP hD hS 1 0 rfl rfl (i := 2) (x := 1) (by unfold vp_in; decide) dX4_forget_31 ?_
  clear hP hD hS
  intro H locs hP hD hS
  obtain ⟨f_7, ef_7⟩ : ∃ zf : Nat → Int32, zf = upd f_4 (2 : Int32).toNatClampNeg 1 := ⟨_, rfl⟩
  rw [← ef_7] at hP hD
  replace hP : va_P (dC, dI) vwCl [(h0, .inr (4, [.ref qa, .ref qu])), (qa, .inl (ca, 16, .inl f_7)), (qu, .inl (cu, 256, .inl g))] H := hP
  replace hD : va_D A [(h0, .inr (4, [.ref qa, .ref qu])), (qa, .inl (ca, 16, .inl f_7)), (qu, .inl (cu, 256, .inl g))] := hD
  refine lv_iinc (v := 3) (lv' := [(1, .int 3), (0, .ref h0)]) hx hb dX4_forget_32 hl (k := 0) rfl (by decide) (by decide) rfl (fun ls hl => ?_)
  refine lv_goto (tgt := 10) hx hb dX4_forget_35 (by decide) ?_
  refine lv_iload_n hx hb dX4_forget_10 rfl (lv_at hl 0 rfl) ?_
  refine lv_bipush (v := 8) hx hb dX4_forget_11 (by decide) ?_
  refine lv_icmp_ge (tgt := 38) hx hb dX4_forget_13 (by decide) (fun c_8 => (show False by revert c_8; decide).elim) (fun c_8 => ?_)
  refine lv_aload_n hx hb dX4_forget_16 rfl (lv_at hl 1 rfl) ?_
  refine va_get (D := (dC, dI)) (ci := 4) (v := .ref qa) (C := RX4) (T := TX4) (N := 2) hx hb hts uX4_forget_X4 hown hK hP 0 rfl rfl 0 (by decide) (hts (.fieldLink RX4 11 "ClassMill$Kin" "above" "[I") (by decide +kernel)) (fun _ h9 => h9) rfl dX4_forget_17 ?_
  refine lv_iload_n hx hb dX4_forget_20 rfl (lv_at hl 0 rfl) ?_
  refine lv_iload_n hx hb dX4_forget_21 rfl (lv_at hl 0 rfl) ?_
  refine lv_iconst (v := 1) hx hb dX4_forget_22 (by decide) ?_
  refine lv_icmp_ne (tgt := 30) hx hb dX4_forget_23 (by decide) (fun c_9 => ?_) (fun c_9 => (show False by revert c_9; decide).elim)
  refine lv_iconst (v := 1) hx hb dX4_forget_30 (by decide) ?_
  refine va_iast hx hb hK hP hD hS 1 0 rfl rfl (i := 3) (x := 1) (by unfold vp_in; decide) dX4_forget_31 ?_
  clear hP hD hS
  intro H locs hP hD hS
  obtain ⟨f_10, ef_10⟩ : ∃ zf : Nat → Int32, zf = upd f_7 (3 : Int32).toNatClampNeg 1 := ⟨_, rfl⟩
  rw [← ef_10] at hP hD
  replace hP : va_P (dC, dI) vwCl [(h0, .inr (4, [.ref qa, .ref qu])), (qa, .inl (ca, 16, .inl f_10)), (qu, .inl (cu, 256, .inl g))] H := hP
  replace hD : va_D A [(h0, .inr (4, [.ref qa, .ref qu])), (qa, .inl (ca, 16, .inl f_10)), (qu, .inl (cu, 256, .inl g))] := hD
  refine lv_iinc (v := 4) (lv' := [(1, .int 4), (0, .ref h0)]) hx hb dX4_forget_32 hl (k := 0) rfl (by decide) (by decide) rfl (fun ls hl => ?_)
  refine lv_goto (tgt := 10) hx hb dX4_forget_35 (by decide) ?_
  refine lv_iload_n hx hb dX4_forget_10 rfl (lv_at hl 0 rfl) ?_
  refine lv_bipush (v := 8) hx hb dX4_forget_11 (by decide) ?_
  refine lv_icmp_ge (tgt := 38) hx hb dX4_forget_13 (by decide) (fun c_11 => (show False by revert c_11; decide).elim) (fun c_11 => ?_)
  refine lv_aload_n hx hb dX4_forget_16 rfl (lv_at hl 1 rfl) ?_
  refine va_get (D := (dC, dI)) (ci := 4) (v := .ref qa) (C := RX4) (T := TX4) (N := 2) hx hb hts uX4_forget_X4 hown hK hP 0 rfl rfl 0 (by decide) (hts (.fieldLink RX4 11 "ClassMill$Kin" "above" "[I") (by decide +kernel)) (fun _ h9 => h9) rfl dX4_forget_17 ?_
  refine lv_iload_n hx hb dX4_forget_20 rfl (lv_at hl 0 rfl) ?_
  refine lv_iload_n hx hb dX4_forget_21 rfl (lv_at hl 0 rfl) ?_
  refine lv_iconst (v := 1) hx hb dX4_forget_22 (by decide) ?_
  refine lv_icmp_ne (tgt := 30) hx hb dX4_forget_23 (by decide) (fun c_12 => ?_) (fun c_12 => (show False by revert c_12; decide).elim)
  refine lv_iconst (v := 1) hx hb dX4_forget_30 (by decide) ?_
  refine va_iast hx hb hK hP hD hS 1 0 rfl rfl (i := 4) (x := 1) (by unfold vp_in; decide) dX4_forget_31 ?_
  clear hP hD hS
  intro H locs hP hD hS
  obtain ⟨f_13, ef_13⟩ : ∃ zf : Nat → Int32, zf = upd f_10 (4 : Int32).toNatClampNeg 1 := ⟨_, rfl⟩
  rw [← ef_13] at hP hD
  replace hP : va_P (dC, dI) vwCl [(h0, .inr (4, [.ref qa, .ref qu])), (qa, .inl (ca, 16, .inl f_13)), (qu, .inl (cu, 256, .inl g))] H := hP
  replace hD : va_D A [(h0, .inr (4, [.ref qa, .ref qu])), (qa, .inl (ca, 16, .inl f_13)), (qu, .inl (cu, 256, .inl g))] := hD
  refine lv_iinc (v := 5) (lv' := [(1, .int 5), (0, .ref h0)]) hx hb dX4_forget_32 hl (k := 0) rfl (by decide) (by decide) rfl (fun ls hl => ?_)
  refine lv_goto (tgt := 10) hx hb dX4_forget_35 (by decide) ?_
  refine lv_iload_n hx hb dX4_forget_10 rfl (lv_at hl 0 rfl) ?_
  refine lv_bipush (v := 8) hx hb dX4_forget_11 (by decide) ?_
  refine lv_icmp_ge (tgt := 38) hx hb dX4_forget_13 (by decide) (fun c_14 => (show False by revert c_14; decide).elim) (fun c_14 => ?_)
  refine lv_aload_n hx hb dX4_forget_16 rfl (lv_at hl 1 rfl) ?_
  refine va_get (D := (dC, dI)) (ci := 4) (v := .ref qa) (C := RX4) (T := TX4) (N := 2) hx hb hts uX4_forget_X4 hown hK hP 0 rfl rfl 0 (by decide) (hts (.fieldLink RX4 11 "ClassMill$Kin" "above" "[I") (by decide +kernel)) (fun _ h9 => h9) rfl dX4_forget_17 ?_
  refine lv_iload_n hx hb dX4_forget_20 rfl (lv_at hl 0 rfl) ?_
  refine lv_iload_n hx hb dX4_forget_21 rfl (lv_at hl 0 rfl) ?_
  refine lv_iconst (v := 1) hx hb dX4_forget_22 (by decide) ?_
  refine lv_icmp_ne (tgt := 30) hx hb dX4_forget_23 (by decide) (fun c_15 => ?_) (fun c_15 => (show False by revert c_15; decide).elim)
  refine lv_iconst (v := 1) hx hb dX4_forget_30 (by decide) ?_
  refine va_iast hx hb hK hP hD hS 1 0 rfl rfl (i := 5) (x := 1) (by unfold vp_in; decide) dX4_forget_31 ?_
  clear hP hD hS
  intro H locs hP hD hS
  obtain ⟨f_16, ef_16⟩ : ∃ zf : Nat → Int32, zf = upd f_13 (5 : Int32).toNatClampNeg 1 := ⟨_, rfl⟩
  rw [← ef_16] at hP hD
  replace hP : va_P (dC, dI) vwCl [(h0, .inr (4, [.ref qa, .ref qu])), (qa, .inl (ca, 16, .inl f_16)), (qu, .inl (cu, 256, .inl g))] H := hP
  replace hD : va_D A [(h0, .inr (4, [.ref qa, .ref qu])), (qa, .inl (ca, 16, .inl f_16)), (qu, .inl (cu, 256, .inl g))] := hD
  refine lv_iinc (v := 6) (lv' := [(1, .int 6), (0, .ref h0)]) hx hb dX4_forget_32 hl (k := 0) rfl (by decide) (by decide) rfl (fun ls hl => ?_)
  refine lv_goto (tgt := 10) hx hb dX4_forget_35 (by decide) ?_
  refine lv_iload_n hx hb dX4_forget_10 rfl (lv_at hl 0 rfl) ?_
  refine lv_bipush (v := 8) hx hb dX4_forget_11 (by decide) ?_
  refine lv_icmp_ge (tgt := 38) hx hb dX4_forget_13 (by decide) (fun c_17 => (show False by revert c_17; decide).elim) (fun c_17 => ?_)
  refine lv_aload_n hx hb dX4_forget_16 rfl (lv_at hl 1 rfl) ?_
  refine va_get (D := (dC, dI)) (ci := 4) (v := .ref qa) (C := RX4) (T := TX4) (N := 2) hx hb hts uX4_forget_X4 hown hK hP 0 rfl rfl 0 (by decide) (hts (.fieldLink RX4 11 "ClassMill$Kin" "above" "[I") (by decide +kernel)) (fun _ h9 => h9) rfl dX4_forget_17 ?_
  refine lv_iload_n hx hb dX4_forget_20 rfl (lv_at hl 0 rfl) ?_
  refine lv_iload_n hx hb dX4_forget_21 rfl (lv_at hl 0 rfl) ?_
  refine lv_iconst (v := 1) hx hb dX4_forget_22 (by decide) ?_
  refine lv_icmp_ne (tgt := 30) hx hb dX4_forget_23 (by decide) (fun c_18 => ?_) (fun c_18 => (show False by revert c_18; decide).elim)
  refine lv_iconst (v := 1) hx hb dX4_forget_30 (by decide) ?_
  refine va_iast hx hb hK hP hD hS 1 0 rfl rfl (i := 6) (x := 1) (by unfold vp_in; decide) dX4_forget_31 ?_
  clear hP hD hS
  intro H locs hP hD hS
  obtain ⟨f_19, ef_19⟩ : ∃ zf : Nat → Int32, zf = upd f_16 (6 : Int32).toNatClampNeg 1 := ⟨_, rfl⟩
  rw [← ef_19] at hP hD
  replace hP : va_P (dC, dI) vwCl [(h0, .inr (4, [.ref qa, .ref qu])), (qa, .inl (ca, 16, .inl f_19)), (qu, .inl (cu, 256, .inl g))] H := hP
  replace hD : va_D A [(h0, .inr (4, [.ref qa, .ref qu])), (qa, .inl (ca, 16, .inl f_19)), (qu, .inl (cu, 256, .inl g))] := hD
  refine lv_iinc (v := 7) (lv' := [(1, .int 7), (0, .ref h0)]) hx hb dX4_forget_32 hl (k := 0) rfl (by decide) (by decide) rfl (fun ls hl => ?_)
  refine lv_goto (tgt := 10) hx hb dX4_forget_35 (by decide) ?_
  refine lv_iload_n hx hb dX4_forget_10 rfl (lv_at hl 0 rfl) ?_
  refine lv_bipush (v := 8) hx hb dX4_forget_11 (by decide) ?_
  refine lv_icmp_ge (tgt := 38) hx hb dX4_forget_13 (by decide) (fun c_20 => (show False by revert c_20; decide).elim) (fun c_20 => ?_)
  refine lv_aload_n hx hb dX4_forget_16 rfl (lv_at hl 1 rfl) ?_
  refine va_get (D := (dC, dI)) (ci := 4) (v := .ref qa) (C := RX4) (T := TX4) (N := 2) hx hb hts uX4_forget_X4 hown hK hP 0 rfl rfl 0 (by decide) (hts (.fieldLink RX4 11 "ClassMill$Kin" "above" "[I") (by decide +kernel)) (fun _ h9 => h9) rfl dX4_forget_17 ?_
  refine lv_iload_n hx hb dX4_forget_20 rfl (lv_at hl 0 rfl) ?_
  refine lv_iload_n hx hb dX4_forget_21 rfl (lv_at hl 0 rfl) ?_
  refine lv_iconst (v := 1) hx hb dX4_forget_22 (by decide) ?_
  refine lv_icmp_ne (tgt := 30) hx hb dX4_forget_23 (by decide) (fun c_21 => ?_) (fun c_21 => (show False by revert c_21; decide).elim)
  refine lv_iconst (v := 1) hx hb dX4_forget_30 (by decide) ?_
  refine va_iast hx hb hK hP hD hS 1 0 rfl rfl (i := 7) (x := 1) (by unfold vp_in; decide) dX4_forget_31 ?_
  clear hP hD hS
  intro H locs hP hD hS
  obtain ⟨f_22, ef_22⟩ : ∃ zf : Nat → Int32, zf = upd f_19 (7 : Int32).toNatClampNeg 1 := ⟨_, rfl⟩
  rw [← ef_22] at hP hD
  replace hP : va_P (dC, dI) vwCl [(h0, .inr (4, [.ref qa, .ref qu])), (qa, .inl (ca, 16, .inl f_22)), (qu, .inl (cu, 256, .inl g))] H := hP
  replace hD : va_D A [(h0, .inr (4, [.ref qa, .ref qu])), (qa, .inl (ca, 16, .inl f_22)), (qu, .inl (cu, 256, .inl g))] := hD
  refine lv_iinc (v := 8) (lv' := [(1, .int 8), (0, .ref h0)]) hx hb dX4_forget_32 hl (k := 0) rfl (by decide) (by decide) rfl (fun ls hl => ?_)
  refine lv_goto (tgt := 10) hx hb dX4_forget_35 (by decide) ?_
  refine lv_iload_n hx hb dX4_forget_10 rfl (lv_at hl 0 rfl) ?_
  refine lv_bipush (v := 8) hx hb dX4_forget_11 (by decide) ?_
  refine lv_icmp_ge (tgt := 38) hx hb dX4_forget_13 (by decide) (fun c_23 => ?_) (fun c_23 => (show False by revert c_23; decide).elim)
  have hff : ∀ i, i < 16 → f_22 i = kinF i := by
    intro i hi
    have h16 : i = 0 ∨ i = 1 ∨ i = 2 ∨ i = 3 ∨ i = 4 ∨ i = 5 ∨ i = 6 ∨ i = 7 ∨ 8 ≤ i := by omega
    have hm : f_1 i = -1 := hfill i hi
    rcases h16 with rfl | rfl | rfl | rfl | rfl | rfl | rfl | rfl | h8
    all_goals simp only [ef_22, ef_19, ef_16, ef_13, ef_10, ef_7, ef_4, upd, kinF, show ((1 : Int32)).toNatClampNeg = 1 from rfl, show ((2 : Int32)).toNatClampNeg = 2 from rfl, show ((3 : Int32)).toNatClampNeg = 3 from rfl, show ((4 : Int32)).toNatClampNeg = 4 from rfl, show ((5 : Int32)).toNatClampNeg = 5 from rfl, show ((6 : Int32)).toNatClampNeg = 6 from rfl, show ((7 : Int32)).toNatClampNeg = 7 from rfl]
    case inr.inr.inr.inr.inr.inr.inr.inr => rw [if_neg (by omega), if_neg (by omega), if_neg (by omega), if_neg (by omega), if_neg (by omega), if_neg (by omega), if_neg (by omega), hm, if_neg (by omega), if_neg (by omega), if_neg (by omega)]
    all_goals first | rfl | (simp; done) | (simp [hm]; done)
  refine lv_aload_n hx hb dX4_forget_38 rfl (lv_at hl 1 rfl) ?_
  have hPc := hP.sub (ws' := [(h0, .inr (4, [.ref qa, .ref qu])), (qa, .inl (ca, 16, .inl f_22)), (qu, .inl (cu, 256, .inl g))]) [0, 1, 2] rfl
  have hDc := hD.sub (ws' := [(h0, .inr (4, [.ref qa, .ref qu])), (qa, .inl (ca, 16, .inl f_22)), (qu, .inl (cu, 256, .inl g))]) [0, 1, 2] (by decide) rfl
  have hKc := hK.sub (tys' := [(ca, .int), (cu, .boolean)]) [0, 1] rfl
  have hFc := va_free (wc := [(h0, .inr (4, [.ref qa, .ref qu])), (qa, .inl (ca, 16, .inl f_22)), (qu, .inl (cu, 256, .inl g))]) hD hS hA [0, 1, 2] rfl
  refine va_callv (va_runV (As := []) (rest := []) ⟨hx, hb, hml, hown, hts⟩ (ct_settle l dC dI H.size h0 qa qu ca cu f_22 g) (cwV 0 hts gX4_forget_X4_settle rfl rfl rfl (by decide +kernel) ⟨Nat.le_of_ble_eq_true rfl, Nat.le_of_ble_eq_true rfl⟩) ⟨fun a U g mk q => by obtain ⟨q0, q1, qP, qK, qD⟩ := q; exact ⟨q0, q1, qP, va_K.moved (u := U) (U := U.calling g mk a) (Vm.Alike.refl U.vm) qK, qD⟩, va_recv hKc hPc (ci := 4) (q0 := 0) rfl rfl, fun U hU hW => ⟨rfl, by rw [hU], by rw [hU]; exact hPc, va_K.moved hW.alike hKc, hDc.weaken (fun _ _ _ _ => trivial)⟩⟩ rfl rfl hl.1 rfl (lv_room (Nat.le_of_ble_eq_true rfl)) dX4_forget_39 ⟨Nat.le_of_ble_eq_true rfl, Nat.le_of_ble_eq_true rfl⟩) hS (fun q _ h => hFc q h) hFc ?_
  clear hS
  intro u t H1 locs ht hvm hw hB hz1 hk1 hS
  obtain ⟨g_24, rfl⟩ : ∃ z, z = u := ⟨_, rfl⟩
  obtain ⟨hP1, hK1, hD1⟩ := hB
  rw [ht] at hP1
  have hK1 := va_K.moved hvm.symm hK1
  try dsimp only at hw
  have hPD := va_join (wr := []) (w1 := [(h0, .inr (4, [.ref qa, .ref qu])), (qa, .inl (ca, 16, .inl f_22)), (qu, .inl (cu, 256, .inl g_24))]) hP hD [0, 1, 2] [] rfl rfl (by decide) (by decide) hk1 hFc hP1 hD1
  clear hP hD
  obtain ⟨hP, hD⟩ := hPD
  replace hK := (hK.sub (tys' := []) [] rfl).app hK1
  clear hPc hDc hKc hFc hP1 hK1 hD1 hz1 hk1 ht hvm
  generalize H1 = H at hP hS ⊢
  replace hP : va_P (dC, dI) vwCl [(h0, .inr (4, [.ref qa, .ref qu])), (qa, .inl (ca, 16, .inl f_22)), (qu, .inl (cu, 256, .inl g_24))] H := hP
  replace hD : va_D A [(h0, .inr (4, [.ref qa, .ref qu])), (qa, .inl (ca, 16, .inl f_22)), (qu, .inl (cu, 256, .inl g_24))] := hD
  replace hK : va_K (dC, dI) vwCl [(ca, .int), (cu, .boolean)] s := hK
  have hP9 := hP.sub (ws' := [(h0, .inr (4, [.ref qa, .ref qu])), (qa, .inl (ca, 16, .inl f_22)), (qu, .inl (cu, 256, .inl g_24))]) [0, 1, 2] rfl
  have hD9 := hD.sub (ws' := [(h0, .inr (4, [.ref qa, .ref qu])), (qa, .inl (ca, 16, .inl f_22)), (qu, .inl (cu, 256, .inl g_24))]) [0, 1, 2] (by decide) rfl
  have hK9 := hK.sub (tys' := [(ca, .int), (cu, .boolean)]) [0, 1] rfl
  exact W.vret hx hb hr (fun t ht hW => ⟨⟨(f_22, g_24), rfl, hff, by rw [ht]; exact hP9, va_K.moved hW.alike hK9, hD9⟩, hS.F ht⟩) hS.2.2 dX4_forget_42
set_option maxHeartbeats 4000000 in
set_option maxRecDepth 100000 in
/-- Kin() -/
theorem ct_kinit (l : Launch) (dC : Nat → ClassId) (dI : Nat → Nat → Nat) (sz : Nat) (h0 : Nat)  : Met l yX4_init wsX4_init ({ frames := 2, cells := 2, slots := 272, locals := 44 }) (va_Pc [.ref h0] (fun U => U.heap.size = sz ∧ va_P (dC, dI) vwCl [(h0, .inr (4, [.null, .null]))] U.heap ∧ va_K (dC, dI) vwCl [] U ∧ va_D (fun _ => True) [(h0, .inr (4, [.null, .null]))])) (va_Qv (fun (u : Nat × Nat × ClassId × ClassId × (Nat → Int32) × (Nat → Int32)) => match u with | (qa, qu, ca, cu, f2, g2) => (∀ i, i < 16 → f2 i = kinF i)) (fun (u : Nat × Nat × ClassId × ClassId × (Nat → Int32) × (Nat → Int32)) (t : State) => match u with | (qa, qu, ca, cu, f2, g2) => va_P (dC, dI) vwCl [(h0, .inr (4, [.ref qa, .ref qu])), (qa, .inl (ca, 16, .inl f2)), (qu, .inl (cu, 256, .inl g2))] t.heap ∧ va_K (dC, dI) vwCl [(ca, .int), (cu, .boolean)] t ∧ va_D (va_A [(h0, .inr (4, [.null, .null]))] sz) [(h0, .inr (4, [.ref qa, .ref qu])), (qa, .inl (ca, 16, .inl f2)), (qu, .inl (cu, 256, .inl g2))]) (va_A [(h0, .inr (4, [.null, .null]))] sz)) 2 272 (va_A [(h0, .inr (4, [.null, .null]))] sz) := by
  refine Met.ofW (cc := cX4_init) (maxL := 1) (ret := none) (by decide) rfl ?_
  intro p e s m args below meth c s₁ B hml hv
  obtain ⟨rfl, hsz, hP, hK, hD0⟩ := hv
  have hx := B.exec
  have hb := B.bytes
  have hr := B.returns
  have hts := atoms_spec (ws := wsX4_init) B.pre
  have hown : s.vm.findClass RX4 = some m.cls := findClass_of_methodNamed B.named
  have hlocks := B.notSynchronized
  have hin : meth.name = "<init>" := (name_of_methodNamed B.named B.method).1
  subst hsz
  have hD := hD0.self (sz := s.heap.size)
  generalize hAe : va_A [(h0, .inr (4, [.null, .null]))] s.heap.size = A at hD  ⊢
  have hA : ∀ q : Nat, s.heap.size ≤ q → A q := fun q h => by rw [← hAe]; exact Or.inr h
  have hP : va_P (dC, dI) vwCl [(h0, .inr (4, [.null, .null]))] s.heap := hP
  have hl := lv_entry ([.ref h0]) (n := 1) (Nat.le_of_ble_eq_true rfl)
  rw [lg_entry_eq]
  generalize (lg_sl ([.ref h0]) ++ List.replicate (1 - (lg_sl ([.ref h0])).length) Slot.unset).toArray = ls at hl ⊢
  have hl : lv_has ls 1 [(0, .ref h0)] := hl
  obtain ⟨H, hH⟩ : ∃ H : Heap, s.heap = H := ⟨_, rfl⟩
  rw [hH] at hP ⊢
  have hS : va_S A s.heap H [] := by rw [← hH]; exact va_S.rf
  obtain ⟨locs, hlo⟩ : ∃ locs : List Loc, locs = [] := ⟨_, rfl⟩
  rw [← hlo] at hS ⊢
  refine lv_aload_n hx hb dX4_init_0 rfl (lv_at hl 0 rfl) ?_
  refine W.objInit hx hb hown (hts (.methodLink RX4 3 objectInit) (by decide +kernel)) (hts (.instanceMethod objectInit) (by decide +kernel)) (hts (.code objectInit ⟨#[0xb1]⟩ 1 none) (by decide +kernel)) rfl (by rw [hml]; exact hl.1) rfl dX4_init_1 (Nat.le_of_ble_eq_true rfl) (Nat.le_of_ble_eq_true rfl) ?_
  refine W.eq (g2 := F0 m 4 ls []) rfl ?_
  refine lv_aload_n hx hb dX4_init_4 rfl (lv_at hl 0 rfl) ?_
  refine lv_bipush (v := 16) hx hb dX4_init_5 (by decide) ?_
  refine va_newa (atype := .int) (ty := .int) (N' := 16) (a0 := (16, .inl (fun _ => 0))) hx hb (hts (.arrayClass .int) (by decide +kernel)) rfl hK hP hD hS hA (fun _ => rfl) (by decide) (by decide) (by decide) (Nat.le_of_ble_eq_true rfl) (Nat.le_of_ble_eq_true rfl) dX4_init_7 ?_
  clear hK hP hD hS
  intro q_1 cq_1 H hK hP hD hS
  refine W.widen (k := 1) (n := 16) (Nat.le_of_ble_eq_true rfl) (Nat.le_of_ble_eq_true rfl) ?_
  replace hK : va_K (dC, dI) vwCl [(cq_1, .int)] s := hK
  replace hP : va_P (dC, dI) vwCl [(h0, .inr (4, [.null, .null])), (q_1, .inl (cq_1, 16, .inl (fun _ => 0)))] H := hP
  replace hD : va_D A [(h0, .inr (4, [.null, .null])), (q_1, .inl (cq_1, 16, .inl (fun _ => 0)))] := hD
  refine va_putF (D := (dC, dI)) (ci := 4) (v := .ref q_1) (ty := .array .int) (C := RX4) (T := TX4) (N := 2) hx hb hts uX4_init_X4 tyX4 tyX4_ok nmX4 hown hK hP hD hS 0 rfl rfl 0 (by decide) (hts (.fieldLink RX4 11 "ClassMill$Kin" "above" "[I") (by decide +kernel)) (fun _ h9 => h9) rfl hin rfl (by decide +kernel) rfl rfl (Nat.le_of_ble_eq_true rfl) dX4_init_9 ?_
  clear hP hD hS
  intro H locs hP hD hS
  replace hP : va_P (dC, dI) vwCl [(h0, .inr (4, [.ref q_1, .null])), (q_1, .inl (cq_1, 16, .inl (fun _ => 0)))] H := hP
  replace hD : va_D A [(h0, .inr (4, [.ref q_1, .null])), (q_1, .inl (cq_1, 16, .inl (fun _ => 0)))] := hD
  refine lv_aload_n hx hb dX4_init_12 rfl (lv_at hl 0 rfl) ?_
  refine lv_sipush (v := 256) hx hb dX4_init_13 (by decide) ?_
  refine va_newa (atype := .boolean) (ty := .boolean) (N' := 256) (a0 := (256, .inl (fun _ => 0))) hx hb (hts (.arrayClass .boolean) (by decide +kernel)) rfl hK hP hD hS hA (fun _ => rfl) (by decide) (by decide) (by decide) (Nat.le_of_ble_eq_true rfl) (Nat.le_of_ble_eq_true rfl) dX4_init_16 ?_
  clear hK hP hD hS
  intro q_2 cq_2 H hK hP hD hS
  refine W.widen (k := 2) (n := 272) (Nat.le_of_ble_eq_true rfl) (Nat.le_of_ble_eq_true rfl) ?_
  replace hK : va_K (dC, dI) vwCl [(cq_1, .int), (cq_2, .boolean)] s := hK
  replace hP : va_P (dC, dI) vwCl [(h0, .inr (4, [.ref q_1, .null])), (q_1, .inl (cq_1, 16, .inl (fun _ => 0))), (q_2, .inl (cq_2, 256, .inl (fun _ => 0)))] H := hP
  replace hD : va_D A [(h0, .inr (4, [.ref q_1, .null])), (q_1, .inl (cq_1, 16, .inl (fun _ => 0))), (q_2, .inl (cq_2, 256, .inl (fun _ => 0)))] := hD
  refine va_putF (D := (dC, dI)) (ci := 4) (v := .ref q_2) (ty := .array .boolean) (C := RX4) (T := TX4) (N := 2) hx hb hts uX4_init_X4 tyX4 tyX4_ok nmX4 hown hK hP hD hS 0 rfl rfl 1 (by decide) (hts (.fieldLink RX4 15 "ClassMill$Kin" "under" "[Z") (by decide +kernel)) (fun _ h9 => h9) rfl hin rfl (by decide +kernel) rfl rfl (Nat.le_of_ble_eq_true rfl) dX4_init_18 ?_
  clear hP hD hS
  intro H locs hP hD hS
  replace hP : va_P (dC, dI) vwCl [(h0, .inr (4, [.ref q_1, .ref q_2])), (q_1, .inl (cq_1, 16, .inl (fun _ => 0))), (q_2, .inl (cq_2, 256, .inl (fun _ => 0)))] H := hP
  replace hD : va_D A [(h0, .inr (4, [.ref q_1, .ref q_2])), (q_1, .inl (cq_1, 16, .inl (fun _ => 0))), (q_2, .inl (cq_2, 256, .inl (fun _ => 0)))] := hD
  refine lv_aload_n hx hb dX4_init_21 rfl (lv_at hl 0 rfl) ?_
  have hPc := hP.sub (ws' := [(h0, .inr (4, [.ref q_1, .ref q_2])), (q_1, .inl (cq_1, 16, .inl (fun _ => 0))), (q_2, .inl (cq_2, 256, .inl (fun _ => 0)))]) [0, 1, 2] rfl
  have hDc := hD.sub (ws' := [(h0, .inr (4, [.ref q_1, .ref q_2])), (q_1, .inl (cq_1, 16, .inl (fun _ => 0))), (q_2, .inl (cq_2, 256, .inl (fun _ => 0)))]) [0, 1, 2] (by decide) rfl
  have hKc := hK.sub (tys' := [(cq_1, .int), (cq_2, .boolean)]) [0, 1] rfl
  have hFc := va_free (wc := [(h0, .inr (4, [.ref q_1, .ref q_2])), (q_1, .inl (cq_1, 16, .inl (fun _ => 0))), (q_2, .inl (cq_2, 256, .inl (fun _ => 0)))]) hD hS hA [0, 1, 2] rfl
  refine va_callv (va_runV (As := []) (rest := []) ⟨hx, hb, hml, hown, hts⟩ (ct_kforget l dC dI H.size h0 q_1 q_2 cq_1 cq_2 ((fun _ => 0)) ((fun _ => 0))) (cwV 0 hts gX4_init_X4_forget rfl rfl rfl (by decide +kernel) ⟨Nat.le_of_ble_eq_true rfl, Nat.le_of_ble_eq_true rfl⟩) ⟨fun a U g mk q => by obtain ⟨q0, q1, qP, qK, qD⟩ := q; exact ⟨q0, q1, qP, va_K.moved (u := U) (U := U.calling g mk a) (Vm.Alike.refl U.vm) qK, qD⟩, va_recv hKc hPc (ci := 4) (q0 := 0) rfl rfl, fun U hU hW => ⟨rfl, by rw [hU], by rw [hU]; exact hPc, va_K.moved hW.alike hKc, hDc.weaken (fun _ _ _ _ => trivial)⟩⟩ rfl rfl hl.1 rfl (lv_room (Nat.le_of_ble_eq_true rfl)) dX4_init_22 ⟨Nat.le_of_ble_eq_true rfl, Nat.le_of_ble_eq_true rfl⟩) hS (fun q _ h => hFc q h) hFc ?_
  clear hS
  intro u t H1 locs ht hvm hw hB hz1 hk1 hS
  obtain ⟨f_3, g_4⟩ := u
  obtain ⟨hP1, hK1, hD1⟩ := hB
  rw [ht] at hP1
  have hK1 := va_K.moved hvm.symm hK1
  try dsimp only at hw
  have hPD := va_join (wr := []) (w1 := [(h0, .inr (4, [.ref q_1, .ref q_2])), (q_1, .inl (cq_1, 16, .inl f_3)), (q_2, .inl (cq_2, 256, .inl g_4))]) hP hD [0, 1, 2] [] rfl rfl (by decide) (by decide) hk1 hFc hP1 hD1
  clear hP hD
  obtain ⟨hP, hD⟩ := hPD
  replace hK := (hK.sub (tys' := []) [] rfl).app hK1
  clear hPc hDc hKc hFc hP1 hK1 hD1 hz1 hk1 ht hvm
  generalize H1 = H at hP hS ⊢
  replace hP : va_P (dC, dI) vwCl [(h0, .inr (4, [.ref q_1, .ref q_2])), (q_1, .inl (cq_1, 16, .inl f_3)), (q_2, .inl (cq_2, 256, .inl g_4))] H := hP
  replace hD : va_D A [(h0, .inr (4, [.ref q_1, .ref q_2])), (q_1, .inl (cq_1, 16, .inl f_3)), (q_2, .inl (cq_2, 256, .inl g_4))] := hD
  replace hK : va_K (dC, dI) vwCl [(cq_1, .int), (cq_2, .boolean)] s := hK
  have hP9 := hP.sub (ws' := [(h0, .inr (4, [.ref q_1, .ref q_2])), (q_1, .inl (cq_1, 16, .inl f_3)), (q_2, .inl (cq_2, 256, .inl g_4))]) [0, 1, 2] rfl
  have hD9 := hD.sub (ws' := [(h0, .inr (4, [.ref q_1, .ref q_2])), (q_1, .inl (cq_1, 16, .inl f_3)), (q_2, .inl (cq_2, 256, .inl g_4))]) [0, 1, 2] (by decide) rfl
  have hK9 := hK.sub (tys' := [(cq_1, .int), (cq_2, .boolean)]) [0, 1] rfl
  exact W.vret hx hb hr (fun t ht hW => ⟨⟨(q_1, q_2, cq_1, cq_2, f_3, g_4), rfl, hw, by rw [ht]; exact hP9, va_K.moved hW.alike hK9, hD9⟩, hS.F ht⟩) hS.2.2 dX4_init_25

set_option maxHeartbeats 4000000 in
set_option maxRecDepth 100000 in
theorem lp_settle1 {p : Program} {l : Launch} {e : Env} {R : Room} {s : State} {m : MethodId} {args : Array Value} {below : List Frame} {meth : Method} {c : Code} {cells slots : Nat} {Q : State → Prop} {A : Nat → Prop} {H0 : Heap} {dC : Nat → ClassId} {dI : Nat → Nat → Nat} (hx : p.tables.exec = Jvm.exec) (hb : c.code = cX4_settle) (hown : s.vm.findClass RX4 = some m.cls) (hts : ∀ w ∈ wsX4_settle, w.before args s = true) {h0 qa qu : Nat} {ca cu : ClassId} {f : Nat → Int32} (hK : va_K (dC, dI) vwCl [(ca, .int), (cu, .boolean)] s) (i : Nat) (hi : i < 16) (kk : ∀ (g : Nat → Int32) (H : Heap) (locs : List Loc) (ls : Array Slot), va_P (dC, dI) vwCl [(h0, .inr (4, [.ref qa, .ref qu])), (qa, .inl (ca, 16, .inl f)), (qu, .inl (cu, 256, .inl g))] H → va_D A [(h0, .inr (4, [.ref qa, .ref qu])), (qa, .inl (ca, 16, .inl f)), (qu, .inl (cu, 256, .inl g))] → va_S A H0 H locs → lv_has ls 4 [(1, .int (nI i)), (0, .ref h0)] → W p l e R s m args below meth c H locs cells slots Q (F0 m 34 ls [])) : ∀ (n j : Nat), j ≤ 16 → 16 - j < n → ∀ (g : Nat → Int32) (H : Heap) (locs : List Loc) (ls : Array Slot), va_P (dC, dI) vwCl [(h0, .inr (4, [.ref qa, .ref qu])), (qa, .inl (ca, 16, .inl f)), (qu, .inl (cu, 256, .inl g))] H → va_D A [(h0, .inr (4, [.ref qa, .ref qu])), (qa, .inl (ca, 16, .inl f)), (qu, .inl (cu, 256, .inl g))] → va_S A H0 H locs → lv_has ls 4 [(2, .int (nI j)), (1, .int (nI i)), (0, .ref h0)] → W p l e R s m args below meth c H locs cells slots Q (F0 m 10 ls []) := by
  intro n
  induction n with
  | zero => intro j h1 h2; exact absurd h2 (by omega)
  | succ n ih =>
    intro j hj hn g H locs ls hP hD hS hl
    refine lv_iload_n hx hb dX4_settle_10 rfl (lv_at hl 0 rfl) ?_
    refine lv_bipush (v := 16) hx hb dX4_settle_11 (by decide) ?_
    refine lv_icmp_ge (tgt := 34) hx hb dX4_settle_13 (by decide) (fun c_1 => ?_) (fun c_1 => ?_)
    · exact kk g H locs ls hP hD hS (lv_sub hl [1, 2] rfl)
    · have hj2 : j < 16 := by
        rcases Nat.lt_or_ge j 16 with q | q
        · exact q
        · exact absurd (by rw [show (16 : Int32) = nI 16 from rfl]; exact nI_le q (by omega)) c_1
      refine lv_aload_n hx hb dX4_settle_16 rfl (lv_at hl 2 rfl) ?_
      refine va_get (D := (dC, dI)) (ci := 4) (v := .ref qu) (C := RX4) (T := TX4) (N := 2) hx hb hts uX4_settle_X4 hown hK hP 0 rfl rfl 1 (by decide) (hts (.fieldLink RX4 15 "ClassMill$Kin" "under" "[Z") (by decide +kernel)) (fun _ h9 => h9) rfl dX4_settle_17 ?_
      refine lv_iload_n hx hb dX4_settle_20 rfl (lv_at hl 1 rfl) ?_
      refine lv_bipush (v := 16) hx hb dX4_settle_21 (by decide) ?_
      refine lv_imul hx hb dX4_settle_23 ?_
      refine lv_topi (fun y_1 ey_1 => ?_)
      refine lv_iload_n hx hb dX4_settle_24 rfl (lv_at hl 0 rfl) ?_
      refine lv_iadd hx hb dX4_settle_25 ?_
      refine lv_topi (fun y_2 ey_2 => ?_)
      have hy : y_2 = nI (i * 16 + j) := by rw [ey_2, ey_1, show (16 : Int32) = nI 16 from rfl, pk_mul, nI_add]
      refine lv_iconst (v := 0) hx hb dX4_settle_26 (by decide) ?_
      refine va_zast hx hb hK hP hD hS 2 1 rfl rfl (i := y_2) (x := 0) (by rw [hy]; exact vp_in_nI (by omega) (by decide)) dX4_settle_27 (fun H locs hP hD hS => ?_)
      obtain ⟨f_3, ef_3⟩ : ∃ f : Nat → Int32, f = upd g (y_2 : Int32).toNatClampNeg (vp_nar .boolean 0) := ⟨_, rfl⟩
      rw [← ef_3] at hP hD
      have hP : va_P (dC, dI) vwCl [(h0, .inr (4, [.ref qa, .ref qu])), (qa, .inl (ca, 16, .inl f)), (qu, .inl (cu, 256, .inl f_3))] H := hP
      have hD : va_D A [(h0, .inr (4, [.ref qa, .ref qu])), (qa, .inl (ca, 16, .inl f)), (qu, .inl (cu, 256, .inl f_3))] := hD
      obtain ⟨y_4, ey_4⟩ : ∃ y : Int32, y = (nI j) + 1 := ⟨_, rfl⟩
      refine lv_iinc (v := y_4) (lv' := [(2, .int y_4), (1, .int (nI i)), (0, .ref h0)]) hx hb dX4_settle_28 hl (k := 0) rfl (by rw [ey_4]; rfl) (by decide) rfl (fun ls hl => ?_)
      refine lv_goto (tgt := 10) hx hb dX4_settle_31 (by decide) ?_
      exact ih (j + 1) (by omega) (by omega) f_3 H locs ls hP hD hS (by rw [ey_4, nI_1] at hl; exact hl)
set_option maxHeartbeats 4000000 in
set_option maxRecDepth 100000 in
theorem lp_settle2 {p : Program} {l : Launch} {e : Env} {R : Room} {s : State} {m : MethodId} {args : Array Value} {below : List Frame} {meth : Method} {c : Code} {cells slots : Nat} {Q : State → Prop} {A : Nat → Prop} {H0 : Heap} {dC : Nat → ClassId} {dI : Nat → Nat → Nat} (hx : p.tables.exec = Jvm.exec) (hb : c.code = cX4_settle) (hown : s.vm.findClass RX4 = some m.cls) (hts : ∀ w ∈ wsX4_settle, w.before args s = true) {h0 qa qu : Nat} {ca cu : ClassId} {f : Nat → Int32} (hK : va_K (dC, dI) vwCl [(ca, .int), (cu, .boolean)] s) (i : Nat) (hi : i < 16) (kk : ∀ (g : Nat → Int32) (H : Heap) (locs : List Loc) (ls : Array Slot), va_P (dC, dI) vwCl [(h0, .inr (4, [.ref qa, .ref qu])), (qa, .inl (ca, 16, .inl f)), (qu, .inl (cu, 256, .inl g))] H → va_D A [(h0, .inr (4, [.ref qa, .ref qu])), (qa, .inl (ca, 16, .inl f)), (qu, .inl (cu, 256, .inl g))] → va_S A H0 H locs → lv_has ls 4 [(1, .int (nI i)), (0, .ref h0)] → W p l e R s m args below meth c H locs cells slots Q (F0 m 79 ls [])) : ∀ (n j : Nat), j ≤ 16 → 16 - j < n → ∀ (x : Int32) (g : Nat → Int32) (H : Heap) (locs : List Loc) (ls : Array Slot), va_P (dC, dI) vwCl [(h0, .inr (4, [.ref qa, .ref qu])), (qa, .inl (ca, 16, .inl f)), (qu, .inl (cu, 256, .inl g))] H → va_D A [(h0, .inr (4, [.ref qa, .ref qu])), (qa, .inl (ca, 16, .inl f)), (qu, .inl (cu, 256, .inl g))] → va_S A H0 H locs → lv_has ls 4 [(3, .int (nI j)), (2, .int x), (1, .int (nI i)), (0, .ref h0)] → W p l e R s m args below meth c H locs cells slots Q (F0 m 38 ls []) := by
  intro n
  induction n with
  | zero => intro j h1 h2; exact absurd h2 (by omega)
  | succ n ih =>
    intro j hj hn x g H locs ls hP hD hS hl
    refine lv_iload_n hx hb dX4_settle_38 rfl (lv_at hl 0 rfl) ?_
    refine lv_bipush (v := 16) hx hb dX4_settle_39 (by decide) ?_
    refine lv_icmp_ge (tgt := 79) hx hb dX4_settle_41 (by decide) (fun c_1 => by exact kk g H locs ls hP hD hS (lv_sub hl [2, 3] rfl)) (fun c_1 => ?_)
    have hj2 : j < 16 := by
      rcases Nat.lt_or_ge j 16 with q | q
      · exact q
      · exact absurd (by rw [show (16 : Int32) = nI 16 from rfl]; exact nI_le q (by omega)) c_1
    refine lv_iload_n hx hb dX4_settle_44 rfl (lv_at hl 1 rfl) ?_
    refine lv_if_lt (tgt := 79) hx hb dX4_settle_45 (by decide) (fun c_2 => by exact kk g H locs ls hP hD hS (lv_sub hl [2, 3] rfl)) (fun c_2 => ?_)
    refine lv_iload_n hx hb dX4_settle_48 rfl (lv_at hl 1 rfl) ?_
    refine lv_bipush (v := 16) hx hb dX4_settle_49 (by decide) ?_
    refine lv_icmp_ge (tgt := 79) hx hb dX4_settle_51 (by decide) (fun c_3 => by exact kk g H locs ls hP hD hS (lv_sub hl [2, 3] rfl)) (fun c_3 => ?_)
    obtain ⟨k, hk, rfl⟩ : ∃ k : Nat, k < 16 ∧ x = nI k := by
      rcases pk_ix x (n := 16) (by decide) with q | q | q
      · exact absurd q c_2
      · exact absurd q c_3
      · exact q
    refine lv_aload_n hx hb dX4_settle_54 rfl (lv_at hl 3 rfl) ?_
    refine va_get (D := (dC, dI)) (ci := 4) (v := .ref qu) (C := RX4) (T := TX4) (N := 2) hx hb hts uX4_settle_X4 hown hK hP 0 rfl rfl 1 (by decide) (hts (.fieldLink RX4 15 "ClassMill$Kin" "under" "[Z") (by decide +kernel)) (fun _ h9 => h9) rfl dX4_settle_55 ?_
    refine lv_iload_n hx hb dX4_settle_58 rfl (lv_at hl 2 rfl) ?_
    refine lv_bipush (v := 16) hx hb dX4_settle_59 (by decide) ?_
    refine lv_imul hx hb dX4_settle_61 ?_
    refine lv_topi (fun y_1 ey_1 => ?_)
    refine lv_iload_n hx hb dX4_settle_62 rfl (lv_at hl 1 rfl) ?_
    refine lv_iadd hx hb dX4_settle_63 ?_
    refine lv_topi (fun y_2 ey_2 => ?_)
    have hy : y_2 = nI (i * 16 + k) := by rw [ey_2, ey_1, show (16 : Int32) = nI 16 from rfl, pk_mul, nI_add]
    refine lv_iconst (v := 1) hx hb dX4_settle_64 (by decide) ?_
    refine va_zast hx hb hK hP hD hS 2 1 rfl rfl (i := y_2) (x := 1) (by rw [hy]; exact vp_in_nI (by omega) (by decide)) dX4_settle_65 (fun H locs hP hD hS => ?_)
    obtain ⟨f_3, ef_3⟩ : ∃ f : Nat → Int32, f = upd g (y_2 : Int32).toNatClampNeg (vp_nar .boolean 1) := ⟨_, rfl⟩
    rw [← ef_3] at hP hD
    have hP : va_P (dC, dI) vwCl [(h0, .inr (4, [.ref qa, .ref qu])), (qa, .inl (ca, 16, .inl f)), (qu, .inl (cu, 256, .inl f_3))] H := hP
    have hD : va_D A [(h0, .inr (4, [.ref qa, .ref qu])), (qa, .inl (ca, 16, .inl f)), (qu, .inl (cu, 256, .inl f_3))] := hD
    refine lv_aload_n hx hb dX4_settle_66 rfl (lv_at hl 3 rfl) ?_
    refine va_get (D := (dC, dI)) (ci := 4) (v := .ref qa) (C := RX4) (T := TX4) (N := 2) hx hb hts uX4_settle_X4 hown hK hP 0 rfl rfl 0 (by decide) (hts (.fieldLink RX4 11 "ClassMill$Kin" "above" "[I") (by decide +kernel)) (fun _ h9 => h9) rfl dX4_settle_67 ?_
    refine lv_iload_n hx hb dX4_settle_70 rfl (lv_at hl 1 rfl) ?_
    refine va_iald hx hb hK hP 1 0 rfl rfl (i := (nI k)) (vp_in_nI hk (by decide)) dX4_settle_71 ?_
    refine lv_topi (fun y_4 ey_4 => ?_)
    refine lv_istore_n (lv' := [(2, .int y_4), (3, .int (nI j)), (1, .int (nI i)), (0, .ref h0)]) hx hb dX4_settle_72 rfl hl (by decide) rfl (fun ls hl => ?_)
    obtain ⟨y_5, ey_5⟩ : ∃ y : Int32, y = (nI j) + 1 := ⟨_, rfl⟩
    refine lv_iinc (v := y_5) (lv' := [(3, .int y_5), (2, .int y_4), (1, .int (nI i)), (0, .ref h0)]) hx hb dX4_settle_73 hl (k := 1) rfl (by rw [ey_5]; rfl) (by decide) rfl (fun ls hl => ?_)
    refine lv_goto (tgt := 38) hx hb dX4_settle_76 (by decide) ?_
    exact ih (j + 1) (by omega) (by omega) y_4 f_3 H locs ls hP hD hS (by rw [ey_5, nI_1] at hl; exact hl)
set_option maxHeartbeats 4000000 in
set_option maxRecDepth 100000 in
theorem lp_settle0 {p : Program} {l : Launch} {e : Env} {R : Room} {s : State} {m : MethodId} {args : Array Value} {below : List Frame} {meth : Method} {c : Code} {cells slots : Nat} {Q : State → Prop} {A : Nat → Prop} {H0 : Heap} {dC : Nat → ClassId} {dI : Nat → Nat → Nat} (hx : p.tables.exec = Jvm.exec) (hb : c.code = cX4_settle) (hown : s.vm.findClass RX4 = some m.cls) (hts : ∀ w ∈ wsX4_settle, w.before args s = true) {h0 qa qu : Nat} {ca cu : ClassId} {f : Nat → Int32} (hK : va_K (dC, dI) vwCl [(ca, .int), (cu, .boolean)] s) (kk : ∀ (g : Nat → Int32) (H : Heap) (locs : List Loc) (ls : Array Slot), va_P (dC, dI) vwCl [(h0, .inr (4, [.ref qa, .ref qu])), (qa, .inl (ca, 16, .inl f)), (qu, .inl (cu, 256, .inl g))] H → va_D A [(h0, .inr (4, [.ref qa, .ref qu])), (qa, .inl (ca, 16, .inl f)), (qu, .inl (cu, 256, .inl g))] → va_S A H0 H locs → W p l e R s m args below meth c H locs cells slots Q (F0 m 85 ls [])) : ∀ (n j : Nat), j ≤ 16 → 16 - j < n → ∀ (g : Nat → Int32) (H : Heap) (locs : List Loc) (ls : Array Slot), va_P (dC, dI) vwCl [(h0, .inr (4, [.ref qa, .ref qu])), (qa, .inl (ca, 16, .inl f)), (qu, .inl (cu, 256, .inl g))] H → va_D A [(h0, .inr (4, [.ref qa, .ref qu])), (qa, .inl (ca, 16, .inl f)), (qu, .inl (cu, 256, .inl g))] → va_S A H0 H locs → lv_has ls 4 [(1, .int (nI j)), (0, .ref h0)] → W p l e R s m args below meth c H locs cells slots Q (F0 m 2 ls []) := by
  intro n
  induction n with
  | zero => intro j h1 h2; exact absurd h2 (by omega)
  | succ n ih =>
    intro j hj hn g H locs ls hP hD hS hl
    refine lv_iload_n hx hb dX4_settle_2 rfl (lv_at hl 0 rfl) ?_
    refine lv_bipush (v := 16) hx hb dX4_settle_3 (by decide) ?_
    refine lv_icmp_ge (tgt := 85) hx hb dX4_settle_5 (by decide) (fun c_1 => kk g H locs ls hP hD hS) (fun c_1 => ?_)
    have hj2 : j < 16 := by
      rcases Nat.lt_or_ge j 16 with q | q
      · exact q
      · exact absurd (by rw [show (16 : Int32) = nI 16 from rfl]; exact nI_le q (by omega)) c_1
    refine lv_iconst (v := 0) hx hb dX4_settle_8 (by decide) ?_
    refine lv_istore_n (lv' := [(2, .int 0), (1, .int (nI j)), (0, .ref h0)]) hx hb dX4_settle_9 rfl hl (by decide) rfl (fun ls hl => ?_)
    refine lp_settle1 hx hb hown hts hK j hj2 ?_ 17 0 (by omega) (by omega) g H locs ls hP hD hS (lv_sub hl [0, 1, 2] rfl)
    intro g H locs ls hP hD hS hl
    refine lv_iload_n hx hb dX4_settle_34 rfl (lv_at hl 0 rfl) ?_
    refine lv_istore_n (lv' := [(2, .int (nI j)), (1, .int (nI j)), (0, .ref h0)]) hx hb dX4_settle_35 rfl hl (by decide) rfl (fun ls hl => ?_)
    refine lv_iconst (v := 0) hx hb dX4_settle_36 (by decide) ?_
    refine lv_istore_n (lv' := [(3, .int 0), (2, .int (nI j)), (1, .int (nI j)), (0, .ref h0)]) hx hb dX4_settle_37 rfl hl (by decide) rfl (fun ls hl => ?_)
    refine lp_settle2 hx hb hown hts hK j hj2 ?_ 17 0 (by omega) (by omega) (nI j) g H locs ls hP hD hS (lv_sub hl [0, 1, 2, 3] rfl)
    intro g H locs ls hP hD hS hl
    obtain ⟨y_1, ey_1⟩ : ∃ y : Int32, y = (nI j) + 1 := ⟨_, rfl⟩
    refine lv_iinc (v := y_1) (lv' := [(1, .int y_1), (0, .ref h0)]) hx hb dX4_settle_79 hl (k := 0) rfl (by rw [ey_1]; rfl) (by decide) rfl (fun ls hl => ?_)
    refine lv_goto (tgt := 2) hx hb dX4_settle_82 (by decide) ?_
    exact ih (j + 1) (by omega) (by omega) g H locs ls hP hD hS (by rw [ey_1, nI_1] at hl; exact hl)
set_option maxHeartbeats 4000000 in
set_option maxRecDepth 100000 in
/-- Kin.settle: `under` becomes something, `above` stays -/
theorem ct_settle (l : Launch) (dC : Nat → ClassId) (dI : Nat → Nat → Nat) (sz : Nat) (h0 qa qu : Nat) (ca cu : ClassId) (f g : Nat → Int32)  : Met l yX4_settle wsX4_settle ({ frames := 0, cells := 0, slots := 0, locals := 0 }) (va_Pc [.ref h0] (fun U => U.heap.size = sz ∧ va_P (dC, dI) vwCl [(h0, .inr (4, [.ref qa, .ref qu])), (qa, .inl (ca, 16, .inl f)), (qu, .inl (cu, 256, .inl g))] U.heap ∧ va_K (dC, dI) vwCl [(ca, .int), (cu, .boolean)] U ∧ va_D (fun _ => True) [(h0, .inr (4, [.ref qa, .ref qu])), (qa, .inl (ca, 16, .inl f)), (qu, .inl (cu, 256, .inl g))])) (va_Qv (fun (u : (Nat → Int32)) => match u with | (g2) => True) (fun (u : (Nat → Int32)) (t : State) => match u with | (g2) => va_P (dC, dI) vwCl [(h0, .inr (4, [.ref qa, .ref qu])), (qa, .inl (ca, 16, .inl f)), (qu, .inl (cu, 256, .inl g2))] t.heap ∧ va_K (dC, dI) vwCl [(ca, .int), (cu, .boolean)] t ∧ va_D (va_A [(h0, .inr (4, [.ref qa, .ref qu])), (qa, .inl (ca, 16, .inl f)), (qu, .inl (cu, 256, .inl g))] sz) [(h0, .inr (4, [.ref qa, .ref qu])), (qa, .inl (ca, 16, .inl f)), (qu, .inl (cu, 256, .inl g2))]) (va_A [(h0, .inr (4, [.ref qa, .ref qu])), (qa, .inl (ca, 16, .inl f)), (qu, .inl (cu, 256, .inl g))] sz)) 0 0 (va_A [(h0, .inr (4, [.ref qa, .ref qu])), (qa, .inl (ca, 16, .inl f)), (qu, .inl (cu, 256, .inl g))] sz) := by
  refine Met.ofW (cc := cX4_settle) (maxL := 4) (ret := none) (by decide) rfl ?_
  intro p e s m args below meth c s₁ B hml hv
  obtain ⟨rfl, hsz, hP, hK, hD0⟩ := hv
  have hx := B.exec
  have hb := B.bytes
  have hr := B.returns
  have hts := atoms_spec (ws := wsX4_settle) B.pre
  have hown : s.vm.findClass RX4 = some m.cls := findClass_of_methodNamed B.named
  have hlocks := B.notSynchronized
  subst hsz
  have hD := hD0.self (sz := s.heap.size)
  generalize hAe : va_A [(h0, .inr (4, [.ref qa, .ref qu])), (qa, .inl (ca, 16, .inl f)), (qu, .inl (cu, 256, .inl g))] s.heap.size = A at hD ⊢
  have hA : ∀ q : Nat, s.heap.size ≤ q → A q := fun q h => by rw [← hAe]; exact Or.inr h
  have hS : va_S A s.heap s.heap [] := va_S.rf
  have hP : va_P (dC, dI) vwCl [(h0, .inr (4, [.ref qa, .ref qu])), (qa, .inl (ca, 16, .inl f)), (qu, .inl (cu, 256, .inl g))] s.heap := hP
  have hl := lv_entry ([.ref h0]) (n := 4) (Nat.le_of_ble_eq_true rfl)
  rw [lg_entry_eq]
  generalize (lg_sl ([.ref h0]) ++ List.replicate (4 - (lg_sl ([.ref h0])).length) Slot.unset).toArray = ls at hl ⊢
  have hl : lv_has ls 4 [(0, .ref h0)] := hl
  refine lv_iconst (v := 0) hx hb dX4_settle_0 (by decide) ?_
  refine lv_istore_n (lv' := [(1, .int 0), (0, .ref h0)]) hx hb dX4_settle_1 rfl hl (by decide) rfl (fun ls hl => ?_)
  refine lp_settle0 hx hb hown hts hK ?_ 17 0 (by omega) (by omega) g s.heap [] ls hP hD hS (lv_sub hl [0, 1] rfl)
  intro g2 H locs ls hP hD hS
  have hP9 := hP.sub (ws' := [(h0, .inr (4, [.ref qa, .ref qu])), (qa, .inl (ca, 16, .inl f)), (qu, .inl (cu, 256, .inl g2))]) [0, 1, 2] rfl
  have hD9 := hD.sub (ws' := [(h0, .inr (4, [.ref qa, .ref qu])), (qa, .inl (ca, 16, .inl f)), (qu, .inl (cu, 256, .inl g2))]) [0, 1, 2] (by decide) rfl
  have hK9 := hK.sub (tys' := [(ca, .int), (cu, .boolean)]) [0, 1] rfl
  exact W.vret hx hb hr (fun t ht hW => ⟨⟨(g2), rfl, trivial, by rw [ht]; exact hP9, va_K.moved hW.alike hK9, hD9⟩, hS.F ht⟩) hS.2.2 dX4_settle_85

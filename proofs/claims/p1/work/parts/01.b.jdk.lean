set_option maxHeartbeats 4000000 in
set_option maxRecDepth 100000 in
theorem lp_fill {p : Program} {l : Launch} {e : Env} {R : Room} {s : State} {m : MethodId} {args : Array Value} {below : List Frame} {meth : Method} {c : Code} {cells slots : Nat} {Q : State → Prop} {A : Nat → Prop} {H0 : Heap} {dC : Nat → ClassId} {dI : Nat → Nat → Nat} (hx : p.tables.exec = Jvm.exec) (hb : c.code = cJ7_fill_53178) (hown : s.vm.findClass RJ7 = some m.cls) (hts : ∀ w ∈ wsJ7_fill_53178, w.before args s = true) {qa n : Nat} {ca : ClassId} {v : Int32} (hn0 : n < 2 ^ 31) (hK : va_K (dC, dI) vwCl [(ca, .int)] s) (kk : ∀ (f : Nat → Int32) (H : Heap) (locs : List Loc) (ls : Array Slot), va_P (dC, dI) vwCl [(qa, .inl (ca, n, .inl f))] H → va_D A [(qa, .inl (ca, n, .inl f))] → va_S A H0 H locs → (∀ i, i < n → f i = v) → W p l e R s m args below meth c H locs cells slots Q (F0 m 20 ls [])) : ∀ (k j : Nat), j ≤ n → n - j < k → ∀ (f : Nat → Int32) (H : Heap) (locs : List Loc) (ls : Array Slot), va_P (dC, dI) vwCl [(qa, .inl (ca, n, .inl f))] H → va_D A [(qa, .inl (ca, n, .inl f))] → va_S A H0 H locs → (∀ i, i < j → f i = v) → lv_has ls 4 [(2, .int (nI j)), (3, .int (nI n)), (1, .int v), (0, .ref qa)] → W p l e R s m args below meth c H locs cells slots Q (F0 m 5 ls []) := by
  intro k
  induction k with
  | zero => intro j h1 h2; exact absurd h2 (by omega)
  | succ k ih =>
    intro j hj hk f H locs ls hP hD hS hf hl
    refine lv_iload_n hx hb dJ7_fill_53178_5 rfl (lv_at hl 0 rfl) ?_
    refine lv_iload_n hx hb dJ7_fill_53178_6 rfl (lv_at hl 1 rfl) ?_
    refine lv_icmp_ge (tgt := 20) hx hb dJ7_fill_53178_7 (by decide) (fun c_1 => ?_) (fun c_1 => ?_)
    · have hjn : n ≤ j := (nI_leI hn0 (by omega)).mp c_1
      exact kk f H locs ls hP hD hS (fun i hi => hf i (by omega))
    · have hjn : j < n := by
        rcases Nat.lt_or_ge j n with q | q
        · exact q
        · exact absurd (nI_le q (by omega)) c_1
      refine lv_aload_n hx hb dJ7_fill_53178_10 rfl (lv_at hl 3 rfl) ?_
      refine lv_iload_n hx hb dJ7_fill_53178_11 rfl (lv_at hl 0 rfl) ?_
      refine lv_iload_n hx hb dJ7_fill_53178_12 rfl (lv_at hl 2 rfl) ?_
      refine va_iast hx hb hK hP hD hS 0 0 rfl rfl (i := (nI j)) (x := v) (vp_in_nI hjn hn0) dJ7_fill_53178_13 ?_
      clear hP hD hS
      intro H locs hP hD hS
      obtain ⟨f_1, ef_1⟩ : ∃ zf : Nat → Int32, zf = upd f ((nI j) : Int32).toNatClampNeg v := ⟨_, rfl⟩
      rw [← ef_1] at hP hD
      replace hP : va_P (dC, dI) vwCl [(qa, .inl (ca, n, .inl f_1))] H := hP
      replace hD : va_D A [(qa, .inl (ca, n, .inl f_1))] := hD
      obtain ⟨y_2, ey_2⟩ : ∃ zy : Int32, zy = (nI j) + 1 := ⟨_, rfl⟩
      refine lv_iinc (v := y_2) (lv' := [(2, .int y_2), (3, .int (nI n)), (1, .int v), (0, .ref qa)]) hx hb dJ7_fill_53178_14 hl (k := 0) rfl (by rw [ey_2]; rfl) (by decide) rfl (fun ls hl => ?_)
      refine lv_goto (tgt := 5) hx hb dJ7_fill_53178_17 (by decide) ?_
      refine ih (j + 1) (by omega) (by omega) f_1 H locs ls hP hD hS ?_ (by rw [ey_2, nI_1] at hl; exact hl)
      intro i hi
      rw [ef_1, nI_clamp (by omega)]
      rcases Nat.lt_or_ge i j with q | q
      · rw [pk_un (by omega)]; exact hf i q
      · have : i = j := by omega
        subst this; exact pk_us
set_option maxHeartbeats 4000000 in
set_option maxRecDepth 100000 in
/-- Arrays.fill of ints: all places hold the value -/
theorem ct_fill (l : Launch) (dC : Nat → ClassId) (dI : Nat → Nat → Nat) (sz : Nat) (qa n : Nat) (ca : ClassId) (f : Nat → Int32) (v : Int32) (hn0 : n < 2 ^ 31) : Met l yJ7_fill_53178 wsJ7_fill_53178 ({ frames := 0, cells := 0, slots := 0, locals := 0 }) (va_Pc [.ref qa, .int v] (fun U => U.heap.size = sz ∧ va_P (dC, dI) vwCl [(qa, .inl (ca, n, .inl f))] U.heap ∧ va_K (dC, dI) vwCl [(ca, .int)] U ∧ va_D (fun _ => True) [(qa, .inl (ca, n, .inl f))])) (va_Qv (fun (u : (Nat → Int32)) => match u with | (f2) => ∀ i, i < n → f2 i = v) (fun (u : (Nat → Int32)) (t : State) => match u with | (f2) => va_P (dC, dI) vwCl [(qa, .inl (ca, n, .inl f2))] t.heap ∧ va_K (dC, dI) vwCl [(ca, .int)] t ∧ va_D (va_A [(qa, .inl (ca, n, .inl f))] sz) [(qa, .inl (ca, n, .inl f2))]) (va_A [(qa, .inl (ca, n, .inl f))] sz)) 0 0 (va_A [(qa, .inl (ca, n, .inl f))] sz) := by
  refine Met.ofW (cc := cJ7_fill_53178) (maxL := 4) (ret := none) (by decide) rfl ?_
  intro p e s m args below meth c s₁ B hml hv
  obtain ⟨rfl, hsz, hP, hK, hD0⟩ := hv
  have hx := B.exec
  have hb := B.bytes
  have hr := B.returns
  have hts := atoms_spec (ws := wsJ7_fill_53178) B.pre
  have hown : s.vm.findClass RJ7 = some m.cls := findClass_of_methodNamed B.named
  have hlocks := B.notSynchronized
  subst hsz
  have hD := hD0.self (sz := s.heap.size)
  generalize hAe : va_A [(qa, .inl (ca, n, .inl f))] s.heap.size = A at hD  ⊢
  have hA : ∀ q : Nat, s.heap.size ≤ q → A q := fun q h => by rw [← hAe]; exact Or.inr h
  have hP : va_P (dC, dI) vwCl [(qa, .inl (ca, n, .inl f))] s.heap := hP
  have hl := lv_entry ([.ref qa, .int v]) (n := 4) (Nat.le_of_ble_eq_true rfl)
  rw [lg_entry_eq]
  generalize (lg_sl ([.ref qa, .int v]) ++ List.replicate (4 - (lg_sl ([.ref qa, .int v])).length) Slot.unset).toArray = ls at hl ⊢
  have hl : lv_has ls 4 [(0, .ref qa), (1, .int v)] := hl
  obtain ⟨H, hH⟩ : ∃ H : Heap, s.heap = H := ⟨_, rfl⟩
  rw [hH] at hP ⊢
  have hS : va_S A s.heap H [] := by rw [← hH]; exact va_S.rf
  obtain ⟨locs, hlo⟩ : ∃ locs : List Loc, locs = [] := ⟨_, rfl⟩
  rw [← hlo] at hS ⊢
  refine lv_iconst (v := 0) hx hb dJ7_fill_53178_0 (by decide) ?_
  refine lv_istore_n (lv' := [(2, .int 0), (0, .ref qa), (1, .int v)]) hx hb dJ7_fill_53178_1 rfl hl (by decide) rfl (fun ls hl => ?_)
  refine lv_aload_n hx hb dJ7_fill_53178_2 rfl (lv_at hl 1 rfl) ?_
  refine va_alen (v := nI n) hx hb hK hP 0 0 rfl rfl rfl dJ7_fill_53178_3 ?_
  refine lv_istore_n (lv' := [(3, .int (nI n)), (2, .int 0), (0, .ref qa), (1, .int v)]) hx hb dJ7_fill_53178_4 rfl hl (by decide) rfl (fun ls hl => ?_)
  refine lp_fill hx hb hown hts hn0 hK ?_ (n + 1) 0 (by omega) (by omega) f H locs ls hP hD hS (fun i hi => absurd hi (by omega)) (lv_sub hl [1, 0, 3, 2] rfl)
  intro f2 H locs ls hP hD hS hf2
  have hP9 := hP.sub (ws' := [(qa, .inl (ca, n, .inl f2))]) [0] rfl
  have hD9 := hD.sub (ws' := [(qa, .inl (ca, n, .inl f2))]) [0] (by decide) rfl
  have hK9 := hK.sub (tys' := [(ca, .int)]) [0] rfl
  exact W.vret hx hb hr (fun t ht hW => ⟨⟨(f2), rfl, hf2, by rw [ht]; exact hP9, va_K.moved hW.alike hK9, hD9⟩, hS.F ht⟩) hS.2.2 dJ7_fill_53178_20

section LCMP
variable {p : Program} {l : Launch} {e : Env} {R : Room} {s : State} {m : MethodId} {args : Array Value} {below : List Frame} {meth : Method} {c : Code} {H : Heap} {locs : List Loc} {cells slots : Nat} {Q : State → Prop} {cc : ByteArray} {pc : Nat} {ls : Array Slot} {rest : List Value}
theorem pw_lcmp (hexec : p.tables.exec = Jvm.exec) (hb : c.code = cc) {x y : Int64} (hdg : decode cc pc = .ok (.lcmp, 1)) (k : W p l e R s m args below meth c H locs cells slots Q (F0 m (pc + 1) ls (.int (if x > y then 1 else if x == y then 0 else -1) :: rest))) : W p l e R s m args below meth c H locs cells slots Q (F0 m pc ls (.long y :: .long x :: rest)) := by
  intro T hT X
  obtain ⟨t, a, b⟩ := k T hT X
  refine ⟨t, ?_, b⟩
  jvm_step X.here [X.here.top, hexec, hb, hdg]
  exact a
theorem pw_ldcwS (hexec : p.tables.exec = Jvm.exec) (hb : c.code = cc) {own tx : String} {index q : Nat} (hown : s.vm.findClass own = some m.cls) (hZ : vk_R own index tx q s) (hdg : decode cc pc = .ok (.ldc_w index, 3)) (k : W p l e R s m args below meth c H locs cells slots Q (F0 m (pc + 3) ls (.ref q :: rest))) : W p l e R s m args below meth c H locs cells slots Q (F0 m pc ls rest) := by
  intro T hT X
  obtain ⟨t, a1, b1⟩ := k T hT X
  refine ⟨t, ?_, b1⟩
  obtain ⟨k, cf, i, a', hk, hcf, hcp, -, hr, hev⟩ := Cond.stringRef_spec hown hZ.1
  cases hZ.2.symm.trans hev
  obtain ⟨k', hk', he⟩ := X.warmed.alike.2.2 _ _ hk
  have hr' : k'.resolved[index]? = some (some (.string q)) := by
    rcases X.warmed.entry hk hk' index with h | ⟨h, -⟩
    · rw [h]; exact hr
    · rw [hr] at h; cases h
  jvm_step X.here [hexec, hb, hdg, ldc_w.wp_string (e := e) (s := T) (f := F0 m pc ls rest) X.here.top hk' (by rw [he]; exact hcf) hcp hr']
  exact a1
end LCMP
theorem ox_ch {α : Type} {i : Int32} {n : Nat} {x : Option α} {y : α} (h : (if i < 0 then none else if n ≤ i.toNatClampNeg then none else if 2147483648 ≤ n then none else x) = some y) : (∃ j : Nat, i = nI j ∧ i.toNatClampNeg = j ∧ j < n ∧ n < 2 ^ 31) ∧ x = some y := by
  by_cases h1 : i < 0
  · rw [if_pos h1] at h; cases h
  · rw [if_neg h1] at h
    by_cases h2 : n ≤ i.toNatClampNeg
    · rw [if_pos h2] at h; cases h
    · rw [if_neg h2] at h
      by_cases h3 : 2147483648 ≤ n
      · rw [if_pos h3] at h; cases h
      · rw [if_neg h3] at h
        obtain ⟨j, hj, e⟩ := nI_of h1
        have ec : i.toNatClampNeg = j := by rw [e]; exact nI_clamp hj
        exact ⟨⟨j, e, ec, by omega, by omega⟩, h⟩
theorem jn_use {p : Program} {l : Launch} {e : Env} {R : Room} {s : State} {m : MethodId} {args : Array Value} {below : List Frame} {meth : Method} {c : Code} {cells slots : Nat} {Q : State → Prop} {α : Type} {H0 : Heap} {L0 : List Loc} {f0 : JFrame} (Hf : α → Heap) (Lf : α → List Loc) (Ff : α → JFrame) (J : α → Prop) (hj : ∀ x : α, J x → W p l e R s m args below meth c (Hf x) (Lf x) cells slots Q (Ff x)) (hk : (∀ x : α, J x → W p l e R s m args below meth c (Hf x) (Lf x) cells slots Q (Ff x)) → W p l e R s m args below meth c H0 L0 cells slots Q f0) : W p l e R s m args below meth c H0 L0 cells slots Q f0 := hk hj
theorem ox_nz {α : Type} {i : Int32} {x : Option α} {y : α} (h : (if i = 0 then none else x) = some y) : ¬ i = 0 ∧ x = some y := by
  by_cases h1 : i = 0
  · rw [if_pos h1] at h; cases h
  · rw [if_neg h1] at h; exact ⟨h1, h⟩
def cp_ok (sp dp n : Int32) (n0 n1 : Nat) : Bool := !(decide (sp < 0)) && !(decide (dp < 0)) && !(decide (n < 0)) && decide (sp.toNatClampNeg + n.toNatClampNeg ≤ n0) && decide (dp.toNatClampNeg + n.toNatClampNeg ≤ n1)
def cp_fit (ty : FieldType) (f : Nat → Int32) (sp n : Int32) : Bool := (List.range n.toNatClampNeg).all (fun i => fits ty (.int (f (sp.toNatClampNeg + i))))
theorem ox_cp {α : Type} {sp dp n : Int32} {n0 n1 : Nat} {x : Option α} {y : α} (h : (if cp_ok sp dp n n0 n1 = true then x else none) = some y) : ((¬ sp < 0) ∧ (¬ dp < 0) ∧ (¬ n < 0) ∧ sp.toNatClampNeg + n.toNatClampNeg ≤ n0 ∧ dp.toNatClampNeg + n.toNatClampNeg ≤ n1) ∧ x = some y := by
  by_cases h1 : cp_ok sp dp n n0 n1 = true
  · rw [if_pos h1] at h; refine ⟨?_, h⟩; simp only [cp_ok, Bool.and_eq_true, Bool.not_eq_true', decide_eq_false_iff_not, decide_eq_true_eq] at h1; exact ⟨h1.1.1.1.1, h1.1.1.1.2, h1.1.1.2, h1.1.2, h1.2⟩
  · rw [if_neg h1] at h; cases h
theorem ox_fit {α : Type} {ty : FieldType} {f : Nat → Int32} {sp n : Int32} {x : Option α} {y : α} (h : (if cp_fit ty f sp n = true then x else none) = some y) : (∀ i, i < n.toNatClampNeg → fits ty (.int (f (sp.toNatClampNeg + i))) = true) ∧ x = some y := by
  by_cases h1 : cp_fit ty f sp n = true
  · rw [if_pos h1] at h; exact ⟨fun i hi => List.all_eq_true.mp h1 i (List.mem_range.mpr hi), h⟩
  · rw [if_neg h1] at h; cases h
def sp_jd_rangeCheck (nf : Nat) (a1 : Int32) (a2 : Int32) (a3 : Int32) : Option (Unit) := (if a2 ≤ a3 then (if 0 ≤ a2 then (if a3 ≤ a1 then (some ()) else none) else none) else none)
set_option maxHeartbeats 4000000 in
set_option maxRecDepth 100000 in
/-- java/util/Arrays.rangeCheck -/
theorem jd_rangeCheck (l : Launch) (dC : Nat → ClassId) (dI : Nat → Nat → Nat) (sz : Nat) (a1 : Int32) (a2 : Int32) (a3 : Int32) (nf : Nat) (hsp : sp_jd_rangeCheck nf a1 a2 a3 = some ()) : Met l yJ7_rangeCheck_23922 (.code yJ7_rangeCheck_23922 cJ7_rangeCheck_23922 3 none :: VS_h7) ({ frames := 0, cells := 0, slots := 0, locals := 0 }) (va_Pc [.int a1, .int a2, .int a3] (fun U => U.heap.size = sz ∧ va_P (dC, dI) vwCl [] U.heap ∧ va_K (dC, dI) vwCl [] U ∧ va_D (fun _ => True) [])) (va_Qv (fun (u : Unit) => match u with | () => True) (fun (u : Unit) (t : State) => match u with | () => va_P (dC, dI) vwCl [] t.heap ∧ va_K (dC, dI) vwCl [] t ∧ va_D (va_A [] sz) []) (va_A [] sz)) 0 0 (va_A [] sz) := by
  refine Met.ofW (cc := cJ7_rangeCheck_23922) (maxL := 3) (ret := none) (by decide) rfl ?_
  intro p e s m args below meth c s₁ B hml hv
  obtain ⟨rfl, hsz, hP, hK, hD0⟩ := hv
  have hx := B.exec
  have hb := B.bytes
  have hr := B.returns
  have hts := atoms_spec (ws := (.code yJ7_rangeCheck_23922 cJ7_rangeCheck_23922 3 none :: VS_h7)) B.pre
  replace hts := fun w (h : w ∈ VS_h7) => hts w (List.mem_cons_of_mem _ h)
  have hown : s.vm.findClass RJ7 = some m.cls := findClass_of_methodNamed B.named
  have hlocks := B.notSynchronized
  subst hsz
  have hD := hD0.self (sz := s.heap.size)
  generalize hAe : va_A [] s.heap.size = A at hD  ⊢
  have hA : ∀ q : Nat, s.heap.size ≤ q → A q := fun q h => by rw [← hAe]; exact Or.inr h
  have hP : va_P (dC, dI) vwCl [] s.heap := hP
  have hl := lv_entry ([.int a1, .int a2, .int a3]) (n := 3) (Nat.le_of_ble_eq_true rfl)
  rw [lg_entry_eq]
  generalize (lg_sl ([.int a1, .int a2, .int a3]) ++ List.replicate (3 - (lg_sl ([.int a1, .int a2, .int a3])).length) Slot.unset).toArray = ls at hl ⊢
  have hl : lv_has ls 3 [(0, .int a1), (1, .int a2), (2, .int a3)] := hl
  obtain ⟨H, hH⟩ : ∃ H : Heap, s.heap = H := ⟨_, rfl⟩
  rw [hH] at hP ⊢
  have hS : va_S A s.heap H [] := by rw [← hH]; exact va_S.rf
  obtain ⟨locs, hlo⟩ : ∃ locs : List Loc, locs = [] := ⟨_, rfl⟩
  rw [← hlo] at hS ⊢
  unfold sp_jd_rangeCheck at hsp
  refine lv_iload_n hx hb dJ7_rangeCheck_23922_0 rfl (lv_at hl 1 rfl) ?_
  refine lv_iload_n hx hb dJ7_rangeCheck_23922_1 rfl (lv_at hl 2 rfl) ?_
  refine lv_icmp_le (tgt := 46) hx hb dJ7_rangeCheck_23922_2 (by decide) (fun c_1 => ?_) (fun c_1 => ?_)
  · rw [if_pos c_1] at hsp
    refine lv_iload_n hx hb dJ7_rangeCheck_23922_46 rfl (lv_at hl 1 rfl) ?_
    refine lv_if_ge (tgt := 59) hx hb dJ7_rangeCheck_23922_47 (by decide) (fun c_2 => ?_) (fun c_2 => ?_)
    · rw [if_pos c_2] at hsp
      refine lv_iload_n hx hb dJ7_rangeCheck_23922_59 rfl (lv_at hl 2 rfl) ?_
      refine lv_iload_n hx hb dJ7_rangeCheck_23922_60 rfl (lv_at hl 0 rfl) ?_
      refine lv_icmp_le (tgt := 73) hx hb dJ7_rangeCheck_23922_61 (by decide) (fun c_3 => ?_) (fun c_3 => ?_)
      · rw [if_pos c_3] at hsp
        clear hsp
        have hP9 := hP.sub (ws' := []) [] rfl
        have hD9 := hD.sub (ws' := []) [] (by decide) rfl
        have hK9 := hK.sub (tys' := []) [] rfl
        exact W.vret hx hb hr (fun t ht hW => ⟨⟨(), rfl, trivial, by rw [ht]; exact hP9, va_K.moved hW.alike hK9, hD9⟩, hS.F ht⟩) hS.2.2 dJ7_rangeCheck_23922_73
      · rw [if_neg c_3] at hsp
        cases hsp
    · rw [if_neg c_2] at hsp
      cases hsp
  · rw [if_neg c_1] at hsp
    cases hsp
def lp_jd_fill_5 (nf n : Nat) (a2 : Int32) (na1 : Nat) (fa1 : Nat → Int32)  (l1_5 : Int32) (l2_5 : Int32) (l3_5 : Int32) (ga1_5 : Nat → Int32) : Option ((Nat → Int32)) := match n with
  | 0 => none
  | n + 1 => (if l3_5 ≤ l2_5 then (some ga1_5) else (if l2_5 < 0 then none else if na1 ≤ (l2_5 : Int32).toNatClampNeg then none else (lp_jd_fill_5 nf n a2 na1 fa1 l1_5 (l2_5 + 1) l3_5 (upd ga1_5 (l2_5 : Int32).toNatClampNeg l1_5))))
def sp_jd_fill (nf : Nat) (a2 : Int32) (na1 : Nat) (fa1 : Nat → Int32) : Option ((Nat → Int32)) := (lp_jd_fill_5 nf nf a2 na1 fa1  a2 0 (nI na1) fa1)
set_option maxHeartbeats 4000000 in
set_option maxRecDepth 100000 in
/-- java/util/Arrays.fill -/
theorem jd_fill (l : Launch) (dC : Nat → ClassId) (dI : Nat → Nat → Nat) (sz : Nat) (qa1 : Nat) (a2 : Int32) (ca1 : ClassId) (na1 : Nat) (fa1 : (Nat → Int32)) (nf : Nat) (oa1 : (Nat → Int32)) (hsp : sp_jd_fill nf a2 na1 fa1 = some oa1) : Met l yJ7_fill_53178 (.code yJ7_fill_53178 cJ7_fill_53178 4 none :: VS_h7) ({ frames := 0, cells := 0, slots := 0, locals := 0 }) (va_Pc [.ref qa1, .int a2] (fun U => U.heap.size = sz ∧ va_P (dC, dI) vwCl [(qa1, .inl (ca1, na1, .inl fa1))] U.heap ∧ va_K (dC, dI) vwCl [(ca1, .int)] U ∧ va_D (fun _ => True) [(qa1, .inl (ca1, na1, .inl fa1))])) (va_Qv (fun (u : Unit) => match u with | () => True) (fun (u : Unit) (t : State) => match u with | () => va_P (dC, dI) vwCl [(qa1, .inl (ca1, na1, .inl oa1))] t.heap ∧ va_K (dC, dI) vwCl [(ca1, .int)] t ∧ va_D (va_A [(qa1, .inl (ca1, na1, .inl fa1))] sz) [(qa1, .inl (ca1, na1, .inl oa1))]) (va_A [(qa1, .inl (ca1, na1, .inl fa1))] sz)) 0 0 (va_A [(qa1, .inl (ca1, na1, .inl fa1))] sz) := by
  refine Met.ofW (cc := cJ7_fill_53178) (maxL := 4) (ret := none) (by decide) rfl ?_
  intro p e s m args below meth c s₁ B hml hv
  obtain ⟨rfl, hsz, hP, hK, hD0⟩ := hv
  have hx := B.exec
  have hb := B.bytes
  have hr := B.returns
  have hts := atoms_spec (ws := (.code yJ7_fill_53178 cJ7_fill_53178 4 none :: VS_h7)) B.pre
  replace hts := fun w (h : w ∈ VS_h7) => hts w (List.mem_cons_of_mem _ h)
  have hown : s.vm.findClass RJ7 = some m.cls := findClass_of_methodNamed B.named
  have hlocks := B.notSynchronized
  subst hsz
  have hD := hD0.self (sz := s.heap.size)
  generalize hAe : va_A [(qa1, .inl (ca1, na1, .inl fa1))] s.heap.size = A at hD  ⊢
  have hA : ∀ q : Nat, s.heap.size ≤ q → A q := fun q h => by rw [← hAe]; exact Or.inr h
  have hP : va_P (dC, dI) vwCl [(qa1, .inl (ca1, na1, .inl fa1))] s.heap := hP
  have hl := lv_entry ([.ref qa1, .int a2]) (n := 4) (Nat.le_of_ble_eq_true rfl)
  rw [lg_entry_eq]
  generalize (lg_sl ([.ref qa1, .int a2]) ++ List.replicate (4 - (lg_sl ([.ref qa1, .int a2])).length) Slot.unset).toArray = ls at hl ⊢
  have hl : lv_has ls 4 [(0, .ref qa1), (1, .int a2)] := hl
  obtain ⟨H, hH⟩ : ∃ H : Heap, s.heap = H := ⟨_, rfl⟩
  rw [hH] at hP ⊢
  have hS : va_S A s.heap H [] := by rw [← hH]; exact va_S.rf
  obtain ⟨locs, hlo⟩ : ∃ locs : List Loc, locs = [] := ⟨_, rfl⟩
  rw [← hlo] at hS ⊢
  unfold sp_jd_fill at hsp
  refine lv_iconst (v := 0) hx hb dJ7_fill_53178_0 (by decide) ?_
  refine lv_istore_n (lv' := [(2, .int 0), (0, .ref qa1), (1, .int a2)]) hx hb dJ7_fill_53178_1 rfl hl (by decide) rfl (fun ls hl => ?_)
  refine lv_aload_n hx hb dJ7_fill_53178_2 rfl (lv_at hl 1 rfl) ?_
  refine va_alen (v := nI na1) hx hb hK hP 0 0 rfl rfl rfl dJ7_fill_53178_3 ?_
  refine lv_istore_n (lv' := [(3, .int (nI na1)), (2, .int 0), (0, .ref qa1), (1, .int a2)]) hx hb dJ7_fill_53178_4 rfl hl (by decide) rfl (fun ls hl => ?_)
  replace hl : lv_has ls 4 [(3, .int (nI na1)), (2, .int 0), (0, .ref qa1), (1, .int a2)] := lv_sub hl [0, 1, 2, 3] rfl
  replace hP := hP.sub (ws' := [(qa1, .inl (ca1, na1, .inl fa1))]) [0] rfl
  replace hD := hD.sub (ws' := [(qa1, .inl (ca1, na1, .inl fa1))]) [0] (by decide) rfl
  replace hK := hK.sub (tys' := [(ca1, .int)]) [0] rfl
  obtain ⟨n_5, hn_5⟩ : ∃ z : Nat, z = nf := ⟨_, rfl⟩
  obtain ⟨l1_5, el1_5⟩ : ∃ z : Int32, z = a2 := ⟨_, rfl⟩
  obtain ⟨l2_5, el2_5⟩ : ∃ z : Int32, z = 0 := ⟨_, rfl⟩
  obtain ⟨l3_5, el3_5⟩ : ∃ z : Int32, z = (nI na1) := ⟨_, rfl⟩
  obtain ⟨ga1_5, ega1_5⟩ : ∃ z : Nat → Int32, z = fa1 := ⟨_, rfl⟩
  replace hsp : lp_jd_fill_5 nf n_5 a2 na1 fa1 l1_5 l2_5 l3_5 ga1_5 = some oa1 := by rw [hn_5, el1_5, el2_5, el3_5, ega1_5]; exact hsp
  replace hl : lv_has ls 4 [(3, .int l3_5), (2, .int l2_5), (0, .ref qa1), (1, .int l1_5)] := by rw [el1_5, el2_5, el3_5]; exact hl
  replace hP : va_P (dC, dI) vwCl [(qa1, .inl (ca1, na1, .inl ga1_5))] H := by rw [ega1_5]; exact hP
  replace hD : va_D A [(qa1, .inl (ca1, na1, .inl ga1_5))] := by rw [ega1_5]; exact hD
  clear hn_5 el1_5 el2_5 el3_5 ega1_5
  try clear hlo
  try clear hH
  revert hsp
  revert hP
  revert hD
  revert hS
  revert hl
  revert ga1_5
  revert l3_5
  revert l2_5
  revert l1_5
  revert ls
  revert locs
  revert H
  induction n_5 with
  | zero => intro H locs ls l1_5 l2_5 l3_5 ga1_5  hl hS hD hP hsp; unfold lp_jd_fill_5 at hsp; cases hsp
  | succ n_5 ih_5 =>
    intro H locs ls l1_5 l2_5 l3_5 ga1_5  hl hS hD hP hsp
    unfold lp_jd_fill_5 at hsp
    try dsimp only at hsp
    refine lv_iload_n hx hb dJ7_fill_53178_5 rfl (lv_at hl 1 rfl) ?_
    refine lv_iload_n hx hb dJ7_fill_53178_6 rfl (lv_at hl 0 rfl) ?_
    refine lv_icmp_ge (tgt := 20) hx hb dJ7_fill_53178_7 (by decide) (fun c_1 => ?_) (fun c_1 => ?_)
    · rw [if_pos c_1] at hsp
      have hr0 := Option.some.inj hsp
      clear hsp
      subst hr0
      have hP9 := hP.sub (ws' := [(qa1, .inl (ca1, na1, .inl ga1_5))]) [0] rfl
      have hD9 := hD.sub (ws' := [(qa1, .inl (ca1, na1, .inl ga1_5))]) [0] (by decide) rfl
      have hK9 := hK.sub (tys' := [(ca1, .int)]) [0] rfl
      exact W.vret hx hb hr (fun t ht hW => ⟨⟨(), rfl, trivial, by rw [ht]; exact hP9, va_K.moved hW.alike hK9, hD9⟩, hS.F ht⟩) hS.2.2 dJ7_fill_53178_20
    · rw [if_neg c_1] at hsp
      refine lv_aload_n hx hb dJ7_fill_53178_10 rfl (lv_at hl 2 rfl) ?_
      refine lv_iload_n hx hb dJ7_fill_53178_11 rfl (lv_at hl 1 rfl) ?_
      refine lv_iload_n hx hb dJ7_fill_53178_12 rfl (lv_at hl 3 rfl) ?_
      obtain ⟨hi_2, hsp⟩ := ox_in hsp
      refine va_iast hx hb hK hP hD hS 0 0 rfl rfl (i := l2_5) (x := l1_5) hi_2 dJ7_fill_53178_13 ?_
      clear hP hD hS
      intro H locs hP hD hS
      replace hP : va_P (dC, dI) vwCl [(qa1, .inl (ca1, na1, .inl (upd ga1_5 (l2_5 : Int32).toNatClampNeg l1_5)))] H := hP
      replace hD : va_D A [(qa1, .inl (ca1, na1, .inl (upd ga1_5 (l2_5 : Int32).toNatClampNeg l1_5)))] := hD
      refine lv_iinc (v := (l2_5 + 1)) (lv' := [(2, .int (l2_5 + 1)), (3, .int l3_5), (0, .ref qa1), (1, .int l1_5)]) hx hb dJ7_fill_53178_14 hl (k := 1) rfl rfl (by decide) rfl (fun ls hl => ?_)
      refine lv_goto (tgt := 5) hx hb dJ7_fill_53178_17 (by decide) ?_
      exact ih_5 H locs ls l1_5 (l2_5 + 1) l3_5 (upd ga1_5 (l2_5 : Int32).toNatClampNeg l1_5) (lv_sub hl [1, 0, 2, 3] rfl) hS (hD.sub (ws' := [(qa1, .inl (ca1, na1, .inl (upd ga1_5 (l2_5 : Int32).toNatClampNeg l1_5)))]) [0] (by decide) rfl) (hP.sub (ws' := [(qa1, .inl (ca1, na1, .inl (upd ga1_5 (l2_5 : Int32).toNatClampNeg l1_5)))]) [0] rfl) hsp
def lp_jd_fill4_10 (nf n : Nat) (a2 : Int32) (a3 : Int32) (a4 : Int32) (na1 : Nat) (fa1 : Nat → Int32)  (l2_10 : Int32) (l3_10 : Int32) (l4_10 : Int32) (ga1_10 : Nat → Int32) : Option ((Nat → Int32)) := match n with
  | 0 => none
  | n + 1 => (if l2_10 ≤ l4_10 then (some ga1_10) else (if l4_10 < 0 then none else if na1 ≤ (l4_10 : Int32).toNatClampNeg then none else (lp_jd_fill4_10 nf n a2 a3 a4 na1 fa1 l2_10 l3_10 (l4_10 + 1) (upd ga1_10 (l4_10 : Int32).toNatClampNeg l3_10))))
def sp_jd_fill4 (nf : Nat) (a2 : Int32) (a3 : Int32) (a4 : Int32) (na1 : Nat) (fa1 : Nat → Int32) : Option ((Nat → Int32)) := ((sp_jd_rangeCheck nf (nI na1) a2 a3).bind (fun p1 => (lp_jd_fill4_10 nf nf a2 a3 a4 na1 fa1  a3 a4 a2 fa1)))
set_option maxHeartbeats 4000000 in
set_option maxRecDepth 100000 in
/-- java/util/Arrays.fill -/
theorem jd_fill4 (l : Launch) (dC : Nat → ClassId) (dI : Nat → Nat → Nat) (sz : Nat) (qa1 : Nat) (a2 : Int32) (a3 : Int32) (a4 : Int32) (ca1 : ClassId) (na1 : Nat) (fa1 : (Nat → Int32)) (nf : Nat) (oa1 : (Nat → Int32)) (hsp : sp_jd_fill4 nf a2 a3 a4 na1 fa1 = some oa1) : Met l yJ7_fill_fda19 (.code yJ7_fill_fda19 cJ7_fill_fda19 5 none :: VS_h7) ({ frames := 1, cells := 0, slots := 0, locals := 22 }) (va_Pc [.ref qa1, .int a2, .int a3, .int a4] (fun U => U.heap.size = sz ∧ va_P (dC, dI) vwCl [(qa1, .inl (ca1, na1, .inl fa1))] U.heap ∧ va_K (dC, dI) vwCl [(ca1, .int)] U ∧ va_D (fun _ => True) [(qa1, .inl (ca1, na1, .inl fa1))])) (va_Qv (fun (u : Unit) => match u with | () => True) (fun (u : Unit) (t : State) => match u with | () => va_P (dC, dI) vwCl [(qa1, .inl (ca1, na1, .inl oa1))] t.heap ∧ va_K (dC, dI) vwCl [(ca1, .int)] t ∧ va_D (va_A [(qa1, .inl (ca1, na1, .inl fa1))] sz) [(qa1, .inl (ca1, na1, .inl oa1))]) (va_A [(qa1, .inl (ca1, na1, .inl fa1))] sz)) 0 0 (va_A [(qa1, .inl (ca1, na1, .inl fa1))] sz) := by
  refine Met.ofW (cc := cJ7_fill_fda19) (maxL := 5) (ret := none) (by decide) rfl ?_
  intro p e s m args below meth c s₁ B hml hv
  obtain ⟨rfl, hsz, hP, hK, hD0⟩ := hv
  have hx := B.exec
  have hb := B.bytes
  have hr := B.returns
  have hts := atoms_spec (ws := (.code yJ7_fill_fda19 cJ7_fill_fda19 5 none :: VS_h7)) B.pre
  replace hts := fun w (h : w ∈ VS_h7) => hts w (List.mem_cons_of_mem _ h)
  have hown : s.vm.findClass RJ7 = some m.cls := findClass_of_methodNamed B.named
  have hlocks := B.notSynchronized
  subst hsz
  have hD := hD0.self (sz := s.heap.size)
  generalize hAe : va_A [(qa1, .inl (ca1, na1, .inl fa1))] s.heap.size = A at hD  ⊢
  have hA : ∀ q : Nat, s.heap.size ≤ q → A q := fun q h => by rw [← hAe]; exact Or.inr h
  have hP : va_P (dC, dI) vwCl [(qa1, .inl (ca1, na1, .inl fa1))] s.heap := hP
  have hl := lv_entry ([.ref qa1, .int a2, .int a3, .int a4]) (n := 5) (Nat.le_of_ble_eq_true rfl)
  rw [lg_entry_eq]
  generalize (lg_sl ([.ref qa1, .int a2, .int a3, .int a4]) ++ List.replicate (5 - (lg_sl ([.ref qa1, .int a2, .int a3, .int a4])).length) Slot.unset).toArray = ls at hl ⊢
  have hl : lv_has ls 5 [(0, .ref qa1), (1, .int a2), (2, .int a3), (3, .int a4)] := hl
  obtain ⟨H, hH⟩ : ∃ H : Heap, s.heap = H := ⟨_, rfl⟩
  rw [hH] at hP ⊢
  have hS : va_S A s.heap H [] := by rw [← hH]; exact va_S.rf
  obtain ⟨locs, hlo⟩ : ∃ locs : List Loc, locs = [] := ⟨_, rfl⟩
  rw [← hlo] at hS ⊢
  unfold sp_jd_fill4 at hsp
  refine lv_aload_n hx hb dJ7_fill_fda19_0 rfl (lv_at hl 0 rfl) ?_
  refine va_alen (v := nI na1) hx hb hK hP 0 0 rfl rfl rfl dJ7_fill_fda19_1 ?_
  refine lv_iload_n hx hb dJ7_fill_fda19_2 rfl (lv_at hl 1 rfl) ?_
  refine lv_iload_n hx hb dJ7_fill_fda19_3 rfl (lv_at hl 2 rfl) ?_
  obtain ⟨_, hu_1, hsp⟩ := ox_bind hsp
  have hPc := hP.sub (ws' := []) [] rfl
  have hDc := hD.sub (ws' := []) [] (by decide) rfl
  have hKc := hK.sub (tys' := []) [] rfl
  have hFc := va_free (wc := []) hD hS hA [] rfl
  refine va_callv (va_runS (As := [.int (nI na1), .int a2, .int a3]) (rest := []) ⟨hx, hb, hml, hown, hts⟩ (jd_rangeCheck l dC dI H.size ((nI na1)) a2 a3 nf hu_1) (va_cwS 3 hts gv_h7_0 rfl rfl rfl (by decide +kernel) ⟨Nat.le_of_ble_eq_true rfl, Nat.le_of_ble_eq_true rfl⟩) ⟨fun a U g mk q => by obtain ⟨q0, q1, qP, qK, qD⟩ := q; exact ⟨q0, q1, qP, va_K.moved (u := U) (U := U.calling g mk a) (Vm.Alike.refl U.vm) qK, qD⟩, fun U hU hW => ⟨rfl, by rw [hU], by rw [hU]; exact hPc, va_K.moved hW.alike hKc, hDc.weaken (fun _ _ _ _ => trivial)⟩⟩ rfl rfl hl.1 rfl (lv_room (Nat.le_of_ble_eq_true rfl)) dJ7_fill_fda19_4 ⟨Nat.le_of_ble_eq_true rfl, Nat.le_of_ble_eq_true rfl⟩) hS (fun q _ h => hFc q h) hFc ?_
  clear hS
  intro u t H1 locs ht hvm hw hB hz1 hk1 hS
  obtain ⟨⟩ := u
  obtain ⟨hP1, hK1, hD1⟩ := hB
  rw [ht] at hP1
  have hK1 := va_K.moved hvm.symm hK1
  try dsimp only at hw
  have hPD := va_join (wr := [(qa1, .inl (ca1, na1, .inl fa1))]) (w1 := []) hP hD [] [0] rfl rfl (by decide) (by decide) hk1 hFc hP1 hD1
  clear hP hD
  obtain ⟨hP, hD⟩ := hPD
  replace hK := (hK.sub (tys' := [(ca1, .int)]) [0] rfl).app hK1
  clear hPc hDc hKc hFc hP1 hK1 hD1 hz1 hk1 ht hvm
  generalize H1 = H at hP hS ⊢
  replace hP : va_P (dC, dI) vwCl [(qa1, .inl (ca1, na1, .inl fa1))] H := hP
  replace hD : va_D A [(qa1, .inl (ca1, na1, .inl fa1))] := hD
  replace hK : va_K (dC, dI) vwCl [(ca1, .int)] s := hK
  refine lv_iload_n hx hb dJ7_fill_fda19_7 rfl (lv_at hl 1 rfl) ?_
  refine lv_istore (lv' := [(4, .int a2), (0, .ref qa1), (1, .int a2), (2, .int a3), (3, .int a4)]) hx hb dJ7_fill_fda19_8 hl (by decide) rfl (fun ls hl => ?_)
  replace hl : lv_has ls 5 [(4, .int a2), (0, .ref qa1), (2, .int a3), (3, .int a4)] := lv_sub hl [0, 1, 3, 4] rfl
  replace hP := hP.sub (ws' := [(qa1, .inl (ca1, na1, .inl fa1))]) [0] rfl
  replace hD := hD.sub (ws' := [(qa1, .inl (ca1, na1, .inl fa1))]) [0] (by decide) rfl
  replace hK := hK.sub (tys' := [(ca1, .int)]) [0] rfl
  obtain ⟨n_10, hn_10⟩ : ∃ z : Nat, z = nf := ⟨_, rfl⟩
  obtain ⟨l2_10, el2_10⟩ : ∃ z : Int32, z = a3 := ⟨_, rfl⟩
  obtain ⟨l3_10, el3_10⟩ : ∃ z : Int32, z = a4 := ⟨_, rfl⟩
  obtain ⟨l4_10, el4_10⟩ : ∃ z : Int32, z = a2 := ⟨_, rfl⟩
  obtain ⟨ga1_10, ega1_10⟩ : ∃ z : Nat → Int32, z = fa1 := ⟨_, rfl⟩
  replace hsp : lp_jd_fill4_10 nf n_10 a2 a3 a4 na1 fa1 l2_10 l3_10 l4_10 ga1_10 = some oa1 := by rw [hn_10, el2_10, el3_10, el4_10, ega1_10]; exact hsp
  replace hl : lv_has ls 5 [(4, .int l4_10), (0, .ref qa1), (2, .int l2_10), (3, .int l3_10)] := by rw [el2_10, el3_10, el4_10]; exact hl
  replace hP : va_P (dC, dI) vwCl [(qa1, .inl (ca1, na1, .inl ga1_10))] H := by rw [ega1_10]; exact hP
  replace hD : va_D A [(qa1, .inl (ca1, na1, .inl ga1_10))] := by rw [ega1_10]; exact hD
  clear hn_10 el2_10 el3_10 el4_10 ega1_10
  try clear hlo
  try clear hH
  revert hsp
  revert hP
  revert hD
  revert hS
  revert hl
  revert ga1_10
  revert l4_10
  revert l3_10
  revert l2_10
  revert ls
  revert locs
  revert H
  induction n_10 with
  | zero => intro H locs ls l2_10 l3_10 l4_10 ga1_10  hl hS hD hP hsp; unfold lp_jd_fill4_10 at hsp; cases hsp
  | succ n_10 ih_10 =>
    intro H locs ls l2_10 l3_10 l4_10 ga1_10  hl hS hD hP hsp
    unfold lp_jd_fill4_10 at hsp
    try dsimp only at hsp
    refine lv_iload hx hb dJ7_fill_fda19_10 (lv_at hl 0 rfl) ?_
    refine lv_iload_n hx hb dJ7_fill_fda19_12 rfl (lv_at hl 2 rfl) ?_
    refine lv_icmp_ge (tgt := 27) hx hb dJ7_fill_fda19_13 (by decide) (fun c_1 => ?_) (fun c_1 => ?_)
    · rw [if_pos c_1] at hsp
      have hr0 := Option.some.inj hsp
      clear hsp
      subst hr0
      have hP9 := hP.sub (ws' := [(qa1, .inl (ca1, na1, .inl ga1_10))]) [0] rfl
      have hD9 := hD.sub (ws' := [(qa1, .inl (ca1, na1, .inl ga1_10))]) [0] (by decide) rfl
      have hK9 := hK.sub (tys' := [(ca1, .int)]) [0] rfl
      exact W.vret hx hb hr (fun t ht hW => ⟨⟨(), rfl, trivial, by rw [ht]; exact hP9, va_K.moved hW.alike hK9, hD9⟩, hS.F ht⟩) hS.2.2 dJ7_fill_fda19_27
    · rw [if_neg c_1] at hsp
      refine lv_aload_n hx hb dJ7_fill_fda19_16 rfl (lv_at hl 1 rfl) ?_
      refine lv_iload hx hb dJ7_fill_fda19_17 (lv_at hl 0 rfl) ?_
      refine lv_iload_n hx hb dJ7_fill_fda19_19 rfl (lv_at hl 3 rfl) ?_
      obtain ⟨hi_2, hsp⟩ := ox_in hsp
      refine va_iast hx hb hK hP hD hS 0 0 rfl rfl (i := l4_10) (x := l3_10) hi_2 dJ7_fill_fda19_20 ?_
      clear hP hD hS
      intro H locs hP hD hS
      replace hP : va_P (dC, dI) vwCl [(qa1, .inl (ca1, na1, .inl (upd ga1_10 (l4_10 : Int32).toNatClampNeg l3_10)))] H := hP
      replace hD : va_D A [(qa1, .inl (ca1, na1, .inl (upd ga1_10 (l4_10 : Int32).toNatClampNeg l3_10)))] := hD
      refine lv_iinc (v := (l4_10 + 1)) (lv' := [(4, .int (l4_10 + 1)), (0, .ref qa1), (2, .int l2_10), (3, .int l3_10)]) hx hb dJ7_fill_fda19_21 hl (k := 0) rfl rfl (by decide) rfl (fun ls hl => ?_)
      refine lv_goto (tgt := 10) hx hb dJ7_fill_fda19_24 (by decide) ?_
      exact ih_10 H locs ls l2_10 l3_10 (l4_10 + 1) (upd ga1_10 (l4_10 : Int32).toNatClampNeg l3_10) (lv_sub hl [0, 1, 2, 3] rfl) hS (hD.sub (ws' := [(qa1, .inl (ca1, na1, .inl (upd ga1_10 (l4_10 : Int32).toNatClampNeg l3_10)))]) [0] (by decide) rfl) (hP.sub (ws' := [(qa1, .inl (ca1, na1, .inl (upd ga1_10 (l4_10 : Int32).toNatClampNeg l3_10)))]) [0] rfl) hsp
def sp_v1_fillFrame (nf : Nat) (a1 : Int32) (a2 : Int32) (a3 : Int32) (v15 : Int32) (f12 : Nat → Int32) (f6 : Nat → Int32) (f2 : Nat → Int32) : Option ((Nat → Int32) × Int32) := (if a1 = (-1) then (some (f12, 1)) else (if 30 < a2 then (some (f12, 1)) else (if a3 ≤ 20 then (if (a1 * 52) < 0 then none else if 5200 ≤ ((a1 * 52) : Int32).toNatClampNeg then none else (if ((a1 * 52) + 1) < 0 then none else if 5200 ≤ (((a1 * 52) + 1) : Int32).toNatClampNeg then none else (if cp_ok 0 ((a1 * 52) + 2) a2 750 5200 = true then (if cp_ok 0 (((a1 * 52) + 2) + a2) a3 20 5200 = true then (some ((va_cpy f2 (va_cpy f6 (upd (upd f12 ((a1 * 52) : Int32).toNatClampNeg a2) (((a1 * 52) + 1) : Int32).toNatClampNeg a3) (0 : Int32).toNatClampNeg (((a1 * 52) + 2) : Int32).toNatClampNeg (a2 : Int32).toNatClampNeg) (0 : Int32).toNatClampNeg ((((a1 * 52) + 2) + a2) : Int32).toNatClampNeg (a3 : Int32).toNatClampNeg), v15)) else none) else none))) else (some (f12, 1)))))
set_option maxHeartbeats 4000000 in
set_option maxRecDepth 100000 in
/-- ClassMill$Code.fillFrame -/
theorem v1_fillFrame (l : Launch) (dC : Nat → ClassId) (dI : Nat → Nat → Nat) (sz : Nat) (h0 : Nat) (a1 : Int32) (a2 : Int32) (a3 : Int32) (qf0 : Nat) (v1 : Int32) (qf2 : Nat) (v3 : Int32) (v4 : Int32) (qf5 : Nat) (qf6 : Nat) (v7 : Int32) (v8 : Int32) (qf9 : Nat) (v10 : Int32) (qf11 : Nat) (qf12 : Nat) (qf13 : Nat) (v14 : Int32) (v15 : Int32) (cf12 : ClassId) (f12 : (Nat → Int32)) (cf6 : ClassId) (f6 : (Nat → Int32)) (cf2 : ClassId) (f2 : (Nat → Int32)) (nf : Nat) (o12 : (Nat → Int32)) (w15 : Int32) (hsp : sp_v1_fillFrame nf a1 a2 a3 v15 f12 f6 f2 = some (o12, w15)) : Met l yX1_fillFrame (.code yX1_fillFrame cX1_fillFrame 5 none :: VS_h7) ({ frames := 1, cells := 0, slots := 0, locals := 40 }) (va_Pc [.ref h0, .int a1, .int a2, .int a3] (fun U => U.heap.size = sz ∧ va_P (dC, dI) vwCl [(h0, .inr (1, [.ref qf0, .int v1, .ref qf2, .int v3, .int v4, .ref qf5, .ref qf6, .int v7, .int v8, .ref qf9, .int v10, .ref qf11, .ref qf12, .ref qf13, .int v14, .int v15])), (qf12, .inl (cf12, 5200, .inl f12)), (qf6, .inl (cf6, 750, .inl f6)), (qf2, .inl (cf2, 20, .inl f2))] U.heap ∧ va_K (dC, dI) vwCl [(cf12, .int), (cf6, .int), (cf2, .int)] U ∧ va_D (fun _ => True) [(h0, .inr (1, [.ref qf0, .int v1, .ref qf2, .int v3, .int v4, .ref qf5, .ref qf6, .int v7, .int v8, .ref qf9, .int v10, .ref qf11, .ref qf12, .ref qf13, .int v14, .int v15])), (qf12, .inl (cf12, 5200, .inl f12)), (qf6, .inl (cf6, 750, .inl f6)), (qf2, .inl (cf2, 20, .inl f2))])) (va_Qv (fun (u : Unit) => match u with | () => True) (fun (u : Unit) (t : State) => match u with | () => va_P (dC, dI) vwCl [(h0, .inr (1, [.ref qf0, .int v1, .ref qf2, .int v3, .int v4, .ref qf5, .ref qf6, .int v7, .int v8, .ref qf9, .int v10, .ref qf11, .ref qf12, .ref qf13, .int v14, .int w15])), (qf12, .inl (cf12, 5200, .inl o12)), (qf6, .inl (cf6, 750, .inl f6)), (qf2, .inl (cf2, 20, .inl f2))] t.heap ∧ va_K (dC, dI) vwCl [(cf12, .int), (cf6, .int), (cf2, .int)] t ∧ va_D (va_A [(h0, .inr (1, [.ref qf0, .int v1, .ref qf2, .int v3, .int v4, .ref qf5, .ref qf6, .int v7, .int v8, .ref qf9, .int v10, .ref qf11, .ref qf12, .ref qf13, .int v14, .int v15])), (qf12, .inl (cf12, 5200, .inl f12)), (qf6, .inl (cf6, 750, .inl f6)), (qf2, .inl (cf2, 20, .inl f2))] sz) [(h0, .inr (1, [.ref qf0, .int v1, .ref qf2, .int v3, .int v4, .ref qf5, .ref qf6, .int v7, .int v8, .ref qf9, .int v10, .ref qf11, .ref qf12, .ref qf13, .int v14, .int w15])), (qf12, .inl (cf12, 5200, .inl o12)), (qf6, .inl (cf6, 750, .inl f6)), (qf2, .inl (cf2, 20, .inl f2))]) (va_A [(h0, .inr (1, [.ref qf0, .int v1, .ref qf2, .int v3, .int v4, .ref qf5, .ref qf6, .int v7, .int v8, .ref qf9, .int v10, .ref qf11, .ref qf12, .ref qf13, .int v14, .int v15])), (qf12, .inl (cf12, 5200, .inl f12)), (qf6, .inl (cf6, 750, .inl f6)), (qf2, .inl (cf2, 20, .inl f2))] sz)) 0 0 (va_A [(h0, .inr (1, [.ref qf0, .int v1, .ref qf2, .int v3, .int v4, .ref qf5, .ref qf6, .int v7, .int v8, .ref qf9, .int v10, .ref qf11, .ref qf12, .ref qf13, .int v14, .int v15])), (qf12, .inl (cf12, 5200, .inl f12)), (qf6, .inl (cf6, 750, .inl f6)), (qf2, .inl (cf2, 20, .inl f2))] sz) := by
  refine Met.ofW (cc := cX1_fillFrame) (maxL := 5) (ret := none) (by decide) rfl ?_
  intro p e s m args below meth c s₁ B hml hv
  obtain ⟨rfl, hsz, hP, hK, hD0⟩ := hv
  have hx := B.exec
  have hb := B.bytes
  have hr := B.returns
  have hts := atoms_spec (ws := (.code yX1_fillFrame cX1_fillFrame 5 none :: VS_h7)) B.pre
  replace hts := fun w (h : w ∈ VS_h7) => hts w (List.mem_cons_of_mem _ h)
  have hown : s.vm.findClass RX1 = some m.cls := findClass_of_methodNamed B.named
  have hlocks := B.notSynchronized
  subst hsz
  have hD := hD0.self (sz := s.heap.size)
  generalize hAe : va_A [(h0, .inr (1, [.ref qf0, .int v1, .ref qf2, .int v3, .int v4, .ref qf5, .ref qf6, .int v7, .int v8, .ref qf9, .int v10, .ref qf11, .ref qf12, .ref qf13, .int v14, .int v15])), (qf12, .inl (cf12, 5200, .inl f12)), (qf6, .inl (cf6, 750, .inl f6)), (qf2, .inl (cf2, 20, .inl f2))] s.heap.size = A at hD  ⊢
  have hA : ∀ q : Nat, s.heap.size ≤ q → A q := fun q h => by rw [← hAe]; exact Or.inr h
  have hP : va_P (dC, dI) vwCl [(h0, .inr (1, [.ref qf0, .int v1, .ref qf2, .int v3, .int v4, .ref qf5, .ref qf6, .int v7, .int v8, .ref qf9, .int v10, .ref qf11, .ref qf12, .ref qf13, .int v14, .int v15])), (qf12, .inl (cf12, 5200, .inl f12)), (qf6, .inl (cf6, 750, .inl f6)), (qf2, .inl (cf2, 20, .inl f2))] s.heap := hP
  have hl := lv_entry ([.ref h0, .int a1, .int a2, .int a3]) (n := 5) (Nat.le_of_ble_eq_true rfl)
  rw [lg_entry_eq]
  generalize (lg_sl ([.ref h0, .int a1, .int a2, .int a3]) ++ List.replicate (5 - (lg_sl ([.ref h0, .int a1, .int a2, .int a3])).length) Slot.unset).toArray = ls at hl ⊢
  have hl : lv_has ls 5 [(0, .ref h0), (1, .int a1), (2, .int a2), (3, .int a3)] := hl
  obtain ⟨H, hH⟩ : ∃ H : Heap, s.heap = H := ⟨_, rfl⟩
  rw [hH] at hP ⊢
  have hS : va_S A s.heap H [] := by rw [← hH]; exact va_S.rf
  obtain ⟨locs, hlo⟩ : ∃ locs : List Loc, locs = [] := ⟨_, rfl⟩
  rw [← hlo] at hS ⊢
  unfold sp_v1_fillFrame at hsp
  refine lv_iload_n hx hb dX1_fillFrame_0 rfl (lv_at hl 1 rfl) ?_
  refine lv_bipush (v := 52) hx hb dX1_fillFrame_1 (by decide) ?_
  refine lv_imul hx hb dX1_fillFrame_3 ?_
  refine lv_istore (lv' := [(4, .int (a1 * 52)), (0, .ref h0), (1, .int a1), (2, .int a2), (3, .int a3)]) hx hb dX1_fillFrame_4 hl (by decide) rfl (fun ls hl => ?_)
  refine lv_iload_n hx hb dX1_fillFrame_6 rfl (lv_at hl 2 rfl) ?_
  refine lv_iconst (v := (-1)) hx hb dX1_fillFrame_7 (by decide) ?_
  refine lv_icmp_eq (tgt := 23) hx hb dX1_fillFrame_8 (by decide) (fun c_1 => ?_) (fun c_1 => ?_)
  · rw [if_pos c_1] at hsp
    refine lv_aload_n hx hb dX1_fillFrame_23 rfl (lv_at hl 1 rfl) ?_
    refine lv_iconst (v := 1) hx hb dX1_fillFrame_24 (by decide) ?_
    refine va_put (D := (dC, dI)) (ci := 1) (v := .int 1) (ty := .boolean) (C := RX1) (T := TX1) (N := 16) hx hb hts uV_h7_X1 tyX1 tyX1_ok nmX1 hown hK hP hD hS 0 rfl rfl 15 (by decide) (hts (.fieldLink RX1 61 "ClassMill$Code" "full" "Z") mw_h7_25) (fun _ h9 => h9) rfl (by decide +kernel) rfl rfl (Nat.le_of_ble_eq_true rfl) dX1_fillFrame_25 ?_
    clear hP hD hS
    intro H locs hP hD hS
    replace hP : va_P (dC, dI) vwCl [(h0, .inr (1, [.ref qf0, .int v1, .ref qf2, .int v3, .int v4, .ref qf5, .ref qf6, .int v7, .int v8, .ref qf9, .int v10, .ref qf11, .ref qf12, .ref qf13, .int v14, .int 1])), (qf12, .inl (cf12, 5200, .inl f12)), (qf6, .inl (cf6, 750, .inl f6)), (qf2, .inl (cf2, 20, .inl f2))] H := hP
    replace hD : va_D A [(h0, .inr (1, [.ref qf0, .int v1, .ref qf2, .int v3, .int v4, .ref qf5, .ref qf6, .int v7, .int v8, .ref qf9, .int v10, .ref qf11, .ref qf12, .ref qf13, .int v14, .int 1])), (qf12, .inl (cf12, 5200, .inl f12)), (qf6, .inl (cf6, 750, .inl f6)), (qf2, .inl (cf2, 20, .inl f2))] := hD
    have hr0 := Option.some.inj hsp
    clear hsp
    obtain ⟨hq0, hr1⟩ := Prod.mk.inj hr0
    clear hr0
    subst hq0
    subst hr1
    have hP9 := hP.sub (ws' := [(h0, .inr (1, [.ref qf0, .int v1, .ref qf2, .int v3, .int v4, .ref qf5, .ref qf6, .int v7, .int v8, .ref qf9, .int v10, .ref qf11, .ref qf12, .ref qf13, .int v14, .int 1])), (qf12, .inl (cf12, 5200, .inl f12)), (qf6, .inl (cf6, 750, .inl f6)), (qf2, .inl (cf2, 20, .inl f2))]) [0, 1, 2, 3] rfl
    have hD9 := hD.sub (ws' := [(h0, .inr (1, [.ref qf0, .int v1, .ref qf2, .int v3, .int v4, .ref qf5, .ref qf6, .int v7, .int v8, .ref qf9, .int v10, .ref qf11, .ref qf12, .ref qf13, .int v14, .int 1])), (qf12, .inl (cf12, 5200, .inl f12)), (qf6, .inl (cf6, 750, .inl f6)), (qf2, .inl (cf2, 20, .inl f2))]) [0, 1, 2, 3] (by decide) rfl
    have hK9 := hK.sub (tys' := [(cf12, .int), (cf6, .int), (cf2, .int)]) [0, 1, 2] rfl
    exact W.vret hx hb hr (fun t ht hW => ⟨⟨(), rfl, trivial, by rw [ht]; exact hP9, va_K.moved hW.alike hK9, hD9⟩, hS.F ht⟩) hS.2.2 dX1_fillFrame_28
  · rw [if_neg c_1] at hsp
    refine lv_iload_n hx hb dX1_fillFrame_11 rfl (lv_at hl 3 rfl) ?_
    refine lv_bipush (v := 30) hx hb dX1_fillFrame_12 (by decide) ?_
    refine lv_icmp_gt (tgt := 23) hx hb dX1_fillFrame_14 (by decide) (fun c_2 => ?_) (fun c_2 => ?_)
    · rw [if_pos c_2] at hsp
      refine lv_aload_n hx hb dX1_fillFrame_23 rfl (lv_at hl 1 rfl) ?_
      refine lv_iconst (v := 1) hx hb dX1_fillFrame_24 (by decide) ?_
      refine va_put (D := (dC, dI)) (ci := 1) (v := .int 1) (ty := .boolean) (C := RX1) (T := TX1) (N := 16) hx hb hts uV_h7_X1 tyX1 tyX1_ok nmX1 hown hK hP hD hS 0 rfl rfl 15 (by decide) (hts (.fieldLink RX1 61 "ClassMill$Code" "full" "Z") mw_h7_25) (fun _ h9 => h9) rfl (by decide +kernel) rfl rfl (Nat.le_of_ble_eq_true rfl) dX1_fillFrame_25 ?_
      clear hP hD hS
      intro H locs hP hD hS
      replace hP : va_P (dC, dI) vwCl [(h0, .inr (1, [.ref qf0, .int v1, .ref qf2, .int v3, .int v4, .ref qf5, .ref qf6, .int v7, .int v8, .ref qf9, .int v10, .ref qf11, .ref qf12, .ref qf13, .int v14, .int 1])), (qf12, .inl (cf12, 5200, .inl f12)), (qf6, .inl (cf6, 750, .inl f6)), (qf2, .inl (cf2, 20, .inl f2))] H := hP
      replace hD : va_D A [(h0, .inr (1, [.ref qf0, .int v1, .ref qf2, .int v3, .int v4, .ref qf5, .ref qf6, .int v7, .int v8, .ref qf9, .int v10, .ref qf11, .ref qf12, .ref qf13, .int v14, .int 1])), (qf12, .inl (cf12, 5200, .inl f12)), (qf6, .inl (cf6, 750, .inl f6)), (qf2, .inl (cf2, 20, .inl f2))] := hD
      have hr0 := Option.some.inj hsp
      clear hsp
      obtain ⟨hq0, hr1⟩ := Prod.mk.inj hr0
      clear hr0
      subst hq0
      subst hr1
      have hP9 := hP.sub (ws' := [(h0, .inr (1, [.ref qf0, .int v1, .ref qf2, .int v3, .int v4, .ref qf5, .ref qf6, .int v7, .int v8, .ref qf9, .int v10, .ref qf11, .ref qf12, .ref qf13, .int v14, .int 1])), (qf12, .inl (cf12, 5200, .inl f12)), (qf6, .inl (cf6, 750, .inl f6)), (qf2, .inl (cf2, 20, .inl f2))]) [0, 1, 2, 3] rfl
      have hD9 := hD.sub (ws' := [(h0, .inr (1, [.ref qf0, .int v1, .ref qf2, .int v3, .int v4, .ref qf5, .ref qf6, .int v7, .int v8, .ref qf9, .int v10, .ref qf11, .ref qf12, .ref qf13, .int v14, .int 1])), (qf12, .inl (cf12, 5200, .inl f12)), (qf6, .inl (cf6, 750, .inl f6)), (qf2, .inl (cf2, 20, .inl f2))]) [0, 1, 2, 3] (by decide) rfl
      have hK9 := hK.sub (tys' := [(cf12, .int), (cf6, .int), (cf2, .int)]) [0, 1, 2] rfl
      exact W.vret hx hb hr (fun t ht hW => ⟨⟨(), rfl, trivial, by rw [ht]; exact hP9, va_K.moved hW.alike hK9, hD9⟩, hS.F ht⟩) hS.2.2 dX1_fillFrame_28
    · rw [if_neg c_2] at hsp
      refine lv_iload_n hx hb dX1_fillFrame_17 rfl (lv_at hl 4 rfl) ?_
      refine lv_bipush (v := 20) hx hb dX1_fillFrame_18 (by decide) ?_
      refine lv_icmp_le (tgt := 29) hx hb dX1_fillFrame_20 (by decide) (fun c_3 => ?_) (fun c_3 => ?_)
      · rw [if_pos c_3] at hsp
        refine lv_aload_n hx hb dX1_fillFrame_29 rfl (lv_at hl 1 rfl) ?_
        refine va_get (D := (dC, dI)) (ci := 1) (v := .ref qf12) (C := RX1) (T := TX1) (N := 16) hx hb hts uV_h7_X1 hown hK hP 0 rfl rfl 12 (by decide) (hts (.fieldLink RX1 33 "ClassMill$Code" "frameRow" "[I") mw_h7_26) (fun _ h9 => h9) rfl dX1_fillFrame_30 ?_
        refine lv_iload hx hb dX1_fillFrame_33 (lv_at hl 0 rfl) ?_
        refine lv_iload_n hx hb dX1_fillFrame_35 rfl (lv_at hl 3 rfl) ?_
        obtain ⟨hi_4, hsp⟩ := ox_in hsp
        refine va_iast hx hb hK hP hD hS 1 0 rfl rfl (i := (a1 * 52)) (x := a2) hi_4 dX1_fillFrame_36 ?_
        clear hP hD hS
        intro H locs hP hD hS
        replace hP : va_P (dC, dI) vwCl [(h0, .inr (1, [.ref qf0, .int v1, .ref qf2, .int v3, .int v4, .ref qf5, .ref qf6, .int v7, .int v8, .ref qf9, .int v10, .ref qf11, .ref qf12, .ref qf13, .int v14, .int v15])), (qf12, .inl (cf12, 5200, .inl (upd f12 ((a1 * 52) : Int32).toNatClampNeg a2))), (qf6, .inl (cf6, 750, .inl f6)), (qf2, .inl (cf2, 20, .inl f2))] H := hP
        replace hD : va_D A [(h0, .inr (1, [.ref qf0, .int v1, .ref qf2, .int v3, .int v4, .ref qf5, .ref qf6, .int v7, .int v8, .ref qf9, .int v10, .ref qf11, .ref qf12, .ref qf13, .int v14, .int v15])), (qf12, .inl (cf12, 5200, .inl (upd f12 ((a1 * 52) : Int32).toNatClampNeg a2))), (qf6, .inl (cf6, 750, .inl f6)), (qf2, .inl (cf2, 20, .inl f2))] := hD
        refine lv_aload_n hx hb dX1_fillFrame_37 rfl (lv_at hl 1 rfl) ?_
        refine va_get (D := (dC, dI)) (ci := 1) (v := .ref qf12) (C := RX1) (T := TX1) (N := 16) hx hb hts uV_h7_X1 hown hK hP 0 rfl rfl 12 (by decide) (hts (.fieldLink RX1 33 "ClassMill$Code" "frameRow" "[I") mw_h7_26) (fun _ h9 => h9) rfl dX1_fillFrame_38 ?_
        refine lv_iload hx hb dX1_fillFrame_41 (lv_at hl 0 rfl) ?_
        refine lv_iconst (v := 1) hx hb dX1_fillFrame_43 (by decide) ?_
        refine lv_iadd hx hb dX1_fillFrame_44 ?_
        refine lv_iload_n hx hb dX1_fillFrame_45 rfl (lv_at hl 4 rfl) ?_
        obtain ⟨hi_5, hsp⟩ := ox_in hsp
        refine va_iast hx hb hK hP hD hS 1 0 rfl rfl (i := ((a1 * 52) + 1)) (x := a3) hi_5 dX1_fillFrame_46 ?_
        clear hP hD hS
        intro H locs hP hD hS
        replace hP : va_P (dC, dI) vwCl [(h0, .inr (1, [.ref qf0, .int v1, .ref qf2, .int v3, .int v4, .ref qf5, .ref qf6, .int v7, .int v8, .ref qf9, .int v10, .ref qf11, .ref qf12, .ref qf13, .int v14, .int v15])), (qf12, .inl (cf12, 5200, .inl (upd (upd f12 ((a1 * 52) : Int32).toNatClampNeg a2) (((a1 * 52) + 1) : Int32).toNatClampNeg a3))), (qf6, .inl (cf6, 750, .inl f6)), (qf2, .inl (cf2, 20, .inl f2))] H := hP
        replace hD : va_D A [(h0, .inr (1, [.ref qf0, .int v1, .ref qf2, .int v3, .int v4, .ref qf5, .ref qf6, .int v7, .int v8, .ref qf9, .int v10, .ref qf11, .ref qf12, .ref qf13, .int v14, .int v15])), (qf12, .inl (cf12, 5200, .inl (upd (upd f12 ((a1 * 52) : Int32).toNatClampNeg a2) (((a1 * 52) + 1) : Int32).toNatClampNeg a3))), (qf6, .inl (cf6, 750, .inl f6)), (qf2, .inl (cf2, 20, .inl f2))] := hD
        refine lv_aload_n hx hb dX1_fillFrame_47 rfl (lv_at hl 1 rfl) ?_
        refine va_get (D := (dC, dI)) (ci := 1) (v := .ref qf6) (C := RX1) (T := TX1) (N := 16) hx hb hts uV_h7_X1 hown hK hP 0 rfl rfl 6 (by decide) (hts (.fieldLink RX1 24 "ClassMill$Code" "localType" "[I") mw_h7_27) (fun _ h9 => h9) rfl dX1_fillFrame_48 ?_
        refine lv_iconst (v := 0) hx hb dX1_fillFrame_51 (by decide) ?_
        refine lv_aload_n hx hb dX1_fillFrame_52 rfl (lv_at hl 1 rfl) ?_
        refine va_get (D := (dC, dI)) (ci := 1) (v := .ref qf12) (C := RX1) (T := TX1) (N := 16) hx hb hts uV_h7_X1 hown hK hP 0 rfl rfl 12 (by decide) (hts (.fieldLink RX1 33 "ClassMill$Code" "frameRow" "[I") mw_h7_26) (fun _ h9 => h9) rfl dX1_fillFrame_53 ?_
        refine lv_iload hx hb dX1_fillFrame_56 (lv_at hl 0 rfl) ?_
        refine lv_iconst (v := 2) hx hb dX1_fillFrame_58 (by decide) ?_
        refine lv_iadd hx hb dX1_fillFrame_59 ?_
        refine lv_iload_n hx hb dX1_fillFrame_60 rfl (lv_at hl 3 rfl) ?_
        obtain ⟨⟨hc_61, hc_62, hc_63, hc_64, hc_65⟩, hsp⟩ := ox_cp hsp
        refine va_copyi hx hb (by rw [hml]; exact hl.1.symm) hown (hts (.methodLink RX1 110 arraycopyName) mw_h7_28) (hts (.native arraycopyName) mw_h7_29) (hts (.static arraycopyName) mw_h7_30) (hts (.initialized "java/lang/System") mw_h7_31) hK hP hD hS 2 1 1 0 rfl rfl rfl rfl rfl (sp := 0) (dp := ((a1 * 52) + 2)) (n := a2) hc_61 hc_62 hc_63 hc_64 hc_65 (fun _ _ => rfl) (Nat.le_of_ble_eq_true rfl) (Nat.le_of_ble_eq_true rfl) dX1_fillFrame_61 ?_
        clear hP hD hS
        intro H locs hP hD hS
        replace hP : va_P (dC, dI) vwCl [(h0, .inr (1, [.ref qf0, .int v1, .ref qf2, .int v3, .int v4, .ref qf5, .ref qf6, .int v7, .int v8, .ref qf9, .int v10, .ref qf11, .ref qf12, .ref qf13, .int v14, .int v15])), (qf12, .inl (cf12, 5200, .inl (va_cpy f6 (upd (upd f12 ((a1 * 52) : Int32).toNatClampNeg a2) (((a1 * 52) + 1) : Int32).toNatClampNeg a3) (0 : Int32).toNatClampNeg (((a1 * 52) + 2) : Int32).toNatClampNeg (a2 : Int32).toNatClampNeg))), (qf6, .inl (cf6, 750, .inl f6)), (qf2, .inl (cf2, 20, .inl f2))] H := hP
        replace hD : va_D A [(h0, .inr (1, [.ref qf0, .int v1, .ref qf2, .int v3, .int v4, .ref qf5, .ref qf6, .int v7, .int v8, .ref qf9, .int v10, .ref qf11, .ref qf12, .ref qf13, .int v14, .int v15])), (qf12, .inl (cf12, 5200, .inl (va_cpy f6 (upd (upd f12 ((a1 * 52) : Int32).toNatClampNeg a2) (((a1 * 52) + 1) : Int32).toNatClampNeg a3) (0 : Int32).toNatClampNeg (((a1 * 52) + 2) : Int32).toNatClampNeg (a2 : Int32).toNatClampNeg))), (qf6, .inl (cf6, 750, .inl f6)), (qf2, .inl (cf2, 20, .inl f2))] := hD
        refine lv_aload_n hx hb dX1_fillFrame_64 rfl (lv_at hl 1 rfl) ?_
        refine va_get (D := (dC, dI)) (ci := 1) (v := .ref qf2) (C := RX1) (T := TX1) (N := 16) hx hb hts uV_h7_X1 hown hK hP 0 rfl rfl 2 (by decide) (hts (.fieldLink RX1 17 "ClassMill$Code" "stack" "[I") mw_h7_32) (fun _ h9 => h9) rfl dX1_fillFrame_65 ?_
        refine lv_iconst (v := 0) hx hb dX1_fillFrame_68 (by decide) ?_
        refine lv_aload_n hx hb dX1_fillFrame_69 rfl (lv_at hl 1 rfl) ?_
        refine va_get (D := (dC, dI)) (ci := 1) (v := .ref qf12) (C := RX1) (T := TX1) (N := 16) hx hb hts uV_h7_X1 hown hK hP 0 rfl rfl 12 (by decide) (hts (.fieldLink RX1 33 "ClassMill$Code" "frameRow" "[I") mw_h7_26) (fun _ h9 => h9) rfl dX1_fillFrame_70 ?_
        refine lv_iload hx hb dX1_fillFrame_73 (lv_at hl 0 rfl) ?_
        refine lv_iconst (v := 2) hx hb dX1_fillFrame_75 (by decide) ?_
        refine lv_iadd hx hb dX1_fillFrame_76 ?_
        refine lv_iload_n hx hb dX1_fillFrame_77 rfl (lv_at hl 3 rfl) ?_
        refine lv_iadd hx hb dX1_fillFrame_78 ?_
        refine lv_iload_n hx hb dX1_fillFrame_79 rfl (lv_at hl 4 rfl) ?_
        obtain ⟨⟨hc_71, hc_72, hc_73, hc_74, hc_75⟩, hsp⟩ := ox_cp hsp
        refine va_copyi hx hb (by rw [hml]; exact hl.1.symm) hown (hts (.methodLink RX1 110 arraycopyName) mw_h7_28) (hts (.native arraycopyName) mw_h7_29) (hts (.static arraycopyName) mw_h7_30) (hts (.initialized "java/lang/System") mw_h7_31) hK hP hD hS 3 1 2 0 rfl rfl rfl rfl rfl (sp := 0) (dp := (((a1 * 52) + 2) + a2)) (n := a3) hc_71 hc_72 hc_73 hc_74 hc_75 (fun _ _ => rfl) (Nat.le_of_ble_eq_true rfl) (Nat.le_of_ble_eq_true rfl) dX1_fillFrame_80 ?_
        clear hP hD hS
        intro H locs hP hD hS
        replace hP : va_P (dC, dI) vwCl [(h0, .inr (1, [.ref qf0, .int v1, .ref qf2, .int v3, .int v4, .ref qf5, .ref qf6, .int v7, .int v8, .ref qf9, .int v10, .ref qf11, .ref qf12, .ref qf13, .int v14, .int v15])), (qf12, .inl (cf12, 5200, .inl (va_cpy f2 (va_cpy f6 (upd (upd f12 ((a1 * 52) : Int32).toNatClampNeg a2) (((a1 * 52) + 1) : Int32).toNatClampNeg a3) (0 : Int32).toNatClampNeg (((a1 * 52) + 2) : Int32).toNatClampNeg (a2 : Int32).toNatClampNeg) (0 : Int32).toNatClampNeg ((((a1 * 52) + 2) + a2) : Int32).toNatClampNeg (a3 : Int32).toNatClampNeg))), (qf6, .inl (cf6, 750, .inl f6)), (qf2, .inl (cf2, 20, .inl f2))] H := hP
        replace hD : va_D A [(h0, .inr (1, [.ref qf0, .int v1, .ref qf2, .int v3, .int v4, .ref qf5, .ref qf6, .int v7, .int v8, .ref qf9, .int v10, .ref qf11, .ref qf12, .ref qf13, .int v14, .int v15])), (qf12, .inl (cf12, 5200, .inl (va_cpy f2 (va_cpy f6 (upd (upd f12 ((a1 * 52) : Int32).toNatClampNeg a2) (((a1 * 52) + 1) : Int32).toNatClampNeg a3) (0 : Int32).toNatClampNeg (((a1 * 52) + 2) : Int32).toNatClampNeg (a2 : Int32).toNatClampNeg) (0 : Int32).toNatClampNeg ((((a1 * 52) + 2) + a2) : Int32).toNatClampNeg (a3 : Int32).toNatClampNeg))), (qf6, .inl (cf6, 750, .inl f6)), (qf2, .inl (cf2, 20, .inl f2))] := hD
        have hr0 := Option.some.inj hsp
        clear hsp
        obtain ⟨hq0, hr1⟩ := Prod.mk.inj hr0
        clear hr0
        subst hq0
        subst hr1
        have hP9 := hP.sub (ws' := [(h0, .inr (1, [.ref qf0, .int v1, .ref qf2, .int v3, .int v4, .ref qf5, .ref qf6, .int v7, .int v8, .ref qf9, .int v10, .ref qf11, .ref qf12, .ref qf13, .int v14, .int v15])), (qf12, .inl (cf12, 5200, .inl (va_cpy f2 (va_cpy f6 (upd (upd f12 ((a1 * 52) : Int32).toNatClampNeg a2) (((a1 * 52) + 1) : Int32).toNatClampNeg a3) (0 : Int32).toNatClampNeg (((a1 * 52) + 2) : Int32).toNatClampNeg (a2 : Int32).toNatClampNeg) (0 : Int32).toNatClampNeg ((((a1 * 52) + 2) + a2) : Int32).toNatClampNeg (a3 : Int32).toNatClampNeg))), (qf6, .inl (cf6, 750, .inl f6)), (qf2, .inl (cf2, 20, .inl f2))]) [0, 1, 2, 3] rfl
        have hD9 := hD.sub (ws' := [(h0, .inr (1, [.ref qf0, .int v1, .ref qf2, .int v3, .int v4, .ref qf5, .ref qf6, .int v7, .int v8, .ref qf9, .int v10, .ref qf11, .ref qf12, .ref qf13, .int v14, .int v15])), (qf12, .inl (cf12, 5200, .inl (va_cpy f2 (va_cpy f6 (upd (upd f12 ((a1 * 52) : Int32).toNatClampNeg a2) (((a1 * 52) + 1) : Int32).toNatClampNeg a3) (0 : Int32).toNatClampNeg (((a1 * 52) + 2) : Int32).toNatClampNeg (a2 : Int32).toNatClampNeg) (0 : Int32).toNatClampNeg ((((a1 * 52) + 2) + a2) : Int32).toNatClampNeg (a3 : Int32).toNatClampNeg))), (qf6, .inl (cf6, 750, .inl f6)), (qf2, .inl (cf2, 20, .inl f2))]) [0, 1, 2, 3] (by decide) rfl
        have hK9 := hK.sub (tys' := [(cf12, .int), (cf6, .int), (cf2, .int)]) [0, 1, 2] rfl
        exact W.vret hx hb hr (fun t ht hW => ⟨⟨(), rfl, trivial, by rw [ht]; exact hP9, va_K.moved hW.alike hK9, hD9⟩, hS.F ht⟩) hS.2.2 dX1_fillFrame_83
      · rw [if_neg c_3] at hsp
        refine lv_aload_n hx hb dX1_fillFrame_23 rfl (lv_at hl 1 rfl) ?_
        refine lv_iconst (v := 1) hx hb dX1_fillFrame_24 (by decide) ?_
        refine va_put (D := (dC, dI)) (ci := 1) (v := .int 1) (ty := .boolean) (C := RX1) (T := TX1) (N := 16) hx hb hts uV_h7_X1 tyX1 tyX1_ok nmX1 hown hK hP hD hS 0 rfl rfl 15 (by decide) (hts (.fieldLink RX1 61 "ClassMill$Code" "full" "Z") mw_h7_25) (fun _ h9 => h9) rfl (by decide +kernel) rfl rfl (Nat.le_of_ble_eq_true rfl) dX1_fillFrame_25 ?_
        clear hP hD hS
        intro H locs hP hD hS
        replace hP : va_P (dC, dI) vwCl [(h0, .inr (1, [.ref qf0, .int v1, .ref qf2, .int v3, .int v4, .ref qf5, .ref qf6, .int v7, .int v8, .ref qf9, .int v10, .ref qf11, .ref qf12, .ref qf13, .int v14, .int 1])), (qf12, .inl (cf12, 5200, .inl f12)), (qf6, .inl (cf6, 750, .inl f6)), (qf2, .inl (cf2, 20, .inl f2))] H := hP
        replace hD : va_D A [(h0, .inr (1, [.ref qf0, .int v1, .ref qf2, .int v3, .int v4, .ref qf5, .ref qf6, .int v7, .int v8, .ref qf9, .int v10, .ref qf11, .ref qf12, .ref qf13, .int v14, .int 1])), (qf12, .inl (cf12, 5200, .inl f12)), (qf6, .inl (cf6, 750, .inl f6)), (qf2, .inl (cf2, 20, .inl f2))] := hD
        have hr0 := Option.some.inj hsp
        clear hsp
        obtain ⟨hq0, hr1⟩ := Prod.mk.inj hr0
        clear hr0
        subst hq0
        subst hr1
        have hP9 := hP.sub (ws' := [(h0, .inr (1, [.ref qf0, .int v1, .ref qf2, .int v3, .int v4, .ref qf5, .ref qf6, .int v7, .int v8, .ref qf9, .int v10, .ref qf11, .ref qf12, .ref qf13, .int v14, .int 1])), (qf12, .inl (cf12, 5200, .inl f12)), (qf6, .inl (cf6, 750, .inl f6)), (qf2, .inl (cf2, 20, .inl f2))]) [0, 1, 2, 3] rfl
        have hD9 := hD.sub (ws' := [(h0, .inr (1, [.ref qf0, .int v1, .ref qf2, .int v3, .int v4, .ref qf5, .ref qf6, .int v7, .int v8, .ref qf9, .int v10, .ref qf11, .ref qf12, .ref qf13, .int v14, .int 1])), (qf12, .inl (cf12, 5200, .inl f12)), (qf6, .inl (cf6, 750, .inl f6)), (qf2, .inl (cf2, 20, .inl f2))]) [0, 1, 2, 3] (by decide) rfl
        have hK9 := hK.sub (tys' := [(cf12, .int), (cf6, .int), (cf2, .int)]) [0, 1, 2] rfl
        exact W.vret hx hb hr (fun t ht hW => ⟨⟨(), rfl, trivial, by rw [ht]; exact hP9, va_K.moved hW.alike hK9, hD9⟩, hS.F ht⟩) hS.2.2 dX1_fillFrame_28
def jn_v1_slotOfFrame_62 (nf : Nat) (a1 : Int32) (v14 : Int32) (f13 : Nat → Int32) (f11 : Nat → Int32)  (l1_62 : Int32) (l2_62 : Int32) (g11_62 : Nat → Int32) (g13_62 : Nat → Int32) (x14_62 : Int32) : Option (Int32 × (Nat → Int32) × (Nat → Int32) × Int32) := (if x14_62 < 100 then (if cp_ok l2_62 (l2_62 + 1) (x14_62 - l2_62) 100 100 = true then (if l2_62 < 0 then none else if 100 ≤ (l2_62 : Int32).toNatClampNeg then none else (if x14_62 < 0 then none else if 100 ≤ (x14_62 : Int32).toNatClampNeg then none else (if l2_62 < 0 then none else if 100 ≤ (l2_62 : Int32).toNatClampNeg then none else (some (((upd (va_cpy g13_62 g13_62 (l2_62 : Int32).toNatClampNeg ((l2_62 + 1) : Int32).toNatClampNeg ((x14_62 - l2_62) : Int32).toNatClampNeg) (l2_62 : Int32).toNatClampNeg x14_62) (l2_62 : Int32).toNatClampNeg), (upd g11_62 (x14_62 : Int32).toNatClampNeg l1_62), (upd (va_cpy g13_62 g13_62 (l2_62 : Int32).toNatClampNeg ((l2_62 + 1) : Int32).toNatClampNeg ((x14_62 - l2_62) : Int32).toNatClampNeg) (l2_62 : Int32).toNatClampNeg x14_62), (x14_62 + 1)))))) else none) else (some ((-1), g11_62, g13_62, x14_62)))
def jn_v1_slotOfFrame_32 (nf : Nat) (a1 : Int32) (v14 : Int32) (f13 : Nat → Int32) (f11 : Nat → Int32)  (l1_32 : Int32) (l2_32 : Int32) (g11_32 : Nat → Int32) (g13_32 : Nat → Int32) (x14_32 : Int32) : Option (Int32 × (Nat → Int32) × (Nat → Int32) × Int32) := (if l2_32 ≤ 0 then (jn_v1_slotOfFrame_62 nf a1 v14 f13 f11  l1_32 l2_32 g11_32 g13_32 x14_32) else (if (l2_32 - 1) < 0 then none else if 100 ≤ ((l2_32 - 1) : Int32).toNatClampNeg then none else (if (g13_32 ((l2_32 - 1) : Int32).toNatClampNeg) < 0 then none else if 100 ≤ ((g13_32 ((l2_32 - 1) : Int32).toNatClampNeg) : Int32).toNatClampNeg then none else (if (g11_32 ((g13_32 ((l2_32 - 1) : Int32).toNatClampNeg) : Int32).toNatClampNeg) = l1_32 then (if (l2_32 - 1) < 0 then none else if 100 ≤ ((l2_32 - 1) : Int32).toNatClampNeg then none else (some ((g13_32 ((l2_32 - 1) : Int32).toNatClampNeg), g11_32, g13_32, x14_32))) else (jn_v1_slotOfFrame_62 nf a1 v14 f13 f11  l1_32 l2_32 g11_32 g13_32 x14_32)))))
def lp_v1_slotOfFrame_5 (nf n : Nat) (a1 : Int32) (v14 : Int32) (f13 : Nat → Int32) (f11 : Nat → Int32)  (l1_5 : Int32) (l2_5 : Int32) (g11_5 : Nat → Int32) (g13_5 : Nat → Int32) (x14_5 : Int32) : Option (Int32 × (Nat → Int32) × (Nat → Int32) × Int32) := match n with
  | 0 => none
  | n + 1 => (if l2_5 ≤ 0 then (jn_v1_slotOfFrame_32 nf a1 v14 f13 f11  l1_5 l2_5 g11_5 g13_5 x14_5) else (if (l2_5 - 1) < 0 then none else if 100 ≤ ((l2_5 - 1) : Int32).toNatClampNeg then none else (if (g13_5 ((l2_5 - 1) : Int32).toNatClampNeg) < 0 then none else if 100 ≤ ((g13_5 ((l2_5 - 1) : Int32).toNatClampNeg) : Int32).toNatClampNeg then none else (if (g11_5 ((g13_5 ((l2_5 - 1) : Int32).toNatClampNeg) : Int32).toNatClampNeg) ≤ l1_5 then (jn_v1_slotOfFrame_32 nf a1 v14 f13 f11  l1_5 l2_5 g11_5 g13_5 x14_5) else (lp_v1_slotOfFrame_5 nf n a1 v14 f13 f11 l1_5 (l2_5 + (-1)) g11_5 g13_5 x14_5)))))
def sp_v1_slotOfFrame (nf : Nat) (a1 : Int32) (v14 : Int32) (f13 : Nat → Int32) (f11 : Nat → Int32) : Option (Int32 × (Nat → Int32) × (Nat → Int32) × Int32) := (lp_v1_slotOfFrame_5 nf nf a1 v14 f13 f11  a1 v14 f11 f13 v14)
set_option maxHeartbeats 4000000 in
set_option maxRecDepth 100000 in
/-- ClassMill$Code.slotOfFrame -/
theorem v1_slotOfFrame (l : Launch) (dC : Nat → ClassId) (dI : Nat → Nat → Nat) (sz : Nat) (h0 : Nat) (a1 : Int32) (qf0 : Nat) (v1 : Int32) (qf2 : Nat) (v3 : Int32) (v4 : Int32) (qf5 : Nat) (qf6 : Nat) (v7 : Int32) (v8 : Int32) (qf9 : Nat) (v10 : Int32) (qf11 : Nat) (qf12 : Nat) (qf13 : Nat) (v14 : Int32) (v15 : Int32) (cf13 : ClassId) (f13 : (Nat → Int32)) (cf11 : ClassId) (f11 : (Nat → Int32)) (nf : Nat) (r0 : Int32) (o11 : (Nat → Int32)) (o13 : (Nat → Int32)) (w14 : Int32) (hsp : sp_v1_slotOfFrame nf a1 v14 f13 f11 = some (r0, o11, o13, w14)) : Met l yX1_slotOfFrame (.code yX1_slotOfFrame cX1_slotOfFrame 3 (some .int) :: VS_h7) ({ frames := 1, cells := 0, slots := 0, locals := 40 }) (va_Pc [.ref h0, .int a1] (fun U => U.heap.size = sz ∧ va_P (dC, dI) vwCl [(h0, .inr (1, [.ref qf0, .int v1, .ref qf2, .int v3, .int v4, .ref qf5, .ref qf6, .int v7, .int v8, .ref qf9, .int v10, .ref qf11, .ref qf12, .ref qf13, .int v14, .int v15])), (qf13, .inl (cf13, 100, .inl f13)), (qf11, .inl (cf11, 100, .inl f11))] U.heap ∧ va_K (dC, dI) vwCl [(cf13, .int), (cf11, .int)] U ∧ va_D (fun _ => True) [(h0, .inr (1, [.ref qf0, .int v1, .ref qf2, .int v3, .int v4, .ref qf5, .ref qf6, .int v7, .int v8, .ref qf9, .int v10, .ref qf11, .ref qf12, .ref qf13, .int v14, .int v15])), (qf13, .inl (cf13, 100, .inl f13)), (qf11, .inl (cf11, 100, .inl f11))])) (va_Qi (fun (r : Int32) (u : Unit) => match u with | () => r0 = r) (fun (u : Unit) (t : State) => match u with | () => va_P (dC, dI) vwCl [(h0, .inr (1, [.ref qf0, .int v1, .ref qf2, .int v3, .int v4, .ref qf5, .ref qf6, .int v7, .int v8, .ref qf9, .int v10, .ref qf11, .ref qf12, .ref qf13, .int w14, .int v15])), (qf13, .inl (cf13, 100, .inl o13)), (qf11, .inl (cf11, 100, .inl o11))] t.heap ∧ va_K (dC, dI) vwCl [(cf13, .int), (cf11, .int)] t ∧ va_D (va_A [(h0, .inr (1, [.ref qf0, .int v1, .ref qf2, .int v3, .int v4, .ref qf5, .ref qf6, .int v7, .int v8, .ref qf9, .int v10, .ref qf11, .ref qf12, .ref qf13, .int v14, .int v15])), (qf13, .inl (cf13, 100, .inl f13)), (qf11, .inl (cf11, 100, .inl f11))] sz) [(h0, .inr (1, [.ref qf0, .int v1, .ref qf2, .int v3, .int v4, .ref qf5, .ref qf6, .int v7, .int v8, .ref qf9, .int v10, .ref qf11, .ref qf12, .ref qf13, .int w14, .int v15])), (qf13, .inl (cf13, 100, .inl o13)), (qf11, .inl (cf11, 100, .inl o11))]) (va_A [(h0, .inr (1, [.ref qf0, .int v1, .ref qf2, .int v3, .int v4, .ref qf5, .ref qf6, .int v7, .int v8, .ref qf9, .int v10, .ref qf11, .ref qf12, .ref qf13, .int v14, .int v15])), (qf13, .inl (cf13, 100, .inl f13)), (qf11, .inl (cf11, 100, .inl f11))] sz)) 0 0 (va_A [(h0, .inr (1, [.ref qf0, .int v1, .ref qf2, .int v3, .int v4, .ref qf5, .ref qf6, .int v7, .int v8, .ref qf9, .int v10, .ref qf11, .ref qf12, .ref qf13, .int v14, .int v15])), (qf13, .inl (cf13, 100, .inl f13)), (qf11, .inl (cf11, 100, .inl f11))] sz) := by
  refine Met.ofW (cc := cX1_slotOfFrame) (maxL := 3) (ret := (some .int)) (by decide) rfl ?_
  intro p e s m args below meth c s₁ B hml hv
  obtain ⟨rfl, hsz, hP, hK, hD0⟩ := hv
  have hx := B.exec
  have hb := B.bytes
  have hr := B.returns
  have hts := atoms_spec (ws := (.code yX1_slotOfFrame cX1_slotOfFrame 3 (some .int) :: VS_h7)) B.pre
  replace hts := fun w (h : w ∈ VS_h7) => hts w (List.mem_cons_of_mem _ h)
  have hown : s.vm.findClass RX1 = some m.cls := findClass_of_methodNamed B.named
  have hlocks := B.notSynchronized
  subst hsz
  have hD := hD0.self (sz := s.heap.size)
  generalize hAe : va_A [(h0, .inr (1, [.ref qf0, .int v1, .ref qf2, .int v3, .int v4, .ref qf5, .ref qf6, .int v7, .int v8, .ref qf9, .int v10, .ref qf11, .ref qf12, .ref qf13, .int v14, .int v15])), (qf13, .inl (cf13, 100, .inl f13)), (qf11, .inl (cf11, 100, .inl f11))] s.heap.size = A at hD  ⊢
  have hA : ∀ q : Nat, s.heap.size ≤ q → A q := fun q h => by rw [← hAe]; exact Or.inr h
  have hP : va_P (dC, dI) vwCl [(h0, .inr (1, [.ref qf0, .int v1, .ref qf2, .int v3, .int v4, .ref qf5, .ref qf6, .int v7, .int v8, .ref qf9, .int v10, .ref qf11, .ref qf12, .ref qf13, .int v14, .int v15])), (qf13, .inl (cf13, 100, .inl f13)), (qf11, .inl (cf11, 100, .inl f11))] s.heap := hP
  have hl := lv_entry ([.ref h0, .int a1]) (n := 3) (Nat.le_of_ble_eq_true rfl)
  rw [lg_entry_eq]
  generalize (lg_sl ([.ref h0, .int a1]) ++ List.replicate (3 - (lg_sl ([.ref h0, .int a1])).length) Slot.unset).toArray = ls at hl ⊢
  have hl : lv_has ls 3 [(0, .ref h0), (1, .int a1)] := hl
  obtain ⟨H, hH⟩ : ∃ H : Heap, s.heap = H := ⟨_, rfl⟩
  rw [hH] at hP ⊢
  have hS : va_S A s.heap H [] := by rw [← hH]; exact va_S.rf
  obtain ⟨locs, hlo⟩ : ∃ locs : List Loc, locs = [] := ⟨_, rfl⟩
  rw [← hlo] at hS ⊢
  unfold sp_v1_slotOfFrame at hsp
  refine jn_use (α := Heap × List Loc × Array Slot × Int32 × Int32 × (Nat → Int32) × (Nat → Int32) × Int32) (fun x9 => x9.1) (fun x9 => x9.2.1) (fun x9 => F0 m 62 x9.2.2.1 []) (fun x9 => match x9 with | (H, locs, ls, l1_62, l2_62, g11_62, g13_62, x14_62) => lv_has ls 3 [(0, .ref h0), (1, .int l1_62), (2, .int l2_62)] ∧ va_S A s.heap H locs ∧ va_D A [(h0, .inr (1, [.ref qf0, .int v1, .ref qf2, .int v3, .int v4, .ref qf5, .ref qf6, .int v7, .int v8, .ref qf9, .int v10, .ref qf11, .ref qf12, .ref qf13, .int x14_62, .int v15])), (qf13, .inl (cf13, 100, .inl g13_62)), (qf11, .inl (cf11, 100, .inl g11_62))] ∧ va_P (dC, dI) vwCl [(h0, .inr (1, [.ref qf0, .int v1, .ref qf2, .int v3, .int v4, .ref qf5, .ref qf6, .int v7, .int v8, .ref qf9, .int v10, .ref qf11, .ref qf12, .ref qf13, .int x14_62, .int v15])), (qf13, .inl (cf13, 100, .inl g13_62)), (qf11, .inl (cf11, 100, .inl g11_62))] H ∧ jn_v1_slotOfFrame_62 nf a1 v14 f13 f11 l1_62 l2_62 g11_62 g13_62 x14_62 = some (r0, o11, o13, w14)) ?_ ?_
  · intro x9 hJ9
    obtain ⟨H, locs, ls, l1_62, l2_62, g11_62, g13_62, x14_62⟩ := x9
    obtain ⟨hl, hS, hD, hP, hsp⟩ := hJ9
    replace hl : lv_has ls 3 [(0, .ref h0), (1, .int l1_62), (2, .int l2_62)] := hl
    replace hS : va_S A s.heap H locs := hS
    replace hD : va_D A [(h0, .inr (1, [.ref qf0, .int v1, .ref qf2, .int v3, .int v4, .ref qf5, .ref qf6, .int v7, .int v8, .ref qf9, .int v10, .ref qf11, .ref qf12, .ref qf13, .int x14_62, .int v15])), (qf13, .inl (cf13, 100, .inl g13_62)), (qf11, .inl (cf11, 100, .inl g11_62))] := hD
    replace hP : va_P (dC, dI) vwCl [(h0, .inr (1, [.ref qf0, .int v1, .ref qf2, .int v3, .int v4, .ref qf5, .ref qf6, .int v7, .int v8, .ref qf9, .int v10, .ref qf11, .ref qf12, .ref qf13, .int x14_62, .int v15])), (qf13, .inl (cf13, 100, .inl g13_62)), (qf11, .inl (cf11, 100, .inl g11_62))] H := hP
    replace hsp : jn_v1_slotOfFrame_62 nf a1 v14 f13 f11 l1_62 l2_62 g11_62 g13_62 x14_62 = some (r0, o11, o13, w14) := hsp
    show W p l e _ s m args below meth c H locs _ _ _ (F0 m 62 ls [])
    unfold jn_v1_slotOfFrame_62 at hsp
    try dsimp only at hsp
    refine lv_aload_n hx hb dX1_slotOfFrame_62 rfl (lv_at hl 0 rfl) ?_
    refine va_get (D := (dC, dI)) (ci := 1) (v := .int x14_62) (C := RX1) (T := TX1) (N := 16) hx hb hts uV_h7_X1 hown hK hP 0 rfl rfl 14 (by decide) (hts (.fieldLink RX1 58 "ClassMill$Code" "frameCount" "I") mw_h7_33) (fun _ h9 => h9) rfl dX1_slotOfFrame_63 ?_
    refine lv_bipush (v := 100) hx hb dX1_slotOfFrame_66 (by decide) ?_
    refine lv_icmp_lt (tgt := 73) hx hb dX1_slotOfFrame_68 (by decide) (fun c_10 => ?_) (fun c_10 => ?_)
    · rw [if_pos c_10] at hsp
      refine lv_aload_n hx hb dX1_slotOfFrame_73 rfl (lv_at hl 0 rfl) ?_
      refine va_get (D := (dC, dI)) (ci := 1) (v := .ref qf13) (C := RX1) (T := TX1) (N := 16) hx hb hts uV_h7_X1 hown hK hP 0 rfl rfl 13 (by decide) (hts (.fieldLink RX1 36 "ClassMill$Code" "frameOrder" "[I") mw_h7_34) (fun _ h9 => h9) rfl dX1_slotOfFrame_74 ?_
      refine lv_iload_n hx hb dX1_slotOfFrame_77 rfl (lv_at hl 2 rfl) ?_
      refine lv_aload_n hx hb dX1_slotOfFrame_78 rfl (lv_at hl 0 rfl) ?_
      refine va_get (D := (dC, dI)) (ci := 1) (v := .ref qf13) (C := RX1) (T := TX1) (N := 16) hx hb hts uV_h7_X1 hown hK hP 0 rfl rfl 13 (by decide) (hts (.fieldLink RX1 36 "ClassMill$Code" "frameOrder" "[I") mw_h7_34) (fun _ h9 => h9) rfl dX1_slotOfFrame_79 ?_
      refine lv_iload_n hx hb dX1_slotOfFrame_82 rfl (lv_at hl 2 rfl) ?_
      refine lv_iconst (v := 1) hx hb dX1_slotOfFrame_83 (by decide) ?_
      refine lv_iadd hx hb dX1_slotOfFrame_84 ?_
      refine lv_aload_n hx hb dX1_slotOfFrame_85 rfl (lv_at hl 0 rfl) ?_
      refine va_get (D := (dC, dI)) (ci := 1) (v := .int x14_62) (C := RX1) (T := TX1) (N := 16) hx hb hts uV_h7_X1 hown hK hP 0 rfl rfl 14 (by decide) (hts (.fieldLink RX1 58 "ClassMill$Code" "frameCount" "I") mw_h7_33) (fun _ h9 => h9) rfl dX1_slotOfFrame_86 ?_
      refine lv_iload_n hx hb dX1_slotOfFrame_89 rfl (lv_at hl 2 rfl) ?_
      refine lv_isub hx hb dX1_slotOfFrame_90 ?_
      obtain ⟨⟨hc_111, hc_112, hc_113, hc_114, hc_115⟩, hsp⟩ := ox_cp hsp
      refine va_copyi hx hb (by rw [hml]; exact hl.1.symm) hown (hts (.methodLink RX1 110 arraycopyName) mw_h7_28) (hts (.native arraycopyName) mw_h7_29) (hts (.static arraycopyName) mw_h7_30) (hts (.initialized "java/lang/System") mw_h7_31) hK hP hD hS 1 1 0 0 rfl rfl rfl rfl rfl (sp := l2_62) (dp := (l2_62 + 1)) (n := (x14_62 - l2_62)) hc_111 hc_112 hc_113 hc_114 hc_115 (fun _ _ => rfl) (Nat.le_of_ble_eq_true rfl) (Nat.le_of_ble_eq_true rfl) dX1_slotOfFrame_91 ?_
      clear hP hD hS
      intro H locs hP hD hS
      replace hP : va_P (dC, dI) vwCl [(h0, .inr (1, [.ref qf0, .int v1, .ref qf2, .int v3, .int v4, .ref qf5, .ref qf6, .int v7, .int v8, .ref qf9, .int v10, .ref qf11, .ref qf12, .ref qf13, .int x14_62, .int v15])), (qf13, .inl (cf13, 100, .inl (va_cpy g13_62 g13_62 (l2_62 : Int32).toNatClampNeg ((l2_62 + 1) : Int32).toNatClampNeg ((x14_62 - l2_62) : Int32).toNatClampNeg))), (qf11, .inl (cf11, 100, .inl g11_62))] H := hP
      replace hD : va_D A [(h0, .inr (1, [.ref qf0, .int v1, .ref qf2, .int v3, .int v4, .ref qf5, .ref qf6, .int v7, .int v8, .ref qf9, .int v10, .ref qf11, .ref qf12, .ref qf13, .int x14_62, .int v15])), (qf13, .inl (cf13, 100, .inl (va_cpy g13_62 g13_62 (l2_62 : Int32).toNatClampNeg ((l2_62 + 1) : Int32).toNatClampNeg ((x14_62 - l2_62) : Int32).toNatClampNeg))), (qf11, .inl (cf11, 100, .inl g11_62))] := hD
      refine lv_aload_n hx hb dX1_slotOfFrame_94 rfl (lv_at hl 0 rfl) ?_
      refine va_get (D := (dC, dI)) (ci := 1) (v := .ref qf13) (C := RX1) (T := TX1) (N := 16) hx hb hts uV_h7_X1 hown hK hP 0 rfl rfl 13 (by decide) (hts (.fieldLink RX1 36 "ClassMill$Code" "frameOrder" "[I") mw_h7_34) (fun _ h9 => h9) rfl dX1_slotOfFrame_95 ?_
      refine lv_iload_n hx hb dX1_slotOfFrame_98 rfl (lv_at hl 2 rfl) ?_
      refine lv_aload_n hx hb dX1_slotOfFrame_99 rfl (lv_at hl 0 rfl) ?_
      refine va_get (D := (dC, dI)) (ci := 1) (v := .int x14_62) (C := RX1) (T := TX1) (N := 16) hx hb hts uV_h7_X1 hown hK hP 0 rfl rfl 14 (by decide) (hts (.fieldLink RX1 58 "ClassMill$Code" "frameCount" "I") mw_h7_33) (fun _ h9 => h9) rfl dX1_slotOfFrame_100 ?_
      obtain ⟨hi_12, hsp⟩ := ox_in hsp
      refine va_iast hx hb hK hP hD hS 1 0 rfl rfl (i := l2_62) (x := x14_62) hi_12 dX1_slotOfFrame_103 ?_
      clear hP hD hS
      intro H locs hP hD hS
      replace hP : va_P (dC, dI) vwCl [(h0, .inr (1, [.ref qf0, .int v1, .ref qf2, .int v3, .int v4, .ref qf5, .ref qf6, .int v7, .int v8, .ref qf9, .int v10, .ref qf11, .ref qf12, .ref qf13, .int x14_62, .int v15])), (qf13, .inl (cf13, 100, .inl (upd (va_cpy g13_62 g13_62 (l2_62 : Int32).toNatClampNeg ((l2_62 + 1) : Int32).toNatClampNeg ((x14_62 - l2_62) : Int32).toNatClampNeg) (l2_62 : Int32).toNatClampNeg x14_62))), (qf11, .inl (cf11, 100, .inl g11_62))] H := hP
      replace hD : va_D A [(h0, .inr (1, [.ref qf0, .int v1, .ref qf2, .int v3, .int v4, .ref qf5, .ref qf6, .int v7, .int v8, .ref qf9, .int v10, .ref qf11, .ref qf12, .ref qf13, .int x14_62, .int v15])), (qf13, .inl (cf13, 100, .inl (upd (va_cpy g13_62 g13_62 (l2_62 : Int32).toNatClampNeg ((l2_62 + 1) : Int32).toNatClampNeg ((x14_62 - l2_62) : Int32).toNatClampNeg) (l2_62 : Int32).toNatClampNeg x14_62))), (qf11, .inl (cf11, 100, .inl g11_62))] := hD
      refine lv_aload_n hx hb dX1_slotOfFrame_104 rfl (lv_at hl 0 rfl) ?_
      refine va_get (D := (dC, dI)) (ci := 1) (v := .ref qf11) (C := RX1) (T := TX1) (N := 16) hx hb hts uV_h7_X1 hown hK hP 0 rfl rfl 11 (by decide) (hts (.fieldLink RX1 30 "ClassMill$Code" "framePlace" "[I") mw_h7_35) (fun _ h9 => h9) rfl dX1_slotOfFrame_105 ?_
      refine lv_aload_n hx hb dX1_slotOfFrame_108 rfl (lv_at hl 0 rfl) ?_
      refine va_get (D := (dC, dI)) (ci := 1) (v := .int x14_62) (C := RX1) (T := TX1) (N := 16) hx hb hts uV_h7_X1 hown hK hP 0 rfl rfl 14 (by decide) (hts (.fieldLink RX1 58 "ClassMill$Code" "frameCount" "I") mw_h7_33) (fun _ h9 => h9) rfl dX1_slotOfFrame_109 ?_
      refine lv_iload_n hx hb dX1_slotOfFrame_112 rfl (lv_at hl 1 rfl) ?_
      obtain ⟨hi_13, hsp⟩ := ox_in hsp
      refine va_iast hx hb hK hP hD hS 2 1 rfl rfl (i := x14_62) (x := l1_62) hi_13 dX1_slotOfFrame_113 ?_
      clear hP hD hS
      intro H locs hP hD hS
      replace hP : va_P (dC, dI) vwCl [(h0, .inr (1, [.ref qf0, .int v1, .ref qf2, .int v3, .int v4, .ref qf5, .ref qf6, .int v7, .int v8, .ref qf9, .int v10, .ref qf11, .ref qf12, .ref qf13, .int x14_62, .int v15])), (qf13, .inl (cf13, 100, .inl (upd (va_cpy g13_62 g13_62 (l2_62 : Int32).toNatClampNeg ((l2_62 + 1) : Int32).toNatClampNeg ((x14_62 - l2_62) : Int32).toNatClampNeg) (l2_62 : Int32).toNatClampNeg x14_62))), (qf11, .inl (cf11, 100, .inl (upd g11_62 (x14_62 : Int32).toNatClampNeg l1_62)))] H := hP
      replace hD : va_D A [(h0, .inr (1, [.ref qf0, .int v1, .ref qf2, .int v3, .int v4, .ref qf5, .ref qf6, .int v7, .int v8, .ref qf9, .int v10, .ref qf11, .ref qf12, .ref qf13, .int x14_62, .int v15])), (qf13, .inl (cf13, 100, .inl (upd (va_cpy g13_62 g13_62 (l2_62 : Int32).toNatClampNeg ((l2_62 + 1) : Int32).toNatClampNeg ((x14_62 - l2_62) : Int32).toNatClampNeg) (l2_62 : Int32).toNatClampNeg x14_62))), (qf11, .inl (cf11, 100, .inl (upd g11_62 (x14_62 : Int32).toNatClampNeg l1_62)))] := hD
      refine lv_aload_n hx hb dX1_slotOfFrame_114 rfl (lv_at hl 0 rfl) ?_
      refine lv_dup hx hb dX1_slotOfFrame_115 rfl ?_
      refine va_get (D := (dC, dI)) (ci := 1) (v := .int x14_62) (C := RX1) (T := TX1) (N := 16) hx hb hts uV_h7_X1 hown hK hP 0 rfl rfl 14 (by decide) (hts (.fieldLink RX1 58 "ClassMill$Code" "frameCount" "I") mw_h7_33) (fun _ h9 => h9) rfl dX1_slotOfFrame_116 ?_
      refine lv_iconst (v := 1) hx hb dX1_slotOfFrame_119 (by decide) ?_
      refine lv_iadd hx hb dX1_slotOfFrame_120 ?_
      refine va_put (D := (dC, dI)) (ci := 1) (v := .int (x14_62 + 1)) (ty := .int) (C := RX1) (T := TX1) (N := 16) hx hb hts uV_h7_X1 tyX1 tyX1_ok nmX1 hown hK hP hD hS 0 rfl rfl 14 (by decide) (hts (.fieldLink RX1 58 "ClassMill$Code" "frameCount" "I") mw_h7_33) (fun _ h9 => h9) rfl (by decide +kernel) rfl rfl (Nat.le_of_ble_eq_true rfl) dX1_slotOfFrame_121 ?_
      clear hP hD hS
      intro H locs hP hD hS
      replace hP : va_P (dC, dI) vwCl [(h0, .inr (1, [.ref qf0, .int v1, .ref qf2, .int v3, .int v4, .ref qf5, .ref qf6, .int v7, .int v8, .ref qf9, .int v10, .ref qf11, .ref qf12, .ref qf13, .int (x14_62 + 1), .int v15])), (qf13, .inl (cf13, 100, .inl (upd (va_cpy g13_62 g13_62 (l2_62 : Int32).toNatClampNeg ((l2_62 + 1) : Int32).toNatClampNeg ((x14_62 - l2_62) : Int32).toNatClampNeg) (l2_62 : Int32).toNatClampNeg x14_62))), (qf11, .inl (cf11, 100, .inl (upd g11_62 (x14_62 : Int32).toNatClampNeg l1_62)))] H := hP
      replace hD : va_D A [(h0, .inr (1, [.ref qf0, .int v1, .ref qf2, .int v3, .int v4, .ref qf5, .ref qf6, .int v7, .int v8, .ref qf9, .int v10, .ref qf11, .ref qf12, .ref qf13, .int (x14_62 + 1), .int v15])), (qf13, .inl (cf13, 100, .inl (upd (va_cpy g13_62 g13_62 (l2_62 : Int32).toNatClampNeg ((l2_62 + 1) : Int32).toNatClampNeg ((x14_62 - l2_62) : Int32).toNatClampNeg) (l2_62 : Int32).toNatClampNeg x14_62))), (qf11, .inl (cf11, 100, .inl (upd g11_62 (x14_62 : Int32).toNatClampNeg l1_62)))] := hD
      refine lv_aload_n hx hb dX1_slotOfFrame_124 rfl (lv_at hl 0 rfl) ?_
      refine va_get (D := (dC, dI)) (ci := 1) (v := .ref qf13) (C := RX1) (T := TX1) (N := 16) hx hb hts uV_h7_X1 hown hK hP 0 rfl rfl 13 (by decide) (hts (.fieldLink RX1 36 "ClassMill$Code" "frameOrder" "[I") mw_h7_34) (fun _ h9 => h9) rfl dX1_slotOfFrame_125 ?_
      refine lv_iload_n hx hb dX1_slotOfFrame_128 rfl (lv_at hl 2 rfl) ?_
      obtain ⟨hi_14, hsp⟩ := ox_in hsp
      refine va_iald hx hb hK hP 1 0 rfl rfl (i := l2_62) hi_14 dX1_slotOfFrame_129 ?_
      have hr0 := Option.some.inj hsp
      clear hsp
      obtain ⟨hq0, hr1⟩ := Prod.mk.inj hr0
      clear hr0
      obtain ⟨hq1, hr2⟩ := Prod.mk.inj hr1
      clear hr1
      obtain ⟨hq2, hr3⟩ := Prod.mk.inj hr2
      clear hr2
      subst hq0
      subst hq1
      subst hq2
      subst hr3
      have hP9 := hP.sub (ws' := [(h0, .inr (1, [.ref qf0, .int v1, .ref qf2, .int v3, .int v4, .ref qf5, .ref qf6, .int v7, .int v8, .ref qf9, .int v10, .ref qf11, .ref qf12, .ref qf13, .int (x14_62 + 1), .int v15])), (qf13, .inl (cf13, 100, .inl (upd (va_cpy g13_62 g13_62 (l2_62 : Int32).toNatClampNeg ((l2_62 + 1) : Int32).toNatClampNeg ((x14_62 - l2_62) : Int32).toNatClampNeg) (l2_62 : Int32).toNatClampNeg x14_62))), (qf11, .inl (cf11, 100, .inl (upd g11_62 (x14_62 : Int32).toNatClampNeg l1_62)))]) [0, 1, 2] rfl
      have hD9 := hD.sub (ws' := [(h0, .inr (1, [.ref qf0, .int v1, .ref qf2, .int v3, .int v4, .ref qf5, .ref qf6, .int v7, .int v8, .ref qf9, .int v10, .ref qf11, .ref qf12, .ref qf13, .int (x14_62 + 1), .int v15])), (qf13, .inl (cf13, 100, .inl (upd (va_cpy g13_62 g13_62 (l2_62 : Int32).toNatClampNeg ((l2_62 + 1) : Int32).toNatClampNeg ((x14_62 - l2_62) : Int32).toNatClampNeg) (l2_62 : Int32).toNatClampNeg x14_62))), (qf11, .inl (cf11, 100, .inl (upd g11_62 (x14_62 : Int32).toNatClampNeg l1_62)))]) [0, 1, 2] (by decide) rfl
      have hK9 := hK.sub (tys' := [(cf13, .int), (cf11, .int)]) [0, 1] rfl
      exact W.iret hx hb hr (fun t ht hW => ⟨⟨(((upd (va_cpy g13_62 g13_62 (l2_62 : Int32).toNatClampNeg ((l2_62 + 1) : Int32).toNatClampNeg ((x14_62 - l2_62) : Int32).toNatClampNeg) (l2_62 : Int32).toNatClampNeg x14_62) (l2_62 : Int32).toNatClampNeg)), (), rfl, rfl, by rw [ht]; exact hP9, va_K.moved hW.alike hK9, hD9⟩, hS.F ht⟩) hS.2.2 dX1_slotOfFrame_130
    · rw [if_neg c_10] at hsp
      refine lv_iconst (v := (-1)) hx hb dX1_slotOfFrame_71 (by decide) ?_
      have hr0 := Option.some.inj hsp
      clear hsp
      obtain ⟨hq0, hr1⟩ := Prod.mk.inj hr0
      clear hr0
      obtain ⟨hq1, hr2⟩ := Prod.mk.inj hr1
      clear hr1
      obtain ⟨hq2, hr3⟩ := Prod.mk.inj hr2
      clear hr2
      subst hq0
      subst hq1
      subst hq2
      subst hr3
      have hP9 := hP.sub (ws' := [(h0, .inr (1, [.ref qf0, .int v1, .ref qf2, .int v3, .int v4, .ref qf5, .ref qf6, .int v7, .int v8, .ref qf9, .int v10, .ref qf11, .ref qf12, .ref qf13, .int x14_62, .int v15])), (qf13, .inl (cf13, 100, .inl g13_62)), (qf11, .inl (cf11, 100, .inl g11_62))]) [0, 1, 2] rfl
      have hD9 := hD.sub (ws' := [(h0, .inr (1, [.ref qf0, .int v1, .ref qf2, .int v3, .int v4, .ref qf5, .ref qf6, .int v7, .int v8, .ref qf9, .int v10, .ref qf11, .ref qf12, .ref qf13, .int x14_62, .int v15])), (qf13, .inl (cf13, 100, .inl g13_62)), (qf11, .inl (cf11, 100, .inl g11_62))]) [0, 1, 2] (by decide) rfl
      have hK9 := hK.sub (tys' := [(cf13, .int), (cf11, .int)]) [0, 1] rfl
      exact W.iret hx hb hr (fun t ht hW => ⟨⟨((-1)), (), rfl, rfl, by rw [ht]; exact hP9, va_K.moved hW.alike hK9, hD9⟩, hS.F ht⟩) hS.2.2 dX1_slotOfFrame_72
  intro hj_62
  refine jn_use (α := Heap × List Loc × Array Slot × Int32 × Int32 × (Nat → Int32) × (Nat → Int32) × Int32) (fun x9 => x9.1) (fun x9 => x9.2.1) (fun x9 => F0 m 32 x9.2.2.1 []) (fun x9 => match x9 with | (H, locs, ls, l1_32, l2_32, g11_32, g13_32, x14_32) => lv_has ls 3 [(0, .ref h0), (1, .int l1_32), (2, .int l2_32)] ∧ va_S A s.heap H locs ∧ va_D A [(h0, .inr (1, [.ref qf0, .int v1, .ref qf2, .int v3, .int v4, .ref qf5, .ref qf6, .int v7, .int v8, .ref qf9, .int v10, .ref qf11, .ref qf12, .ref qf13, .int x14_32, .int v15])), (qf13, .inl (cf13, 100, .inl g13_32)), (qf11, .inl (cf11, 100, .inl g11_32))] ∧ va_P (dC, dI) vwCl [(h0, .inr (1, [.ref qf0, .int v1, .ref qf2, .int v3, .int v4, .ref qf5, .ref qf6, .int v7, .int v8, .ref qf9, .int v10, .ref qf11, .ref qf12, .ref qf13, .int x14_32, .int v15])), (qf13, .inl (cf13, 100, .inl g13_32)), (qf11, .inl (cf11, 100, .inl g11_32))] H ∧ jn_v1_slotOfFrame_32 nf a1 v14 f13 f11 l1_32 l2_32 g11_32 g13_32 x14_32 = some (r0, o11, o13, w14)) ?_ ?_
  · intro x9 hJ9
    obtain ⟨H, locs, ls, l1_32, l2_32, g11_32, g13_32, x14_32⟩ := x9
    obtain ⟨hl, hS, hD, hP, hsp⟩ := hJ9
    replace hl : lv_has ls 3 [(0, .ref h0), (1, .int l1_32), (2, .int l2_32)] := hl
    replace hS : va_S A s.heap H locs := hS
    replace hD : va_D A [(h0, .inr (1, [.ref qf0, .int v1, .ref qf2, .int v3, .int v4, .ref qf5, .ref qf6, .int v7, .int v8, .ref qf9, .int v10, .ref qf11, .ref qf12, .ref qf13, .int x14_32, .int v15])), (qf13, .inl (cf13, 100, .inl g13_32)), (qf11, .inl (cf11, 100, .inl g11_32))] := hD
    replace hP : va_P (dC, dI) vwCl [(h0, .inr (1, [.ref qf0, .int v1, .ref qf2, .int v3, .int v4, .ref qf5, .ref qf6, .int v7, .int v8, .ref qf9, .int v10, .ref qf11, .ref qf12, .ref qf13, .int x14_32, .int v15])), (qf13, .inl (cf13, 100, .inl g13_32)), (qf11, .inl (cf11, 100, .inl g11_32))] H := hP
    replace hsp : jn_v1_slotOfFrame_32 nf a1 v14 f13 f11 l1_32 l2_32 g11_32 g13_32 x14_32 = some (r0, o11, o13, w14) := hsp
    show W p l e _ s m args below meth c H locs _ _ _ (F0 m 32 ls [])
    unfold jn_v1_slotOfFrame_32 at hsp
    try dsimp only at hsp
    refine lv_iload_n hx hb dX1_slotOfFrame_32 rfl (lv_at hl 2 rfl) ?_
    refine lv_if_le (tgt := 62) hx hb dX1_slotOfFrame_33 (by decide) (fun c_5 => ?_) (fun c_5 => ?_)
    · rw [if_pos c_5] at hsp
      exact hj_62 (H, locs, ls, l1_32, l2_32, g11_32, g13_32, x14_32) ⟨lv_sub hl [0, 1, 2] rfl, hS, hD.sub (ws' := [(h0, .inr (1, [.ref qf0, .int v1, .ref qf2, .int v3, .int v4, .ref qf5, .ref qf6, .int v7, .int v8, .ref qf9, .int v10, .ref qf11, .ref qf12, .ref qf13, .int x14_32, .int v15])), (qf13, .inl (cf13, 100, .inl g13_32)), (qf11, .inl (cf11, 100, .inl g11_32))]) [0, 1, 2] (by decide) rfl, hP.sub (ws' := [(h0, .inr (1, [.ref qf0, .int v1, .ref qf2, .int v3, .int v4, .ref qf5, .ref qf6, .int v7, .int v8, .ref qf9, .int v10, .ref qf11, .ref qf12, .ref qf13, .int x14_32, .int v15])), (qf13, .inl (cf13, 100, .inl g13_32)), (qf11, .inl (cf11, 100, .inl g11_32))]) [0, 1, 2] rfl, hsp⟩
    · rw [if_neg c_5] at hsp
      refine lv_aload_n hx hb dX1_slotOfFrame_36 rfl (lv_at hl 0 rfl) ?_
      refine va_get (D := (dC, dI)) (ci := 1) (v := .ref qf11) (C := RX1) (T := TX1) (N := 16) hx hb hts uV_h7_X1 hown hK hP 0 rfl rfl 11 (by decide) (hts (.fieldLink RX1 30 "ClassMill$Code" "framePlace" "[I") mw_h7_35) (fun _ h9 => h9) rfl dX1_slotOfFrame_37 ?_
      refine lv_aload_n hx hb dX1_slotOfFrame_40 rfl (lv_at hl 0 rfl) ?_
      refine va_get (D := (dC, dI)) (ci := 1) (v := .ref qf13) (C := RX1) (T := TX1) (N := 16) hx hb hts uV_h7_X1 hown hK hP 0 rfl rfl 13 (by decide) (hts (.fieldLink RX1 36 "ClassMill$Code" "frameOrder" "[I") mw_h7_34) (fun _ h9 => h9) rfl dX1_slotOfFrame_41 ?_
      refine lv_iload_n hx hb dX1_slotOfFrame_44 rfl (lv_at hl 2 rfl) ?_
      refine lv_iconst (v := 1) hx hb dX1_slotOfFrame_45 (by decide) ?_
      refine lv_isub hx hb dX1_slotOfFrame_46 ?_
      obtain ⟨hi_6, hsp⟩ := ox_in hsp
      refine va_iald hx hb hK hP 1 0 rfl rfl (i := (l2_32 - 1)) hi_6 dX1_slotOfFrame_47 ?_
      obtain ⟨hi_7, hsp⟩ := ox_in hsp
      refine va_iald hx hb hK hP 2 1 rfl rfl (i := (g13_32 ((l2_32 - 1) : Int32).toNatClampNeg)) hi_7 dX1_slotOfFrame_48 ?_
      refine lv_iload_n hx hb dX1_slotOfFrame_49 rfl (lv_at hl 1 rfl) ?_
      refine lv_icmp_ne (tgt := 62) hx hb dX1_slotOfFrame_50 (by decide) (fun c_8 => ?_) (fun c_8 => ?_)
      · rw [if_neg c_8] at hsp
        exact hj_62 (H, locs, ls, l1_32, l2_32, g11_32, g13_32, x14_32) ⟨lv_sub hl [0, 1, 2] rfl, hS, hD.sub (ws' := [(h0, .inr (1, [.ref qf0, .int v1, .ref qf2, .int v3, .int v4, .ref qf5, .ref qf6, .int v7, .int v8, .ref qf9, .int v10, .ref qf11, .ref qf12, .ref qf13, .int x14_32, .int v15])), (qf13, .inl (cf13, 100, .inl g13_32)), (qf11, .inl (cf11, 100, .inl g11_32))]) [0, 1, 2] (by decide) rfl, hP.sub (ws' := [(h0, .inr (1, [.ref qf0, .int v1, .ref qf2, .int v3, .int v4, .ref qf5, .ref qf6, .int v7, .int v8, .ref qf9, .int v10, .ref qf11, .ref qf12, .ref qf13, .int x14_32, .int v15])), (qf13, .inl (cf13, 100, .inl g13_32)), (qf11, .inl (cf11, 100, .inl g11_32))]) [0, 1, 2] rfl, hsp⟩
      · rw [if_pos c_8] at hsp
        refine lv_aload_n hx hb dX1_slotOfFrame_53 rfl (lv_at hl 0 rfl) ?_
        refine va_get (D := (dC, dI)) (ci := 1) (v := .ref qf13) (C := RX1) (T := TX1) (N := 16) hx hb hts uV_h7_X1 hown hK hP 0 rfl rfl 13 (by decide) (hts (.fieldLink RX1 36 "ClassMill$Code" "frameOrder" "[I") mw_h7_34) (fun _ h9 => h9) rfl dX1_slotOfFrame_54 ?_
        refine lv_iload_n hx hb dX1_slotOfFrame_57 rfl (lv_at hl 2 rfl) ?_
        refine lv_iconst (v := 1) hx hb dX1_slotOfFrame_58 (by decide) ?_
        refine lv_isub hx hb dX1_slotOfFrame_59 ?_
        obtain ⟨hi_9, hsp⟩ := ox_in hsp
        refine va_iald hx hb hK hP 1 0 rfl rfl (i := (l2_32 - 1)) hi_9 dX1_slotOfFrame_60 ?_
        have hr0 := Option.some.inj hsp
        clear hsp
        obtain ⟨hq0, hr1⟩ := Prod.mk.inj hr0
        clear hr0
        obtain ⟨hq1, hr2⟩ := Prod.mk.inj hr1
        clear hr1
        obtain ⟨hq2, hr3⟩ := Prod.mk.inj hr2
        clear hr2
        subst hq0
        subst hq1
        subst hq2
        subst hr3
        have hP9 := hP.sub (ws' := [(h0, .inr (1, [.ref qf0, .int v1, .ref qf2, .int v3, .int v4, .ref qf5, .ref qf6, .int v7, .int v8, .ref qf9, .int v10, .ref qf11, .ref qf12, .ref qf13, .int x14_32, .int v15])), (qf13, .inl (cf13, 100, .inl g13_32)), (qf11, .inl (cf11, 100, .inl g11_32))]) [0, 1, 2] rfl
        have hD9 := hD.sub (ws' := [(h0, .inr (1, [.ref qf0, .int v1, .ref qf2, .int v3, .int v4, .ref qf5, .ref qf6, .int v7, .int v8, .ref qf9, .int v10, .ref qf11, .ref qf12, .ref qf13, .int x14_32, .int v15])), (qf13, .inl (cf13, 100, .inl g13_32)), (qf11, .inl (cf11, 100, .inl g11_32))]) [0, 1, 2] (by decide) rfl
        have hK9 := hK.sub (tys' := [(cf13, .int), (cf11, .int)]) [0, 1] rfl
        exact W.iret hx hb hr (fun t ht hW => ⟨⟨((g13_32 ((l2_32 - 1) : Int32).toNatClampNeg)), (), rfl, rfl, by rw [ht]; exact hP9, va_K.moved hW.alike hK9, hD9⟩, hS.F ht⟩) hS.2.2 dX1_slotOfFrame_61
  intro hj_32
  refine lv_aload_n hx hb dX1_slotOfFrame_0 rfl (lv_at hl 0 rfl) ?_
  refine va_get (D := (dC, dI)) (ci := 1) (v := .int v14) (C := RX1) (T := TX1) (N := 16) hx hb hts uV_h7_X1 hown hK hP 0 rfl rfl 14 (by decide) (hts (.fieldLink RX1 58 "ClassMill$Code" "frameCount" "I") mw_h7_33) (fun _ h9 => h9) rfl dX1_slotOfFrame_1 ?_
  refine lv_istore_n (lv' := [(2, .int v14), (0, .ref h0), (1, .int a1)]) hx hb dX1_slotOfFrame_4 rfl hl (by decide) rfl (fun ls hl => ?_)
  replace hl : lv_has ls 3 [(2, .int v14), (0, .ref h0), (1, .int a1)] := lv_sub hl [0, 1, 2] rfl
  replace hP := hP.sub (ws' := [(h0, .inr (1, [.ref qf0, .int v1, .ref qf2, .int v3, .int v4, .ref qf5, .ref qf6, .int v7, .int v8, .ref qf9, .int v10, .ref qf11, .ref qf12, .ref qf13, .int v14, .int v15])), (qf13, .inl (cf13, 100, .inl f13)), (qf11, .inl (cf11, 100, .inl f11))]) [0, 1, 2] rfl
  replace hD := hD.sub (ws' := [(h0, .inr (1, [.ref qf0, .int v1, .ref qf2, .int v3, .int v4, .ref qf5, .ref qf6, .int v7, .int v8, .ref qf9, .int v10, .ref qf11, .ref qf12, .ref qf13, .int v14, .int v15])), (qf13, .inl (cf13, 100, .inl f13)), (qf11, .inl (cf11, 100, .inl f11))]) [0, 1, 2] (by decide) rfl
  replace hK := hK.sub (tys' := [(cf13, .int), (cf11, .int)]) [0, 1] rfl
  obtain ⟨n_5, hn_5⟩ : ∃ z : Nat, z = nf := ⟨_, rfl⟩
  obtain ⟨l1_5, el1_5⟩ : ∃ z : Int32, z = a1 := ⟨_, rfl⟩
  obtain ⟨l2_5, el2_5⟩ : ∃ z : Int32, z = v14 := ⟨_, rfl⟩
  obtain ⟨g11_5, eg11_5⟩ : ∃ z : Nat → Int32, z = f11 := ⟨_, rfl⟩
  obtain ⟨g13_5, eg13_5⟩ : ∃ z : Nat → Int32, z = f13 := ⟨_, rfl⟩
  obtain ⟨x14_5, ex14_5⟩ : ∃ z : Int32, z = v14 := ⟨_, rfl⟩
  replace hsp : lp_v1_slotOfFrame_5 nf n_5 a1 v14 f13 f11 l1_5 l2_5 g11_5 g13_5 x14_5 = some (r0, o11, o13, w14) := by rw [hn_5, el1_5, el2_5, eg11_5, eg13_5, ex14_5]; exact hsp
  replace hl : lv_has ls 3 [(2, .int l2_5), (0, .ref h0), (1, .int l1_5)] := by rw [el1_5, el2_5]; exact hl
  replace hP : va_P (dC, dI) vwCl [(h0, .inr (1, [.ref qf0, .int v1, .ref qf2, .int v3, .int v4, .ref qf5, .ref qf6, .int v7, .int v8, .ref qf9, .int v10, .ref qf11, .ref qf12, .ref qf13, .int x14_5, .int v15])), (qf13, .inl (cf13, 100, .inl g13_5)), (qf11, .inl (cf11, 100, .inl g11_5))] H := by rw [eg11_5, eg13_5, ex14_5]; exact hP
  replace hD : va_D A [(h0, .inr (1, [.ref qf0, .int v1, .ref qf2, .int v3, .int v4, .ref qf5, .ref qf6, .int v7, .int v8, .ref qf9, .int v10, .ref qf11, .ref qf12, .ref qf13, .int x14_5, .int v15])), (qf13, .inl (cf13, 100, .inl g13_5)), (qf11, .inl (cf11, 100, .inl g11_5))] := by rw [eg11_5, eg13_5, ex14_5]; exact hD
  clear hn_5 el1_5 el2_5 eg11_5 eg13_5 ex14_5
  try clear hlo
  try clear hH
  revert hsp
  revert hP
  revert hD
  revert hS
  revert hl
  revert x14_5
  revert g13_5
  revert g11_5
  revert l2_5
  revert l1_5
  revert ls
  revert locs
  revert H
  induction n_5 with
  | zero => intro H locs ls l1_5 l2_5 g11_5 g13_5 x14_5  hl hS hD hP hsp; unfold lp_v1_slotOfFrame_5 at hsp; cases hsp
  | succ n_5 ih_5 =>
    intro H locs ls l1_5 l2_5 g11_5 g13_5 x14_5  hl hS hD hP hsp
    unfold lp_v1_slotOfFrame_5 at hsp
    try dsimp only at hsp
    refine lv_iload_n hx hb dX1_slotOfFrame_5 rfl (lv_at hl 0 rfl) ?_
    refine lv_if_le (tgt := 32) hx hb dX1_slotOfFrame_6 (by decide) (fun c_1 => ?_) (fun c_1 => ?_)
    · rw [if_pos c_1] at hsp
      exact hj_32 (H, locs, ls, l1_5, l2_5, g11_5, g13_5, x14_5) ⟨lv_sub hl [1, 2, 0] rfl, hS, hD.sub (ws' := [(h0, .inr (1, [.ref qf0, .int v1, .ref qf2, .int v3, .int v4, .ref qf5, .ref qf6, .int v7, .int v8, .ref qf9, .int v10, .ref qf11, .ref qf12, .ref qf13, .int x14_5, .int v15])), (qf13, .inl (cf13, 100, .inl g13_5)), (qf11, .inl (cf11, 100, .inl g11_5))]) [0, 1, 2] (by decide) rfl, hP.sub (ws' := [(h0, .inr (1, [.ref qf0, .int v1, .ref qf2, .int v3, .int v4, .ref qf5, .ref qf6, .int v7, .int v8, .ref qf9, .int v10, .ref qf11, .ref qf12, .ref qf13, .int x14_5, .int v15])), (qf13, .inl (cf13, 100, .inl g13_5)), (qf11, .inl (cf11, 100, .inl g11_5))]) [0, 1, 2] rfl, hsp⟩
    · rw [if_neg c_1] at hsp
      refine lv_aload_n hx hb dX1_slotOfFrame_9 rfl (lv_at hl 1 rfl) ?_
      refine va_get (D := (dC, dI)) (ci := 1) (v := .ref qf11) (C := RX1) (T := TX1) (N := 16) hx hb hts uV_h7_X1 hown hK hP 0 rfl rfl 11 (by decide) (hts (.fieldLink RX1 30 "ClassMill$Code" "framePlace" "[I") mw_h7_35) (fun _ h9 => h9) rfl dX1_slotOfFrame_10 ?_
      refine lv_aload_n hx hb dX1_slotOfFrame_13 rfl (lv_at hl 1 rfl) ?_
      refine va_get (D := (dC, dI)) (ci := 1) (v := .ref qf13) (C := RX1) (T := TX1) (N := 16) hx hb hts uV_h7_X1 hown hK hP 0 rfl rfl 13 (by decide) (hts (.fieldLink RX1 36 "ClassMill$Code" "frameOrder" "[I") mw_h7_34) (fun _ h9 => h9) rfl dX1_slotOfFrame_14 ?_
      refine lv_iload_n hx hb dX1_slotOfFrame_17 rfl (lv_at hl 0 rfl) ?_
      refine lv_iconst (v := 1) hx hb dX1_slotOfFrame_18 (by decide) ?_
      refine lv_isub hx hb dX1_slotOfFrame_19 ?_
      obtain ⟨hi_2, hsp⟩ := ox_in hsp
      refine va_iald hx hb hK hP 1 0 rfl rfl (i := (l2_5 - 1)) hi_2 dX1_slotOfFrame_20 ?_
      obtain ⟨hi_3, hsp⟩ := ox_in hsp
      refine va_iald hx hb hK hP 2 1 rfl rfl (i := (g13_5 ((l2_5 - 1) : Int32).toNatClampNeg)) hi_3 dX1_slotOfFrame_21 ?_
      refine lv_iload_n hx hb dX1_slotOfFrame_22 rfl (lv_at hl 2 rfl) ?_
      refine lv_icmp_le (tgt := 32) hx hb dX1_slotOfFrame_23 (by decide) (fun c_4 => ?_) (fun c_4 => ?_)
      · rw [if_pos c_4] at hsp
        exact hj_32 (H, locs, ls, l1_5, l2_5, g11_5, g13_5, x14_5) ⟨lv_sub hl [1, 2, 0] rfl, hS, hD.sub (ws' := [(h0, .inr (1, [.ref qf0, .int v1, .ref qf2, .int v3, .int v4, .ref qf5, .ref qf6, .int v7, .int v8, .ref qf9, .int v10, .ref qf11, .ref qf12, .ref qf13, .int x14_5, .int v15])), (qf13, .inl (cf13, 100, .inl g13_5)), (qf11, .inl (cf11, 100, .inl g11_5))]) [0, 1, 2] (by decide) rfl, hP.sub (ws' := [(h0, .inr (1, [.ref qf0, .int v1, .ref qf2, .int v3, .int v4, .ref qf5, .ref qf6, .int v7, .int v8, .ref qf9, .int v10, .ref qf11, .ref qf12, .ref qf13, .int x14_5, .int v15])), (qf13, .inl (cf13, 100, .inl g13_5)), (qf11, .inl (cf11, 100, .inl g11_5))]) [0, 1, 2] rfl, hsp⟩
      · rw [if_neg c_4] at hsp
        refine lv_iinc (v := (l2_5 + (-1))) (lv' := [(2, .int (l2_5 + (-1))), (0, .ref h0), (1, .int l1_5)]) hx hb dX1_slotOfFrame_26 hl (k := 0) rfl rfl (by decide) rfl (fun ls hl => ?_)
        refine lv_goto (tgt := 5) hx hb dX1_slotOfFrame_29 (by decide) ?_
        exact ih_5 H locs ls l1_5 (l2_5 + (-1)) g11_5 g13_5 x14_5 (lv_sub hl [0, 1, 2] rfl) hS (hD.sub (ws' := [(h0, .inr (1, [.ref qf0, .int v1, .ref qf2, .int v3, .int v4, .ref qf5, .ref qf6, .int v7, .int v8, .ref qf9, .int v10, .ref qf11, .ref qf12, .ref qf13, .int x14_5, .int v15])), (qf13, .inl (cf13, 100, .inl g13_5)), (qf11, .inl (cf11, 100, .inl g11_5))]) [0, 1, 2] (by decide) rfl) (hP.sub (ws' := [(h0, .inr (1, [.ref qf0, .int v1, .ref qf2, .int v3, .int v4, .ref qf5, .ref qf6, .int v7, .int v8, .ref qf9, .int v10, .ref qf11, .ref qf12, .ref qf13, .int x14_5, .int v15])), (qf13, .inl (cf13, 100, .inl g13_5)), (qf11, .inl (cf11, 100, .inl g11_5))]) [0, 1, 2] rfl) hsp
def lp_v1_writeTo_147 (nf n : Nat) (v1 : Int32) (v4 : Int32) (v8 : Int32) (v10 : Int32) (v14 : Int32) (va1_4 : Int32) (va1_5 : Int32) (va1_7 : Int32) (fa1_6 : Nat → Int32) (f0 : Nat → Int32) (f13 : Nat → Int32) (f12 : Nat → Int32) (f11 : Nat → Int32) (fa1_1_18 : Nat → Int32) (fa1_2 : Nat → Int32) (fa1_3 : Nat → Int32) (f9 : Nat → Int32)  (l2_147 : Int32) (ga1_2_147 : Nat → Int32) (ga1_3_147 : Nat → Int32) (ga1_6_147 : Nat → Int32) (xa1_4_147 : Int32) (xa1_5_147 : Int32) (xa1_7_147 : Int32) : Option ((Nat → Int32) × (Nat → Int32) × (Nat → Int32) × Int32 × Int32 × Int32) := match n with
  | 0 => none
  | n + 1 => (if v14 ≤ l2_147 then (some (ga1_2_147, ga1_3_147, ga1_6_147, xa1_4_147, xa1_5_147, xa1_7_147)) else (if l2_147 < 0 then none else if 100 ≤ (l2_147 : Int32).toNatClampNeg then none else ((sp_t1_writeFrame nf (f13 (l2_147 : Int32).toNatClampNeg) f12 f11 xa1_4_147 xa1_5_147 xa1_7_147 ga1_6_147 fa1_1_18 ga1_2_147 ga1_3_147).bind (fun p1 => (lp_v1_writeTo_147 nf n v1 v4 v8 v10 v14 va1_4 va1_5 va1_7 fa1_6 f0 f13 f12 f11 fa1_1_18 fa1_2 fa1_3 f9 (l2_147 + 1) p1.1 p1.2.1 p1.2.2.1 p1.2.2.2.1 p1.2.2.2.2.1 p1.2.2.2.2.2)))))
def lp_v1_writeTo_69 (nf n : Nat) (v1 : Int32) (v4 : Int32) (v8 : Int32) (v10 : Int32) (v14 : Int32) (va1_4 : Int32) (va1_5 : Int32) (va1_7 : Int32) (fa1_6 : Nat → Int32) (f0 : Nat → Int32) (f13 : Nat → Int32) (f12 : Nat → Int32) (f11 : Nat → Int32) (fa1_1_18 : Nat → Int32) (fa1_2 : Nat → Int32) (fa1_3 : Nat → Int32) (f9 : Nat → Int32)  (l2_69 : Int32) (ga1_2_69 : Nat → Int32) (ga1_3_69 : Nat → Int32) (ga1_6_69 : Nat → Int32) (xa1_4_69 : Int32) (xa1_5_69 : Int32) (xa1_7_69 : Int32) : Option ((Nat → Int32) × (Nat → Int32) × (Nat → Int32) × Int32 × Int32 × Int32) := match n with
  | 0 => none
  | n + 1 => (if v10 ≤ l2_69 then ((sp_t6_put nf v14 xa1_7_69 ga1_6_69).bind (fun p1 => (lp_v1_writeTo_147 nf nf v1 v4 v8 v10 v14 va1_4 va1_5 va1_7 fa1_6 f0 f13 f12 f11 fa1_1_18 fa1_2 fa1_3 f9  0 ga1_2_69 ga1_3_69 p1.1 xa1_4_69 xa1_5_69 p1.2))) else (if (l2_69 * 4) < 0 then none else if 80 ≤ ((l2_69 * 4) : Int32).toNatClampNeg then none else ((sp_t6_putPair nf (f9 ((l2_69 * 4) : Int32).toNatClampNeg) xa1_7_69 ga1_6_69).bind (fun p2 => (if ((l2_69 * 4) + 1) < 0 then none else if 80 ≤ (((l2_69 * 4) + 1) : Int32).toNatClampNeg then none else ((sp_t6_putPair nf (f9 (((l2_69 * 4) + 1) : Int32).toNatClampNeg) p2.2 p2.1).bind (fun p3 => (if ((l2_69 * 4) + 2) < 0 then none else if 80 ≤ (((l2_69 * 4) + 2) : Int32).toNatClampNeg then none else ((sp_t6_putPair nf (f9 (((l2_69 * 4) + 2) : Int32).toNatClampNeg) p3.2 p3.1).bind (fun p4 => (if ((l2_69 * 4) + 3) < 0 then none else if 80 ≤ (((l2_69 * 4) + 3) : Int32).toNatClampNeg then none else ((sp_t6_classOf nf (f9 (((l2_69 * 4) + 3) : Int32).toNatClampNeg) xa1_4_69 xa1_5_69 fa1_1_18 ga1_2_69 ga1_3_69).bind (fun p5 => ((sp_t6_put nf p5.1 p4.2 p4.1).bind (fun p6 => (lp_v1_writeTo_69 nf n v1 v4 v8 v10 v14 va1_4 va1_5 va1_7 fa1_6 f0 f13 f12 f11 fa1_1_18 fa1_2 fa1_3 f9 (l2_69 + 1) p5.2.1 p5.2.2.1 p6.1 p5.2.2.2.1 p5.2.2.2.2 p6.2))))))))))))))))
def jn_v1_writeTo_59 (nf : Nat) (v1 : Int32) (v4 : Int32) (v8 : Int32) (v10 : Int32) (v14 : Int32) (va1_4 : Int32) (va1_5 : Int32) (va1_7 : Int32) (fa1_6 : Nat → Int32) (f0 : Nat → Int32) (f13 : Nat → Int32) (f12 : Nat → Int32) (f11 : Nat → Int32) (fa1_1_18 : Nat → Int32) (fa1_2 : Nat → Int32) (fa1_3 : Nat → Int32) (f9 : Nat → Int32)  (ga1_2_59 : Nat → Int32) (ga1_3_59 : Nat → Int32) (ga1_6_59 : Nat → Int32) (xa1_4_59 : Int32) (xa1_5_59 : Int32) (xa1_7_59 : Int32) : Option ((Nat → Int32) × (Nat → Int32) × (Nat → Int32) × Int32 × Int32 × Int32) := ((sp_t6_put nf v10 xa1_7_59 ga1_6_59).bind (fun p1 => (lp_v1_writeTo_69 nf nf v1 v4 v8 v10 v14 va1_4 va1_5 va1_7 fa1_6 f0 f13 f12 f11 fa1_1_18 fa1_2 fa1_3 f9  0 ga1_2_59 ga1_3_59 p1.1 xa1_4_59 xa1_5_59 p1.2)))
def lp_v1_writeTo_26 (nf n : Nat) (v1 : Int32) (v4 : Int32) (v8 : Int32) (v10 : Int32) (v14 : Int32) (va1_4 : Int32) (va1_5 : Int32) (va1_7 : Int32) (fa1_6 : Nat → Int32) (f0 : Nat → Int32) (f13 : Nat → Int32) (f12 : Nat → Int32) (f11 : Nat → Int32) (fa1_1_18 : Nat → Int32) (fa1_2 : Nat → Int32) (fa1_3 : Nat → Int32) (f9 : Nat → Int32)  (l2_26 : Int32) (ga1_2_26 : Nat → Int32) (ga1_3_26 : Nat → Int32) (ga1_6_26 : Nat → Int32) (xa1_4_26 : Int32) (xa1_5_26 : Int32) (xa1_7_26 : Int32) : Option ((Nat → Int32) × (Nat → Int32) × (Nat → Int32) × Int32 × Int32 × Int32) := match n with
  | 0 => none
  | n + 1 => (if v1 ≤ l2_26 then (jn_v1_writeTo_59 nf v1 v4 v8 v10 v14 va1_4 va1_5 va1_7 fa1_6 f0 f13 f12 f11 fa1_1_18 fa1_2 fa1_3 f9  ga1_2_26 ga1_3_26 ga1_6_26 xa1_4_26 xa1_5_26 xa1_7_26) else (if 1500 ≤ l2_26 then (jn_v1_writeTo_59 nf v1 v4 v8 v10 v14 va1_4 va1_5 va1_7 fa1_6 f0 f13 f12 f11 fa1_1_18 fa1_2 fa1_3 f9  ga1_2_26 ga1_3_26 ga1_6_26 xa1_4_26 xa1_5_26 xa1_7_26) else (if l2_26 < 0 then none else if 1500 ≤ (l2_26 : Int32).toNatClampNeg then none else ((sp_t6_put nf (f0 (l2_26 : Int32).toNatClampNeg) xa1_7_26 ga1_6_26).bind (fun p1 => (lp_v1_writeTo_26 nf n v1 v4 v8 v10 v14 va1_4 va1_5 va1_7 fa1_6 f0 f13 f12 f11 fa1_1_18 fa1_2 fa1_3 f9 (l2_26 + 1) ga1_2_26 ga1_3_26 p1.1 xa1_4_26 xa1_5_26 p1.2))))))
def sp_v1_writeTo (nf : Nat) (v1 : Int32) (v4 : Int32) (v8 : Int32) (v10 : Int32) (v14 : Int32) (va1_4 : Int32) (va1_5 : Int32) (va1_7 : Int32) (fa1_6 : Nat → Int32) (f0 : Nat → Int32) (f13 : Nat → Int32) (f12 : Nat → Int32) (f11 : Nat → Int32) (fa1_1_18 : Nat → Int32) (fa1_2 : Nat → Int32) (fa1_3 : Nat → Int32) (f9 : Nat → Int32) : Option ((Nat → Int32) × (Nat → Int32) × (Nat → Int32) × Int32 × Int32 × Int32) := ((sp_t6_put nf v4 va1_7 fa1_6).bind (fun p1 => ((sp_t6_put nf v8 p1.2 p1.1).bind (fun p2 => ((sp_t6_putPair nf v1 p2.2 p2.1).bind (fun p3 => (lp_v1_writeTo_26 nf nf v1 v4 v8 v10 v14 va1_4 va1_5 va1_7 fa1_6 f0 f13 f12 f11 fa1_1_18 fa1_2 fa1_3 f9  0 fa1_2 fa1_3 p3.1 va1_4 va1_5 p3.2)))))))

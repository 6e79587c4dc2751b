def sp_jd_rangeCheck (nf : Nat) (a1 : Int32) (a2 : Int32) (a3 : Int32) : Option (Unit) := (if a2 ≤ a3 then (if 0 ≤ a2 then (if a3 ≤ a1 then (some ()) else none) else none) else none)
set_option maxHeartbeats 4000000 in
set_option maxRecDepth 100000 in
/-- java/util/Arrays.rangeCheck -/
theorem jd_rangeCheck (l : Launch) (dC : Nat → ClassId) (dI : Nat → Nat → Nat) (sz : Nat) (a1 : Int32) (a2 : Int32) (a3 : Int32) (nf : Nat) (hsp : sp_jd_rangeCheck nf a1 a2 a3 = some ()) : Met l yJ7_rangeCheck_23922 (.code yJ7_rangeCheck_23922 cJ7_rangeCheck_23922 3 none :: VS_h7) ({ frames := 0, cells := 0, slots := 0, locals := 0 }) (va_Pc [.int a1, .int a2, .int a3] (fun U => U.heap.size = sz ∧ va_P (dC, dI) vwCl [] U.heap ∧ va_K (dC, dI) vwCl [] U ∧ va_D (fun _ => True) [])) (va_Qv (fun (u : Unit) => match u with | () => True) (fun (u : Unit) (t : State) => match u with | () => va_P (dC, dI) vwCl [] t.heap ∧ va_K (dC, dI) vwCl [] t ∧ va_D (va_A [] sz) []) (va_A [] sz)) 0 0 (va_A [] sz) := by
  refine Met.ofW (cc := cJ7_rangeCheck_23922) (maxL := 3) (ret := none) (by decide) rfl ?_
  intro p e s m args below meth c s₁ B hml hv
  obtain ⟨rfl, hsz, hP, hK, hD0⟩ := hv
  have hx := B.exec
  have hb := B.bytes
  have hr := B.returns
  have hts := atoms_spec (ws := (.code yJ7_rangeCheck_23922 cJ7_rangeCheck_23922 3 none :: VS_h7)) B.pre
  replace hts := fun w (h : w ∈ VS_h7) => hts w (List.mem_cons_of_mem _ h)
  have hown : s.vm.findClass RJ7 = some m.cls := findClass_of_methodNamed B.named
  have hlocks := B.notSynchronized
  subst hsz
  have hD := hD0.self (sz := s.heap.size)
  generalize hAe : va_A [] s.heap.size = A at hD  ⊢
  have hA : ∀ q : Nat, s.heap.size ≤ q → A q := fun q h => by rw [← hAe]; exact Or.inr h
  have hP : va_P (dC, dI) vwCl [] s.heap := hP
  have hl := lv_entry ([.int a1, .int a2, .int a3]) (n := 3) (Nat.le_of_ble_eq_true rfl)
  rw [lg_entry_eq]
  generalize (lg_sl ([.int a1, .int a2, .int a3]) ++ List.replicate (3 - (lg_sl ([.int a1, .int a2, .int a3])).length) Slot.unset).toArray = ls at hl ⊢
  have hl : lv_has ls 3 [(0, .int a1), (1, .int a2), (2, .int a3)] := hl
  obtain ⟨H, hH⟩ : ∃ H : Heap, s.heap = H := ⟨_, rfl⟩
  rw [hH] at hP ⊢
  have hS : va_S A s.heap H [] := by rw [← hH]; exact va_S.rf
  obtain ⟨locs, hlo⟩ : ∃ locs : List Loc, locs = [] := ⟨_, rfl⟩
  rw [← hlo] at hS ⊢
  unfold sp_jd_rangeCheck at hsp
  refine lv_iload_n hx hb dJ7_rangeCheck_23922_0 rfl (lv_at hl 1 rfl) ?_
  refine lv_iload_n hx hb dJ7_rangeCheck_23922_1 rfl (lv_at hl 2 rfl) ?_
  refine lv_icmp_le (tgt := 46) hx hb dJ7_rangeCheck_23922_2 (by decide) (fun c_1 => ?_) (fun c_1 => ?_)
  · rw [if_pos c_1] at hsp
    refine lv_iload_n hx hb dJ7_rangeCheck_23922_46 rfl (lv_at hl 1 rfl) ?_
    refine lv_if_ge (tgt := 59) hx hb dJ7_rangeCheck_23922_47 (by decide) (fun c_2 => ?_) (fun c_2 => ?_)
    · rw [if_pos c_2] at hsp
      refine lv_iload_n hx hb dJ7_rangeCheck_23922_59 rfl (lv_at hl 2 rfl) ?_
      refine lv_iload_n hx hb dJ7_rangeCheck_23922_60 rfl (lv_at hl 0 rfl) ?_
      refine lv_icmp_le (tgt := 73) hx hb dJ7_rangeCheck_23922_61 (by decide) (fun c_3 => ?_) (fun c_3 => ?_)
      · rw [if_pos c_3] at hsp
        clear hsp
        have hP9 := hP.sub (ws' := []) [] rfl
        have hD9 := hD.sub (ws' := []) [] (by decide) rfl
        have hK9 := hK.sub (tys' := []) [] rfl
        exact W.vret hx hb hr (fun t ht hW => ⟨⟨(), rfl, trivial, by rw [ht]; exact hP9, va_K.moved hW.alike hK9, hD9⟩, hS.F ht⟩) hS.2.2 dJ7_rangeCheck_23922_73
      · rw [if_neg c_3] at hsp
        cases hsp
    · rw [if_neg c_2] at hsp
      cases hsp
  · rw [if_neg c_1] at hsp
    cases hsp
def lp_jd_fill_5 (nf n : Nat) (a2 : Int32) (na1 : Nat) (fa1 : Nat → Int32)  (l1_5 : Int32) (l2_5 : Int32) (l3_5 : Int32) (ga1_5 : Nat → Int32) : Option ((Nat → Int32)) := match n with
  | 0 => none
  | n + 1 => (if l3_5 ≤ l2_5 then (some ga1_5) else (if l2_5 < 0 then none else if na1 ≤ (l2_5 : Int32).toNatClampNeg then none else (lp_jd_fill_5 nf n a2 na1 fa1 l1_5 (l2_5 + 1) l3_5 (upd ga1_5 (l2_5 : Int32).toNatClampNeg l1_5))))
def sp_jd_fill (nf : Nat) (a2 : Int32) (na1 : Nat) (fa1 : Nat → Int32) : Option ((Nat → Int32)) := (lp_jd_fill_5 nf nf a2 na1 fa1  a2 0 (nI na1) fa1)
set_option maxHeartbeats 4000000 in
set_option maxRecDepth 100000 in
/-- java/util/Arrays.fill -/
theorem jd_fill (l : Launch) (dC : Nat → ClassId) (dI : Nat → Nat → Nat) (sz : Nat) (qa1 : Nat) (a2 : Int32) (ca1 : ClassId) (na1 : Nat) (fa1 : (Nat → Int32)) (nf : Nat) (oa1 : (Nat → Int32)) (hsp : sp_jd_fill nf a2 na1 fa1 = some oa1) : Met l yJ7_fill_53178 (.code yJ7_fill_53178 cJ7_fill_53178 4 none :: VS_h7) ({ frames := 0, cells := 0, slots := 0, locals := 0 }) (va_Pc [.ref qa1, .int a2] (fun U => U.heap.size = sz ∧ va_P (dC, dI) vwCl [(qa1, .inl (ca1, na1, .inl fa1))] U.heap ∧ va_K (dC, dI) vwCl [(ca1, .int)] U ∧ va_D (fun _ => True) [(qa1, .inl (ca1, na1, .inl fa1))])) (va_Qv (fun (u : Unit) => match u with | () => True) (fun (u : Unit) (t : State) => match u with | () => va_P (dC, dI) vwCl [(qa1, .inl (ca1, na1, .inl oa1))] t.heap ∧ va_K (dC, dI) vwCl [(ca1, .int)] t ∧ va_D (va_A [(qa1, .inl (ca1, na1, .inl fa1))] sz) [(qa1, .inl (ca1, na1, .inl oa1))]) (va_A [(qa1, .inl (ca1, na1, .inl fa1))] sz)) 0 0 (va_A [(qa1, .inl (ca1, na1, .inl fa1))] sz) := by
  refine Met.ofW (cc := cJ7_fill_53178) (maxL := 4) (ret := none) (by decide) rfl ?_
  intro p e s m args below meth c s₁ B hml hv
  obtain ⟨rfl, hsz, hP, hK, hD0⟩ := hv
  have hx := B.exec
  have hb := B.bytes
  have hr := B.returns
  have hts := atoms_spec (ws := (.code yJ7_fill_53178 cJ7_fill_53178 4 none :: VS_h7)) B.pre
  replace hts := fun w (h : w ∈ VS_h7) => hts w (List.mem_cons_of_mem _ h)
  have hown : s.vm.findClass RJ7 = some m.cls := findClass_of_methodNamed B.named
  have hlocks := B.notSynchronized
  subst hsz
  have hD := hD0.self (sz := s.heap.size)
  generalize hAe : va_A [(qa1, .inl (ca1, na1, .inl fa1))] s.heap.size = A at hD  ⊢
  have hA : ∀ q : Nat, s.heap.size ≤ q → A q := fun q h => by rw [← hAe]; exact Or.inr h
  have hP : va_P (dC, dI) vwCl [(qa1, .inl (ca1, na1, .inl fa1))] s.heap := hP
  have hl := lv_entry ([.ref qa1, .int a2]) (n := 4) (Nat.le_of_ble_eq_true rfl)
  rw [lg_entry_eq]
  generalize (lg_sl ([.ref qa1, .int a2]) ++ List.replicate (4 - (lg_sl ([.ref qa1, .int a2])).length) Slot.unset).toArray = ls at hl ⊢
  have hl : lv_has ls 4 [(0, .ref qa1), (1, .int a2)] := hl
  obtain ⟨H, hH⟩ : ∃ H : Heap, s.heap = H := ⟨_, rfl⟩
  rw [hH] at hP ⊢
  have hS : va_S A s.heap H [] := by rw [← hH]; exact va_S.rf
  obtain ⟨locs, hlo⟩ : ∃ locs : List Loc, locs = [] := ⟨_, rfl⟩
  rw [← hlo] at hS ⊢
  unfold sp_jd_fill at hsp
  refine lv_iconst (v := 0) hx hb dJ7_fill_53178_0 (by decide) ?_
  refine lv_istore_n (lv' := [(2, .int 0), (0, .ref qa1), (1, .int a2)]) hx hb dJ7_fill_53178_1 rfl hl (by decide) rfl (fun ls hl => ?_)
  refine lv_aload_n hx hb dJ7_fill_53178_2 rfl (lv_at hl 1 rfl) ?_
  refine va_alen (v := nI na1) hx hb hK hP 0 0 rfl rfl rfl dJ7_fill_53178_3 ?_
  refine lv_istore_n (lv' := [(3, .int (nI na1)), (2, .int 0), (0, .ref qa1), (1, .int a2)]) hx hb dJ7_fill_53178_4 rfl hl (by decide) rfl (fun ls hl => ?_)
  replace hl : lv_has ls 4 [(3, .int (nI na1)), (2, .int 0), (0, .ref qa1), (1, .int a2)] := lv_sub hl [0, 1, 2, 3] rfl
  replace hP := hP.sub (ws' := [(qa1, .inl (ca1, na1, .inl fa1))]) [0] rfl
  replace hD := hD.sub (ws' := [(qa1, .inl (ca1, na1, .inl fa1))]) [0] (by decide) rfl
  replace hK := hK.sub (tys' := [(ca1, .int)]) [0] rfl
  obtain ⟨n_5, hn_5⟩ : ∃ z : Nat, z = nf := ⟨_, rfl⟩
  obtain ⟨l1_5, el1_5⟩ : ∃ z : Int32, z = a2 := ⟨_, rfl⟩
  obtain ⟨l2_5, el2_5⟩ : ∃ z : Int32, z = 0 := ⟨_, rfl⟩
  obtain ⟨l3_5, el3_5⟩ : ∃ z : Int32, z = (nI na1) := ⟨_, rfl⟩
  obtain ⟨ga1_5, ega1_5⟩ : ∃ z : Nat → Int32, z = fa1 := ⟨_, rfl⟩
  replace hsp : lp_jd_fill_5 nf n_5 a2 na1 fa1 l1_5 l2_5 l3_5 ga1_5 = some oa1 := by rw [hn_5, el1_5, el2_5, el3_5, ega1_5]; exact hsp
  replace hl : lv_has ls 4 [(3, .int l3_5), (2, .int l2_5), (0, .ref qa1), (1, .int l1_5)] := by rw [el1_5, el2_5, el3_5]; exact hl
  replace hP : va_P (dC, dI) vwCl [(qa1, .inl (ca1, na1, .inl ga1_5))] H := by rw [ega1_5]; exact hP
  replace hD : va_D A [(qa1, .inl (ca1, na1, .inl ga1_5))] := by rw [ega1_5]; exact hD
  clear hn_5 el1_5 el2_5 el3_5 ega1_5
  try clear hlo
  try clear hH
  revert hsp
  revert hP
  revert hD
  revert hS
  revert hl
  revert ga1_5
  revert l3_5
  revert l2_5
  revert l1_5
  revert ls
  revert locs
  revert H
  induction n_5 with
  | zero => intro H locs ls l1_5 l2_5 l3_5 ga1_5  hl hS hD hP hsp; unfold lp_jd_fill_5 at hsp; cases hsp
  | succ n_5 ih_5 =>
    intro H locs ls l1_5 l2_5 l3_5 ga1_5  hl hS hD hP hsp
    unfold lp_jd_fill_5 at hsp
    try dsimp only at hsp
    refine lv_iload_n hx hb dJ7_fill_53178_5 rfl (lv_at hl 1 rfl) ?_
    refine lv_iload_n hx hb dJ7_fill_53178_6 rfl (lv_at hl 0 rfl) ?_
    refine lv_icmp_ge (tgt := 20) hx hb dJ7_fill_53178_7 (by decide) (fun c_1 => ?_) (fun c_1 => ?_)
    · rw [if_pos c_1] at hsp
      have hr0 := Option.some.inj hsp
      clear hsp
      subst hr0
      have hP9 := hP.sub (ws' := [(qa1, .inl (ca1, na1, .inl ga1_5))]) [0] rfl
      have hD9 := hD.sub (ws' := [(qa1, .inl (ca1, na1, .inl ga1_5))]) [0] (by decide) rfl
      have hK9 := hK.sub (tys' := [(ca1, .int)]) [0] rfl
      exact W.vret hx hb hr (fun t ht hW => ⟨⟨(), rfl, trivial, by rw [ht]; exact hP9, va_K.moved hW.alike hK9, hD9⟩, hS.F ht⟩) hS.2.2 dJ7_fill_53178_20
    · rw [if_neg c_1] at hsp
      refine lv_aload_n hx hb dJ7_fill_53178_10 rfl (lv_at hl 2 rfl) ?_
      refine lv_iload_n hx hb dJ7_fill_53178_11 rfl (lv_at hl 1 rfl) ?_
      refine lv_iload_n hx hb dJ7_fill_53178_12 rfl (lv_at hl 3 rfl) ?_
      obtain ⟨hi_2, hsp⟩ := ox_in hsp
      refine va_iast hx hb hK hP hD hS 0 0 rfl rfl (i := l2_5) (x := l1_5) hi_2 dJ7_fill_53178_13 ?_
      clear hP hD hS
      intro H locs hP hD hS
      replace hP : va_P (dC, dI) vwCl [(qa1, .inl (ca1, na1, .inl (upd ga1_5 (l2_5 : Int32).toNatClampNeg l1_5)))] H := hP
      replace hD : va_D A [(qa1, .inl (ca1, na1, .inl (upd ga1_5 (l2_5 : Int32).toNatClampNeg l1_5)))] := hD
      refine lv_iinc (v := (l2_5 + 1)) (lv' := [(2, .int (l2_5 + 1)), (3, .int l3_5), (0, .ref qa1), (1, .int l1_5)]) hx hb dJ7_fill_53178_14 hl (k := 1) rfl rfl (by decide) rfl (fun ls hl => ?_)
      refine lv_goto (tgt := 5) hx hb dJ7_fill_53178_17 (by decide) ?_
      exact ih_5 H locs ls l1_5 (l2_5 + 1) l3_5 (upd ga1_5 (l2_5 : Int32).toNatClampNeg l1_5) (lv_sub hl [1, 0, 2, 3] rfl) hS (hD.sub (ws' := [(qa1, .inl (ca1, na1, .inl (upd ga1_5 (l2_5 : Int32).toNatClampNeg l1_5)))]) [0] (by decide) rfl) (hP.sub (ws' := [(qa1, .inl (ca1, na1, .inl (upd ga1_5 (l2_5 : Int32).toNatClampNeg l1_5)))]) [0] rfl) hsp
def lp_jd_fill4_10 (nf n : Nat) (a2 : Int32) (a3 : Int32) (a4 : Int32) (na1 : Nat) (fa1 : Nat → Int32)  (l2_10 : Int32) (l3_10 : Int32) (l4_10 : Int32) (ga1_10 : Nat → Int32) : Option ((Nat → Int32)) := match n with
  | 0 => none
  | n + 1 => (if l2_10 ≤ l4_10 then (some ga1_10) else (if l4_10 < 0 then none else if na1 ≤ (l4_10 : Int32).toNatClampNeg then none else (lp_jd_fill4_10 nf n a2 a3 a4 na1 fa1 l2_10 l3_10 (l4_10 + 1) (upd ga1_10 (l4_10 : Int32).toNatClampNeg l3_10))))
def sp_jd_fill4 (nf : Nat) (a2 : Int32) (a3 : Int32) (a4 : Int32) (na1 : Nat) (fa1 : Nat → Int32) : Option ((Nat → Int32)) := ((sp_jd_rangeCheck nf (nI na1) a2 a3).bind (fun p1 => (lp_jd_fill4_10 nf nf a2 a3 a4 na1 fa1  a3 a4 a2 fa1)))
set_option maxHeartbeats 4000000 in
set_option maxRecDepth 100000 in
/-- java/util/Arrays.fill -/
theorem jd_fill4 (l : Launch) (dC : Nat → ClassId) (dI : Nat → Nat → Nat) (sz : Nat) (qa1 : Nat) (a2 : Int32) (a3 : Int32) (a4 : Int32) (ca1 : ClassId) (na1 : Nat) (fa1 : (Nat → Int32)) (nf : Nat) (oa1 : (Nat → Int32)) (hsp : sp_jd_fill4 nf a2 a3 a4 na1 fa1 = some oa1) : Met l yJ7_fill_fda19 (.code yJ7_fill_fda19 cJ7_fill_fda19 5 none :: VS_h7) ({ frames := 1, cells := 0, slots := 0, locals := 22 }) (va_Pc [.ref qa1, .int a2, .int a3, .int a4] (fun U => U.heap.size = sz ∧ va_P (dC, dI) vwCl [(qa1, .inl (ca1, na1, .inl fa1))] U.heap ∧ va_K (dC, dI) vwCl [(ca1, .int)] U ∧ va_D (fun _ => True) [(qa1, .inl (ca1, na1, .inl fa1))])) (va_Qv (fun (u : Unit) => match u with | () => True) (fun (u : Unit) (t : State) => match u with | () => va_P (dC, dI) vwCl [(qa1, .inl (ca1, na1, .inl oa1))] t.heap ∧ va_K (dC, dI) vwCl [(ca1, .int)] t ∧ va_D (va_A [(qa1, .inl (ca1, na1, .inl fa1))] sz) [(qa1, .inl (ca1, na1, .inl oa1))]) (va_A [(qa1, .inl (ca1, na1, .inl fa1))] sz)) 0 0 (va_A [(qa1, .inl (ca1, na1, .inl fa1))] sz) := by
  refine Met.ofW (cc := cJ7_fill_fda19) (maxL := 5) (ret := none) (by decide) rfl ?_
  intro p e s m args below meth c s₁ B hml hv
  obtain ⟨rfl, hsz, hP, hK, hD0⟩ := hv
  have hx := B.exec
  have hb := B.bytes
  have hr := B.returns
  have hts := atoms_spec (ws := (.code yJ7_fill_fda19 cJ7_fill_fda19 5 none :: VS_h7)) B.pre
  replace hts := fun w (h : w ∈ VS_h7) => hts w (List.mem_cons_of_mem _ h)
  have hown : s.vm.findClass RJ7 = some m.cls := findClass_of_methodNamed B.named
  have hlocks := B.notSynchronized
  subst hsz
  have hD := hD0.self (sz := s.heap.size)
  generalize hAe : va_A [(qa1, .inl (ca1, na1, .inl fa1))] s.heap.size = A at hD  ⊢
  have hA : ∀ q : Nat, s.heap.size ≤ q → A q := fun q h => by rw [← hAe]; exact Or.inr h
  have hP : va_P (dC, dI) vwCl [(qa1, .inl (ca1, na1, .inl fa1))] s.heap := hP
  have hl := lv_entry ([.ref qa1, .int a2, .int a3, .int a4]) (n := 5) (Nat.le_of_ble_eq_true rfl)
  rw [lg_entry_eq]
  generalize (lg_sl ([.ref qa1, .int a2, .int a3, .int a4]) ++ List.replicate (5 - (lg_sl ([.ref qa1, .int a2, .int a3, .int a4])).length) Slot.unset).toArray = ls at hl ⊢
  have hl : lv_has ls 5 [(0, .ref qa1), (1, .int a2), (2, .int a3), (3, .int a4)] := hl
  obtain ⟨H, hH⟩ : ∃ H : Heap, s.heap = H := ⟨_, rfl⟩
  rw [hH] at hP ⊢
  have hS : va_S A s.heap H [] := by rw [← hH]; exact va_S.rf
  obtain ⟨locs, hlo⟩ : ∃ locs : List Loc, locs = [] := ⟨_, rfl⟩
  rw [← hlo] at hS ⊢
  unfold sp_jd_fill4 at hsp
  refine lv_aload_n hx hb dJ7_fill_fda19_0 rfl (lv_at hl 0 rfl) ?_
  refine va_alen (v := nI na1) hx hb hK hP 0 0 rfl rfl rfl dJ7_fill_fda19_1 ?_
  refine lv_iload_n hx hb dJ7_fill_fda19_2 rfl (lv_at hl 1 rfl) ?_
  refine lv_iload_n hx hb dJ7_fill_fda19_3 rfl (lv_at hl 2 rfl) ?_
  obtain ⟨_, hu_1, hsp⟩ := ox_bind hsp
  have hPc := hP.sub (ws' := []) [] rfl
  have hDc := hD.sub (ws' := []) [] (by decide) rfl
  have hKc := hK.sub (tys' := []) [] rfl
  have hFc := va_free (wc := []) hD hS hA [] rfl
  refine va_callv (va_runS (As := [.int (nI na1), .int a2, .int a3]) (rest := []) ⟨hx, hb, hml, hown, hts⟩ (jd_rangeCheck l dC dI H.size ((nI na1)) a2 a3 nf hu_1) (va_cwS 3 hts gv_h7_0 rfl rfl rfl (by decide +kernel) ⟨Nat.le_of_ble_eq_true rfl, Nat.le_of_ble_eq_true rfl⟩) ⟨fun a U g mk q => by obtain ⟨q0, q1, qP, qK, qD⟩ := q; exact ⟨q0, q1, qP, va_K.moved (u := U) (U := U.calling g mk a) (Vm.Alike.refl U.vm) qK, qD⟩, fun U hU hW => ⟨rfl, by rw [hU], by rw [hU]; exact hPc, va_K.moved hW.alike hKc, hDc.weaken (fun _ _ _ _ => trivial)⟩⟩ rfl rfl hl.1 rfl (lv_room (Nat.le_of_ble_eq_true rfl)) dJ7_fill_fda19_4 ⟨Nat.le_of_ble_eq_true rfl, Nat.le_of_ble_eq_true rfl⟩) hS (fun q _ h => hFc q h) hFc ?_
  clear hS
  intro u t H1 locs ht hvm hw hB hz1 hk1 hS
  obtain ⟨⟩ := u
  obtain ⟨hP1, hK1, hD1⟩ := hB
  rw [ht] at hP1
  have hK1 := va_K.moved hvm.symm hK1
  try dsimp only at hw
  have hPD := va_join (wr := [(qa1, .inl (ca1, na1, .inl fa1))]) (w1 := []) hP hD [] [0] rfl rfl (by decide) (by decide) hk1 hFc hP1 hD1
  clear hP hD
  obtain ⟨hP, hD⟩ := hPD
  replace hK := (hK.sub (tys' := [(ca1, .int)]) [0] rfl).app hK1
  clear hPc hDc hKc hFc hP1 hK1 hD1 hz1 hk1 ht hvm
  generalize H1 = H at hP hS ⊢
  replace hP : va_P (dC, dI) vwCl [(qa1, .inl (ca1, na1, .inl fa1))] H := hP
  replace hD : va_D A [(qa1, .inl (ca1, na1, .inl fa1))] := hD
  replace hK : va_K (dC, dI) vwCl [(ca1, .int)] s := hK
  refine lv_iload_n hx hb dJ7_fill_fda19_7 rfl (lv_at hl 1 rfl) ?_
  refine lv_istore (lv' := [(4, .int a2), (0, .ref qa1), (1, .int a2), (2, .int a3), (3, .int a4)]) hx hb dJ7_fill_fda19_8 hl (by decide) rfl (fun ls hl => ?_)
  replace hl : lv_has ls 5 [(4, .int a2), (0, .ref qa1), (2, .int a3), (3, .int a4)] := lv_sub hl [0, 1, 3, 4] rfl
  replace hP := hP.sub (ws' := [(qa1, .inl (ca1, na1, .inl fa1))]) [0] rfl
  replace hD := hD.sub (ws' := [(qa1, .inl (ca1, na1, .inl fa1))]) [0] (by decide) rfl
  replace hK := hK.sub (tys' := [(ca1, .int)]) [0] rfl
  obtain ⟨n_10, hn_10⟩ : ∃ z : Nat, z = nf := ⟨_, rfl⟩
  obtain ⟨l2_10, el2_10⟩ : ∃ z : Int32, z = a3 := ⟨_, rfl⟩
  obtain ⟨l3_10, el3_10⟩ : ∃ z : Int32, z = a4 := ⟨_, rfl⟩
  obtain ⟨l4_10, el4_10⟩ : ∃ z : Int32, z = a2 := ⟨_, rfl⟩
  obtain ⟨ga1_10, ega1_10⟩ : ∃ z : Nat → Int32, z = fa1 := ⟨_, rfl⟩
  replace hsp : lp_jd_fill4_10 nf n_10 a2 a3 a4 na1 fa1 l2_10 l3_10 l4_10 ga1_10 = some oa1 := by rw [hn_10, el2_10, el3_10, el4_10, ega1_10]; exact hsp
  replace hl : lv_has ls 5 [(4, .int l4_10), (0, .ref qa1), (2, .int l2_10), (3, .int l3_10)] := by rw [el2_10, el3_10, el4_10]; exact hl
  replace hP : va_P (dC, dI) vwCl [(qa1, .inl (ca1, na1, .inl ga1_10))] H := by rw [ega1_10]; exact hP
  replace hD : va_D A [(qa1, .inl (ca1, na1, .inl ga1_10))] := by rw [ega1_10]; exact hD
  clear hn_10 el2_10 el3_10 el4_10 ega1_10
  try clear hlo
  try clear hH
  revert hsp
  revert hP
  revert hD
  revert hS
  revert hl
  revert ga1_10
  revert l4_10
  revert l3_10
  revert l2_10
  revert ls
  revert locs
  revert H
  induction n_10 with
  | zero => intro H locs ls l2_10 l3_10 l4_10 ga1_10  hl hS hD hP hsp; unfold lp_jd_fill4_10 at hsp; cases hsp
  | succ n_10 ih_10 =>
    intro H locs ls l2_10 l3_10 l4_10 ga1_10  hl hS hD hP hsp
    unfold lp_jd_fill4_10 at hsp
    try dsimp only at hsp
    refine lv_iload hx hb dJ7_fill_fda19_10 (lv_at hl 0 rfl) ?_
    refine lv_iload_n hx hb dJ7_fill_fda19_12 rfl (lv_at hl 2 rfl) ?_
    refine lv_icmp_ge (tgt := 27) hx hb dJ7_fill_fda19_13 (by decide) (fun c_1 => ?_) (fun c_1 => ?_)
    · rw [if_pos c_1] at hsp
      have hr0 := Option.some.inj hsp
      clear hsp
      subst hr0
      have hP9 := hP.sub (ws' := [(qa1, .inl (ca1, na1, .inl ga1_10))]) [0] rfl
      have hD9 := hD.sub (ws' := [(qa1, .inl (ca1, na1, .inl ga1_10))]) [0] (by decide) rfl
      have hK9 := hK.sub (tys' := [(ca1, .int)]) [0] rfl
      exact W.vret hx hb hr (fun t ht hW => ⟨⟨(), rfl, trivial, by rw [ht]; exact hP9, va_K.moved hW.alike hK9, hD9⟩, hS.F ht⟩) hS.2.2 dJ7_fill_fda19_27
    · rw [if_neg c_1] at hsp
      refine lv_aload_n hx hb dJ7_fill_fda19_16 rfl (lv_at hl 1 rfl) ?_
      refine lv_iload hx hb dJ7_fill_fda19_17 (lv_at hl 0 rfl) ?_
      refine lv_iload_n hx hb dJ7_fill_fda19_19 rfl (lv_at hl 3 rfl) ?_
      obtain ⟨hi_2, hsp⟩ := ox_in hsp
      refine va_iast hx hb hK hP hD hS 0 0 rfl rfl (i := l4_10) (x := l3_10) hi_2 dJ7_fill_fda19_20 ?_
      clear hP hD hS
      intro H locs hP hD hS
      replace hP : va_P (dC, dI) vwCl [(qa1, .inl (ca1, na1, .inl (upd ga1_10 (l4_10 : Int32).toNatClampNeg l3_10)))] H := hP
      replace hD : va_D A [(qa1, .inl (ca1, na1, .inl (upd ga1_10 (l4_10 : Int32).toNatClampNeg l3_10)))] := hD
      refine lv_iinc (v := (l4_10 + 1)) (lv' := [(4, .int (l4_10 + 1)), (0, .ref qa1), (2, .int l2_10), (3, .int l3_10)]) hx hb dJ7_fill_fda19_21 hl (k := 0) rfl rfl (by decide) rfl (fun ls hl => ?_)
      refine lv_goto (tgt := 10) hx hb dJ7_fill_fda19_24 (by decide) ?_
      exact ih_10 H locs ls l2_10 l3_10 (l4_10 + 1) (upd ga1_10 (l4_10 : Int32).toNatClampNeg l3_10) (lv_sub hl [0, 1, 2, 3] rfl) hS (hD.sub (ws' := [(qa1, .inl (ca1, na1, .inl (upd ga1_10 (l4_10 : Int32).toNatClampNeg l3_10)))]) [0] (by decide) rfl) (hP.sub (ws' := [(qa1, .inl (ca1, na1, .inl (upd ga1_10 (l4_10 : Int32).toNatClampNeg l3_10)))]) [0] rfl) hsp
def sp_v1_fillFrame (nf : Nat) (a1 : Int32) (a2 : Int32) (a3 : Int32) (v15 : Int32) (f12 : Nat → Int32) (f6 : Nat → Int32) (f2 : Nat → Int32) : Option ((Nat → Int32) × Int32) := (if a1 = (-1) then (some (f12, 1)) else (if 30 < a2 then (some (f12, 1)) else (if a3 ≤ 20 then (if (a1 * 52) < 0 then none else if 5200 ≤ ((a1 * 52) : Int32).toNatClampNeg then none else (if ((a1 * 52) + 1) < 0 then none else if 5200 ≤ (((a1 * 52) + 1) : Int32).toNatClampNeg then none else (if cp_ok 0 ((a1 * 52) + 2) a2 750 5200 = true then (if cp_ok 0 (((a1 * 52) + 2) + a2) a3 20 5200 = true then (some ((va_cpy f2 (va_cpy f6 (upd (upd f12 ((a1 * 52) : Int32).toNatClampNeg a2) (((a1 * 52) + 1) : Int32).toNatClampNeg a3) (0 : Int32).toNatClampNeg (((a1 * 52) + 2) : Int32).toNatClampNeg (a2 : Int32).toNatClampNeg) (0 : Int32).toNatClampNeg ((((a1 * 52) + 2) + a2) : Int32).toNatClampNeg (a3 : Int32).toNatClampNeg), v15)) else none) else none))) else (some (f12, 1)))))

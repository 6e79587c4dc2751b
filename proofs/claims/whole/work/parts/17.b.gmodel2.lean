def lp_tn_lay_3 (nf n : Nat) (a1 : Int32) (v1 : Int32) (f0 : Nat → Int32)  (l1_3 : Int32) (l2_3 : Int32) (g0_3 : Nat → Int32) (x1_3 : Int32) : Option ((Nat → Int32) × Int32) := match n with
  | 0 => none
  | n + 1 => (if l2_3 < 0 then (some (g0_3, x1_3)) else (if x1_3 < 0 then none else if 6000 ≤ (x1_3 : Int32).toNatClampNeg then none else (lp_tn_lay_3 nf n a1 v1 f0 l1_3 (l2_3 + (-8)) (upd g0_3 (x1_3 : Int32).toNatClampNeg ((l1_3 >>> (l2_3 &&& 31)) &&& 255)) (x1_3 + 1))))
def sp_tn_lay (nf : Nat) (a1 : Int32) (v1 : Int32) (f0 : Nat → Int32) : Option ((Nat → Int32) × Int32) := (lp_tn_lay_3 nf nf a1 v1 f0 a1 24 f0 v1)
set_option maxHeartbeats 4000000 in
set_option maxRecDepth 100000 in
/-- ClassMillModel.lay -/
theorem tn_lay (l : Launch) (dC : Nat → ClassId) (dI : Nat → Nat → Nat) (sz : Nat) (h0 : Nat) (zs : (List Value)) (a1 : Int32) (qf0 : Nat) (v1 : Int32) (cf0 : ClassId) (f0 : (Nat → Int32)) (nf : Nat) (o0 : (Nat → Int32)) (w1 : Int32) (hlen : zs.length = 155) (hf0 : zs[0]? = some (.ref qf0)) (hf1 : zs[1]? = some (.int v1)) (hsp : sp_tn_lay nf a1 v1 f0 = some (o0, w1)) : Met l yX13_lay (.code yX13_lay cX13_lay 3 none :: VS_h6) ({ frames := 0, cells := 0, slots := 0, locals := 0 }) (va_Pc [.ref h0, .int a1] (fun U => U.heap.size = sz ∧ va_P (dC, dI) vwCl [(h0, .inr (13, zs)), (qf0, .inl (cf0, 6000, .inl f0))] U.heap ∧ va_K (dC, dI) vwCl [(cf0, .int)] U ∧ va_D (fun _ => True) [(h0, .inr (13, zs)), (qf0, .inl (cf0, 6000, .inl f0))])) (va_Qv (fun (u : (List Value)) => match u with | (zo1) => True ∧ zo1.length = 155 ∧ (∀ j : Nat, j ≠ 1 → zo1[j]? = zs[j]?) ∧ zo1[1]? = some (.int w1)) (fun (u : (List Value)) (t : State) => match u with | (zo1) => va_P (dC, dI) vwCl [(h0, .inr (13, zo1)), (qf0, .inl (cf0, 6000, .inl o0))] t.heap ∧ va_K (dC, dI) vwCl [(cf0, .int)] t ∧ va_D (va_A [(h0, .inr (13, zs)), (qf0, .inl (cf0, 6000, .inl f0))] sz) [(h0, .inr (13, zo1)), (qf0, .inl (cf0, 6000, .inl o0))]) (va_A [(h0, .inr (13, zs)), (qf0, .inl (cf0, 6000, .inl f0))] sz)) 0 0 (va_A [(h0, .inr (13, zs)), (qf0, .inl (cf0, 6000, .inl f0))] sz) := by
  refine Met.ofW (cc := cX13_lay) (maxL := 3) (ret := none) (by decide) rfl ?_
  intro p e s m args below meth c s₁ B hml hv
  obtain ⟨rfl, hsz, hP, hK, hD0⟩ := hv
  have hx := B.exec
  have hb := B.bytes
  have hr := B.returns
  have hts := atoms_spec (ws := (.code yX13_lay cX13_lay 3 none :: VS_h6)) B.pre
  replace hts := fun w (h : w ∈ VS_h6) => hts w (List.mem_cons_of_mem _ h)
  have hown : s.vm.findClass RX13 = some m.cls := findClass_of_methodNamed B.named
  have hlocks := B.notSynchronized
  subst hsz
  have hD := hD0.self (sz := s.heap.size)
  generalize hAe : va_A [(h0, .inr (13, zs)), (qf0, .inl (cf0, 6000, .inl f0))] s.heap.size = A at hD  ⊢
  have hA : ∀ q : Nat, s.heap.size ≤ q → A q := fun q h => by rw [← hAe]; exact Or.inr h
  have hP : va_P (dC, dI) vwCl [(h0, .inr (13, zs)), (qf0, .inl (cf0, 6000, .inl f0))] s.heap := hP
  have hl := lv_entry ([.ref h0, .int a1]) (n := 3) (Nat.le_of_ble_eq_true rfl)
  rw [lg_entry_eq]
  generalize (lg_sl ([.ref h0, .int a1]) ++ List.replicate (3 - (lg_sl ([.ref h0, .int a1])).length) Slot.unset).toArray = ls at hl ⊢
  have hl : lv_has ls 3 [(0, .ref h0), (1, .int a1)] := hl
  obtain ⟨H, hH⟩ : ∃ H : Heap, s.heap = H := ⟨_, rfl⟩
  rw [hH] at hP ⊢
  have hS : va_S A s.heap H [] := by rw [← hH]; exact va_S.rf
  obtain ⟨locs, hlo⟩ : ∃ locs : List Loc, locs = [] := ⟨_, rfl⟩
  rw [← hlo] at hS ⊢
  have hrs0 : ∀ j : Nat, j ≠ 1 → zs[j]? = zs[j]? := fun _ _  => rfl
  unfold sp_tn_lay at hsp
  refine lv_bipush (v := 24) hx hb dX13_lay_0 (by decide) ?_
  refine lv_istore_n (lv' := [(2, .int 24), (0, .ref h0), (1, .int a1)]) hx hb dX13_lay_2 rfl hl (by decide) rfl (fun ls hl => ?_)
  replace hP := hP.sub (ws' := [(h0, .inr (13, zs)), (qf0, .inl (cf0, 6000, .inl f0))]) [0, 1] rfl
  replace hD := hD.sub (ws' := [(h0, .inr (13, zs)), (qf0, .inl (cf0, 6000, .inl f0))]) [0, 1] (by decide) rfl
  replace hK := hK.sub (tys' := [(cf0, .int)]) [0] rfl
  obtain ⟨n_3, hn_3⟩ : ∃ z : Nat, z = nf := ⟨_, rfl⟩
  obtain ⟨z3, ez3⟩ : ∃ z : List Value, z = zs := ⟨_, rfl⟩
  obtain ⟨l1_3, el1_3⟩ : ∃ z : Int32, z = a1 := ⟨_, rfl⟩
  obtain ⟨l2_3, el2_3⟩ : ∃ z : Int32, z = 24 := ⟨_, rfl⟩
  obtain ⟨g0_3, eg0_3⟩ : ∃ z : Nat → Int32, z = f0 := ⟨_, rfl⟩
  obtain ⟨x1_3, ex1_3⟩ : ∃ z : Int32, z = v1 := ⟨_, rfl⟩
  replace hsp : lp_tn_lay_3 nf n_3 a1 v1 f0 l1_3 l2_3 g0_3 x1_3 = some (o0, w1) := by rw [hn_3, el1_3, el2_3, eg0_3, ex1_3]; exact hsp
  replace hl : lv_has ls 3 [(2, .int l2_3), (0, .ref h0), (1, .int l1_3)] := by rw [el1_3, el2_3]; exact hl
  have hfh_3_0 : z3[0]? = some (.ref qf0) := by rw [ez3]; exact hf0
  have hfh_3_1 : z3[1]? = some (.int x1_3) := by rw [ez3, ex1_3]; exact hf1
  have hlh_3 : z3.length = 155 := by rw [ez3]; exact hlen
  have hrh_3 : ∀ j : Nat, j ≠ 1 → z3[j]? = zs[j]? := by rw [ez3]; exact hrs0
  replace hP : va_P (dC, dI) vwCl [(h0, .inr (13, z3)), (qf0, .inl (cf0, 6000, .inl g0_3))] H := by rw [ez3, eg0_3]; exact hP
  replace hD : va_D A [(h0, .inr (13, z3)), (qf0, .inl (cf0, 6000, .inl g0_3))] := by rw [ez3, eg0_3]; exact hD
  clear hn_3 ez3 el1_3 el2_3 eg0_3 ex1_3
  try clear hlo
  try clear hH
  revert hsp
  revert hP
  revert hD
  revert hS
  revert hl
  revert hrh_3
  revert hlh_3
  revert hfh_3_1
  revert hfh_3_0
  revert x1_3
  revert g0_3
  revert l2_3
  revert l1_3
  revert z3
  revert ls
  revert locs
  revert H
  induction n_3 with
  | zero => intro H locs ls z3 l1_3 l2_3 g0_3 x1_3 hfh_3_0 hfh_3_1 hlh_3 hrh_3 hl hS hD hP hsp; unfold lp_tn_lay_3 at hsp; cases hsp
  | succ n_3 ih_3 =>
    intro H locs ls z3 l1_3 l2_3 g0_3 x1_3 hfh_3_0 hfh_3_1 hlh_3 hrh_3 hl hS hD hP hsp
    unfold lp_tn_lay_3 at hsp
    try dsimp only at hsp
    refine lv_iload_n hx hb dX13_lay_3 rfl (lv_at hl 0 rfl) ?_
    refine lv_if_lt (tgt := 39) hx hb dX13_lay_4 (by decide) (fun c_1 => ?_) (fun c_1 => ?_)
    · rw [if_pos c_1] at hsp
      have hr0 := Option.some.inj hsp
      clear hsp
      obtain ⟨hq0, hr1⟩ := Prod.mk.inj hr0
      clear hr0
      subst hq0
      subst hr1
      have hP9 := hP.sub (ws' := [(h0, .inr (13, z3)), (qf0, .inl (cf0, 6000, .inl g0_3))]) [0, 1] rfl
      have hD9 := hD.sub (ws' := [(h0, .inr (13, z3)), (qf0, .inl (cf0, 6000, .inl g0_3))]) [0, 1] (by decide) rfl
      have hK9 := hK.sub (tys' := [(cf0, .int)]) [0] rfl
      exact W.vret hx hb hr (fun t ht hW => ⟨⟨(z3), rfl, ⟨trivial, hlh_3, hrh_3, hfh_3_1⟩, by rw [ht]; exact hP9, va_K.moved hW.alike hK9, hD9⟩, hS.F ht⟩) hS.2.2 dX13_lay_39
    · rw [if_neg c_1] at hsp
      refine lv_aload_n hx hb dX13_lay_7 rfl (lv_at hl 1 rfl) ?_
      refine va_get (D := (dC, dI)) (ci := 13) (v := .ref qf0) (C := RX13) (T := TX13) (N := 155) hx hb hts uV_h6_X13 hown hK hP 0 rfl rfl 0 (by decide) (hts (.fieldLink RX13 9 "ClassMillModel" "tape" "[I") mw_h6_0) (fun _ h9 => h9) hfh_3_0 dX13_lay_8 ?_
      refine lv_aload_n hx hb dX13_lay_11 rfl (lv_at hl 1 rfl) ?_
      refine va_get (D := (dC, dI)) (ci := 13) (v := .int x1_3) (C := RX13) (T := TX13) (N := 155) hx hb hts uV_h6_X13 hown hK hP 0 rfl rfl 1 (by decide) (hts (.fieldLink RX13 312 "ClassMillModel" "taped" "I") mw_h6_1) (fun _ h9 => h9) hfh_3_1 dX13_lay_12 ?_
      refine lv_iload_n hx hb dX13_lay_15 rfl (lv_at hl 2 rfl) ?_
      refine lv_iload_n hx hb dX13_lay_16 rfl (lv_at hl 0 rfl) ?_
      refine lv_ishr hx hb dX13_lay_17 ?_
      refine lv_sipush (v := 255) hx hb dX13_lay_18 (by decide) ?_
      refine lv_iand hx hb dX13_lay_21 ?_
      obtain ⟨hi_2, hsp⟩ := ox_in hsp
      refine va_iast hx hb hK hP hD hS 1 0 rfl rfl (i := x1_3) (x := ((l1_3 >>> (l2_3 &&& 31)) &&& 255)) hi_2 dX13_lay_22 ?_
      clear hP hD hS
      intro H locs hP hD hS
      replace hP : va_P (dC, dI) vwCl [(h0, .inr (13, z3)), (qf0, .inl (cf0, 6000, .inl (upd g0_3 (x1_3 : Int32).toNatClampNeg ((l1_3 >>> (l2_3 &&& 31)) &&& 255))))] H := hP
      replace hD : va_D A [(h0, .inr (13, z3)), (qf0, .inl (cf0, 6000, .inl (upd g0_3 (x1_3 : Int32).toNatClampNeg ((l1_3 >>> (l2_3 &&& 31)) &&& 255))))] := hD
      refine lv_aload_n hx hb dX13_lay_23 rfl (lv_at hl 1 rfl) ?_
      refine lv_dup hx hb dX13_lay_24 rfl ?_
      refine va_get (D := (dC, dI)) (ci := 13) (v := .int x1_3) (C := RX13) (T := TX13) (N := 155) hx hb hts uV_h6_X13 hown hK hP 0 rfl rfl 1 (by decide) (hts (.fieldLink RX13 312 "ClassMillModel" "taped" "I") mw_h6_1) (fun _ h9 => h9) hfh_3_1 dX13_lay_25 ?_
      refine lv_iconst (v := 1) hx hb dX13_lay_28 (by decide) ?_
      refine lv_iadd hx hb dX13_lay_29 ?_
      refine va_put (D := (dC, dI)) (ci := 13) (v := .int (x1_3 + 1)) (ty := .int) (C := RX13) (T := TX13) (N := 155) hx hb hts uV_h6_X13 tyX13 tyX13_ok nmX13 hown hK hP hD hS 0 rfl rfl 1 (by decide) (hts (.fieldLink RX13 312 "ClassMillModel" "taped" "I") mw_h6_1) (fun _ h9 => h9) rfl (by decide +kernel) rfl rfl (by rw [hlh_3]; decide) dX13_lay_30 ?_
      clear hP hD hS
      intro H locs hP hD hS
      obtain ⟨fs_3, efs_3⟩ : ∃ zf : List Value, zf = z3.set 1 (.int (x1_3 + 1)) := ⟨_, rfl⟩
      rw [← efs_3] at hP hD
      have hlfs_3 : fs_3.length = 155 := by rw [efs_3, List.length_set]; exact hlh_3
      have hfs_3_0 : fs_3[0]? = some (.ref qf0) := by rw [efs_3, List.getElem?_set_ne (by decide)]; exact hfh_3_0
      have hfs_3_1 : fs_3[1]? = some (.int (x1_3 + 1)) := by rw [efs_3, List.getElem?_set_self (by rw [hlh_3]; decide)]
      replace hP : va_P (dC, dI) vwCl [(h0, .inr (13, fs_3)), (qf0, .inl (cf0, 6000, .inl (upd g0_3 (x1_3 : Int32).toNatClampNeg ((l1_3 >>> (l2_3 &&& 31)) &&& 255))))] H := hP
      replace hD : va_D A [(h0, .inr (13, fs_3)), (qf0, .inl (cf0, 6000, .inl (upd g0_3 (x1_3 : Int32).toNatClampNeg ((l1_3 >>> (l2_3 &&& 31)) &&& 255))))] := hD
      have hrs_4 : ∀ j : Nat, j ≠ 1 → fs_3[j]? = zs[j]? := fun j g1 => ((congrArg (fun z : List Value => z[j]?) efs_3).trans (List.getElem?_set_ne (Ne.symm g1))).trans (hrh_3 j g1)
      refine lv_iinc (v := (l2_3 + (-8))) (lv' := [(2, .int (l2_3 + (-8))), (0, .ref h0), (1, .int l1_3)]) hx hb dX13_lay_33 hl (k := 0) rfl rfl (by decide) rfl (fun ls hl => ?_)
      refine lv_goto (tgt := 3) hx hb dX13_lay_36 (by decide) ?_
      exact ih_3 H locs ls fs_3 l1_3 (l2_3 + (-8)) (upd g0_3 (x1_3 : Int32).toNatClampNeg ((l1_3 >>> (l2_3 &&& 31)) &&& 255)) (x1_3 + 1) (hfs_3_0) (hfs_3_1) hlfs_3 hrs_4 (lv_sub hl [0, 1, 2] rfl) hS (hD.sub (ws' := [(h0, .inr (13, fs_3)), (qf0, .inl (cf0, 6000, .inl (upd g0_3 (x1_3 : Int32).toNatClampNeg ((l1_3 >>> (l2_3 &&& 31)) &&& 255))))]) [0, 1] (by decide) rfl) (hP.sub (ws' := [(h0, .inr (13, fs_3)), (qf0, .inl (cf0, 6000, .inl (upd g0_3 (x1_3 : Int32).toNatClampNeg ((l1_3 >>> (l2_3 &&& 31)) &&& 255))))]) [0, 1] rfl) hsp
def sp_tn_feed (nf : Nat) (a1 : Int32) (a2 : Int32) (a3 : Int32) (a4 : Int32) (a5 : Int32) (v1 : Int32) (f0 : Nat → Int32) : Option (Int32 × (Nat → Int32) × Int32) := (if (v1 + 20) ≤ 6000 then ((sp_tn_lay nf a1 v1 f0).bind (fun p1 => ((sp_tn_lay nf a2 p1.2 p1.1).bind (fun p2 => ((sp_tn_lay nf a3 p2.2 p2.1).bind (fun p3 => ((sp_tn_lay nf a4 p3.2 p3.1).bind (fun p4 => ((sp_tn_lay nf a5 p4.2 p4.1).bind (fun p5 => (some (p5.2, p5.1, p5.2)))))))))))) else (some ((-1), f0, v1)))
set_option maxHeartbeats 4000000 in
set_option maxRecDepth 100000 in
/-- ClassMillModel.feed -/
theorem tn_feed (l : Launch) (dC : Nat → ClassId) (dI : Nat → Nat → Nat) (sz : Nat) (h0 : Nat) (zs : (List Value)) (a1 : Int32) (a2 : Int32) (a3 : Int32) (a4 : Int32) (a5 : Int32) (qf0 : Nat) (v1 : Int32) (cf0 : ClassId) (f0 : (Nat → Int32)) (nf : Nat) (r0 : Int32) (o0 : (Nat → Int32)) (w1 : Int32) (hlen : zs.length = 155) (hf0 : zs[0]? = some (.ref qf0)) (hf1 : zs[1]? = some (.int v1)) (hsp : sp_tn_feed nf a1 a2 a3 a4 a5 v1 f0 = some (r0, o0, w1)) : Met l yX13_feed (.code yX13_feed cX13_feed 6 (some .int) :: VS_h6) ({ frames := 1, cells := 0, slots := 0, locals := 22 }) (va_Pc [.ref h0, .int a1, .int a2, .int a3, .int a4, .int a5] (fun U => U.heap.size = sz ∧ va_P (dC, dI) vwCl [(h0, .inr (13, zs)), (qf0, .inl (cf0, 6000, .inl f0))] U.heap ∧ va_K (dC, dI) vwCl [(cf0, .int)] U ∧ va_D (fun _ => True) [(h0, .inr (13, zs)), (qf0, .inl (cf0, 6000, .inl f0))])) (va_Qi (fun (r : Int32) (u : (List Value)) => match u with | (zo1) => r0 = r ∧ zo1.length = 155 ∧ (∀ j : Nat, j ≠ 1 → zo1[j]? = zs[j]?) ∧ zo1[1]? = some (.int w1)) (fun (u : (List Value)) (t : State) => match u with | (zo1) => va_P (dC, dI) vwCl [(h0, .inr (13, zo1)), (qf0, .inl (cf0, 6000, .inl o0))] t.heap ∧ va_K (dC, dI) vwCl [(cf0, .int)] t ∧ va_D (va_A [(h0, .inr (13, zs)), (qf0, .inl (cf0, 6000, .inl f0))] sz) [(h0, .inr (13, zo1)), (qf0, .inl (cf0, 6000, .inl o0))]) (va_A [(h0, .inr (13, zs)), (qf0, .inl (cf0, 6000, .inl f0))] sz)) 0 0 (va_A [(h0, .inr (13, zs)), (qf0, .inl (cf0, 6000, .inl f0))] sz) := by
  refine Met.ofW (cc := cX13_feed) (maxL := 6) (ret := (some .int)) (by decide) rfl ?_
  intro p e s m args below meth c s₁ B hml hv
  obtain ⟨rfl, hsz, hP, hK, hD0⟩ := hv
  have hx := B.exec
  have hb := B.bytes
  have hr := B.returns
  have hts := atoms_spec (ws := (.code yX13_feed cX13_feed 6 (some .int) :: VS_h6)) B.pre
  replace hts := fun w (h : w ∈ VS_h6) => hts w (List.mem_cons_of_mem _ h)
  have hown : s.vm.findClass RX13 = some m.cls := findClass_of_methodNamed B.named
  have hlocks := B.notSynchronized
  subst hsz
  have hD := hD0.self (sz := s.heap.size)
  generalize hAe : va_A [(h0, .inr (13, zs)), (qf0, .inl (cf0, 6000, .inl f0))] s.heap.size = A at hD  ⊢
  have hA : ∀ q : Nat, s.heap.size ≤ q → A q := fun q h => by rw [← hAe]; exact Or.inr h
  have hP : va_P (dC, dI) vwCl [(h0, .inr (13, zs)), (qf0, .inl (cf0, 6000, .inl f0))] s.heap := hP
  have hl := lv_entry ([.ref h0, .int a1, .int a2, .int a3, .int a4, .int a5]) (n := 6) (Nat.le_of_ble_eq_true rfl)
  rw [lg_entry_eq]
  generalize (lg_sl ([.ref h0, .int a1, .int a2, .int a3, .int a4, .int a5]) ++ List.replicate (6 - (lg_sl ([.ref h0, .int a1, .int a2, .int a3, .int a4, .int a5])).length) Slot.unset).toArray = ls at hl ⊢
  have hl : lv_has ls 6 [(0, .ref h0), (1, .int a1), (2, .int a2), (3, .int a3), (4, .int a4), (5, .int a5)] := hl
  obtain ⟨H, hH⟩ : ∃ H : Heap, s.heap = H := ⟨_, rfl⟩
  rw [hH] at hP ⊢
  have hS : va_S A s.heap H [] := by rw [← hH]; exact va_S.rf
  obtain ⟨locs, hlo⟩ : ∃ locs : List Loc, locs = [] := ⟨_, rfl⟩
  rw [← hlo] at hS ⊢
  have hrs0 : ∀ j : Nat, j ≠ 1 → zs[j]? = zs[j]? := fun _ _  => rfl
  unfold sp_tn_feed at hsp
  refine lv_aload_n hx hb dX13_feed_0 rfl (lv_at hl 0 rfl) ?_
  refine va_get (D := (dC, dI)) (ci := 13) (v := .int v1) (C := RX13) (T := TX13) (N := 155) hx hb hts uV_h6_X13 hown hK hP 0 rfl rfl 1 (by decide) (hts (.fieldLink RX13 312 "ClassMillModel" "taped" "I") mw_h6_1) (fun _ h9 => h9) hf1 dX13_feed_1 ?_
  refine lv_bipush (v := 20) hx hb dX13_feed_4 (by decide) ?_
  refine lv_iadd hx hb dX13_feed_6 ?_
  refine lv_sipush (v := 6000) hx hb dX13_feed_7 (by decide) ?_
  refine lv_icmp_le (tgt := 15) hx hb dX13_feed_10 (by decide) (fun c_1 => ?_) (fun c_1 => ?_)
  · rw [if_pos c_1] at hsp
    refine lv_aload_n hx hb dX13_feed_15 rfl (lv_at hl 0 rfl) ?_
    refine lv_iload_n hx hb dX13_feed_16 rfl (lv_at hl 1 rfl) ?_
    obtain ⟨⟨g901_0, u1_1⟩, hu_1, hsp⟩ := ox_bind hsp
    try dsimp only at hsp
    have hPc := hP.sub (ws' := [(h0, .inr (13, zs)), (qf0, .inl (cf0, 6000, .inl f0))]) [0, 1] rfl
    have hDc := hD.sub (ws' := [(h0, .inr (13, zs)), (qf0, .inl (cf0, 6000, .inl f0))]) [0, 1] (by decide) rfl
    have hKc := hK.sub (tys' := [(cf0, .int)]) [0] rfl
    have hFc := va_free (wc := [(h0, .inr (13, zs)), (qf0, .inl (cf0, 6000, .inl f0))]) hD hS hA [0, 1] rfl
    refine va_callv (va_runV (As := [.int a1]) (rest := []) ⟨hx, hb, hml, hown, hts⟩ (tn_lay l dC dI H.size h0 zs a1 qf0 v1 cf0 f0 nf g901_0 u1_1 hlen hf0 hf1 hu_1) (cwV 1 hts gv_h6_0 rfl rfl rfl (by decide +kernel) ⟨Nat.le_of_ble_eq_true rfl, Nat.le_of_ble_eq_true rfl⟩) ⟨fun a U g mk q => by obtain ⟨q0, q1, qP, qK, qD⟩ := q; exact ⟨q0, q1, qP, va_K.moved (u := U) (U := U.calling g mk a) (Vm.Alike.refl U.vm) qK, qD⟩, va_recv hKc hPc (ci := 13) (q0 := 0) rfl rfl, fun U hU hW => ⟨rfl, by rw [hU], by rw [hU]; exact hPc, va_K.moved hW.alike hKc, hDc.weaken (fun _ _ _ _ => trivial)⟩⟩ rfl rfl hl.1 rfl (lv_room (Nat.le_of_ble_eq_true rfl)) dX13_feed_17 ⟨Nat.le_of_ble_eq_true rfl, Nat.le_of_ble_eq_true rfl⟩) hS (fun q _ h => hFc q h) hFc ?_
    clear hS
    intro u t H1 locs ht hvm hw hB hz1 hk1 hS
    obtain ⟨z_1, rfl⟩ : ∃ z, z = u := ⟨_, rfl⟩
    obtain ⟨hP1, hK1, hD1⟩ := hB
    rw [ht] at hP1
    have hK1 := va_K.moved hvm.symm hK1
    try dsimp only at hw
    have hPD := va_join (wr := []) (w1 := [(h0, .inr (13, z_1)), (qf0, .inl (cf0, 6000, .inl g901_0))]) hP hD [0, 1] [] rfl rfl (by decide) (by decide) hk1 hFc hP1 hD1
    clear hP hD
    obtain ⟨hP, hD⟩ := hPD
    replace hK := (hK.sub (tys' := []) [] rfl).app hK1
    clear hPc hDc hKc hFc hP1 hK1 hD1 hz1 hk1 ht hvm
    generalize H1 = H at hP hS ⊢
    replace hP : va_P (dC, dI) vwCl [(h0, .inr (13, z_1)), (qf0, .inl (cf0, 6000, .inl g901_0))] H := hP
    replace hD : va_D A [(h0, .inr (13, z_1)), (qf0, .inl (cf0, 6000, .inl g901_0))] := hD
    replace hK : va_K (dC, dI) vwCl [(cf0, .int)] s := hK
    obtain ⟨hwa_1, hln_1, hre_1, hch_1_1⟩ := hw
    have hfk_1_0 : z_1[0]? = some (.ref qf0) := (hre_1 0 (by decide)).trans (hf0)
    have hrq_1 : ∀ j : Nat, j ≠ 1 → z_1[j]? = zs[j]? := fun j g1 => (hre_1 j g1).trans (hrs0 j g1)
    refine lv_aload_n hx hb dX13_feed_20 rfl (lv_at hl 0 rfl) ?_
    refine lv_iload_n hx hb dX13_feed_21 rfl (lv_at hl 2 rfl) ?_
    obtain ⟨⟨g902_0, u2_1⟩, hu_2, hsp⟩ := ox_bind hsp
    try dsimp only at hsp
    have hPc := hP.sub (ws' := [(h0, .inr (13, z_1)), (qf0, .inl (cf0, 6000, .inl g901_0))]) [0, 1] rfl
    have hDc := hD.sub (ws' := [(h0, .inr (13, z_1)), (qf0, .inl (cf0, 6000, .inl g901_0))]) [0, 1] (by decide) rfl
    have hKc := hK.sub (tys' := [(cf0, .int)]) [0] rfl
    have hFc := va_free (wc := [(h0, .inr (13, z_1)), (qf0, .inl (cf0, 6000, .inl g901_0))]) hD hS hA [0, 1] rfl
    refine va_callv (va_runV (As := [.int a2]) (rest := []) ⟨hx, hb, hml, hown, hts⟩ (tn_lay l dC dI H.size h0 z_1 a2 qf0 u1_1 cf0 g901_0 nf g902_0 u2_1 hln_1 hfk_1_0 hch_1_1 hu_2) (cwV 1 hts gv_h6_0 rfl rfl rfl (by decide +kernel) ⟨Nat.le_of_ble_eq_true rfl, Nat.le_of_ble_eq_true rfl⟩) ⟨fun a U g mk q => by obtain ⟨q0, q1, qP, qK, qD⟩ := q; exact ⟨q0, q1, qP, va_K.moved (u := U) (U := U.calling g mk a) (Vm.Alike.refl U.vm) qK, qD⟩, va_recv hKc hPc (ci := 13) (q0 := 0) rfl rfl, fun U hU hW => ⟨rfl, by rw [hU], by rw [hU]; exact hPc, va_K.moved hW.alike hKc, hDc.weaken (fun _ _ _ _ => trivial)⟩⟩ rfl rfl hl.1 rfl (lv_room (Nat.le_of_ble_eq_true rfl)) dX13_feed_22 ⟨Nat.le_of_ble_eq_true rfl, Nat.le_of_ble_eq_true rfl⟩) hS (fun q _ h => hFc q h) hFc ?_
    clear hS
    intro u t H1 locs ht hvm hw hB hz1 hk1 hS
    obtain ⟨z_2, rfl⟩ : ∃ z, z = u := ⟨_, rfl⟩
    obtain ⟨hP1, hK1, hD1⟩ := hB
    rw [ht] at hP1
    have hK1 := va_K.moved hvm.symm hK1
    try dsimp only at hw
    have hPD := va_join (wr := []) (w1 := [(h0, .inr (13, z_2)), (qf0, .inl (cf0, 6000, .inl g902_0))]) hP hD [0, 1] [] rfl rfl (by decide) (by decide) hk1 hFc hP1 hD1
    clear hP hD
    obtain ⟨hP, hD⟩ := hPD
    replace hK := (hK.sub (tys' := []) [] rfl).app hK1
    clear hPc hDc hKc hFc hP1 hK1 hD1 hz1 hk1 ht hvm
    generalize H1 = H at hP hS ⊢
    replace hP : va_P (dC, dI) vwCl [(h0, .inr (13, z_2)), (qf0, .inl (cf0, 6000, .inl g902_0))] H := hP
    replace hD : va_D A [(h0, .inr (13, z_2)), (qf0, .inl (cf0, 6000, .inl g902_0))] := hD
    replace hK : va_K (dC, dI) vwCl [(cf0, .int)] s := hK
    obtain ⟨hwa_2, hln_2, hre_2, hch_2_1⟩ := hw
    have hfk_2_0 : z_2[0]? = some (.ref qf0) := (hre_2 0 (by decide)).trans (hfk_1_0)
    have hrq_2 : ∀ j : Nat, j ≠ 1 → z_2[j]? = zs[j]? := fun j g1 => (hre_2 j g1).trans (hrq_1 j g1)
    refine lv_aload_n hx hb dX13_feed_25 rfl (lv_at hl 0 rfl) ?_
    refine lv_iload_n hx hb dX13_feed_26 rfl (lv_at hl 3 rfl) ?_
    obtain ⟨⟨g903_0, u3_1⟩, hu_3, hsp⟩ := ox_bind hsp
    try dsimp only at hsp
    have hPc := hP.sub (ws' := [(h0, .inr (13, z_2)), (qf0, .inl (cf0, 6000, .inl g902_0))]) [0, 1] rfl
    have hDc := hD.sub (ws' := [(h0, .inr (13, z_2)), (qf0, .inl (cf0, 6000, .inl g902_0))]) [0, 1] (by decide) rfl
    have hKc := hK.sub (tys' := [(cf0, .int)]) [0] rfl
    have hFc := va_free (wc := [(h0, .inr (13, z_2)), (qf0, .inl (cf0, 6000, .inl g902_0))]) hD hS hA [0, 1] rfl
    refine va_callv (va_runV (As := [.int a3]) (rest := []) ⟨hx, hb, hml, hown, hts⟩ (tn_lay l dC dI H.size h0 z_2 a3 qf0 u2_1 cf0 g902_0 nf g903_0 u3_1 hln_2 hfk_2_0 hch_2_1 hu_3) (cwV 1 hts gv_h6_0 rfl rfl rfl (by decide +kernel) ⟨Nat.le_of_ble_eq_true rfl, Nat.le_of_ble_eq_true rfl⟩) ⟨fun a U g mk q => by obtain ⟨q0, q1, qP, qK, qD⟩ := q; exact ⟨q0, q1, qP, va_K.moved (u := U) (U := U.calling g mk a) (Vm.Alike.refl U.vm) qK, qD⟩, va_recv hKc hPc (ci := 13) (q0 := 0) rfl rfl, fun U hU hW => ⟨rfl, by rw [hU], by rw [hU]; exact hPc, va_K.moved hW.alike hKc, hDc.weaken (fun _ _ _ _ => trivial)⟩⟩ rfl rfl hl.1 rfl (lv_room (Nat.le_of_ble_eq_true rfl)) dX13_feed_27 ⟨Nat.le_of_ble_eq_true rfl, Nat.le_of_ble_eq_true rfl⟩) hS (fun q _ h => hFc q h) hFc ?_
    clear hS
    intro u t H1 locs ht hvm hw hB hz1 hk1 hS
    obtain ⟨z_3, rfl⟩ : ∃ z, z = u := ⟨_, rfl⟩
    obtain ⟨hP1, hK1, hD1⟩ := hB
    rw [ht] at hP1
    have hK1 := va_K.moved hvm.symm hK1
    try dsimp only at hw
    have hPD := va_join (wr := []) (w1 := [(h0, .inr (13, z_3)), (qf0, .inl (cf0, 6000, .inl g903_0))]) hP hD [0, 1] [] rfl rfl (by decide) (by decide) hk1 hFc hP1 hD1
    clear hP hD
    obtain ⟨hP, hD⟩ := hPD
    replace hK := (hK.sub (tys' := []) [] rfl).app hK1
    clear hPc hDc hKc hFc hP1 hK1 hD1 hz1 hk1 ht hvm
    generalize H1 = H at hP hS ⊢
    replace hP : va_P (dC, dI) vwCl [(h0, .inr (13, z_3)), (qf0, .inl (cf0, 6000, .inl g903_0))] H := hP
    replace hD : va_D A [(h0, .inr (13, z_3)), (qf0, .inl (cf0, 6000, .inl g903_0))] := hD
    replace hK : va_K (dC, dI) vwCl [(cf0, .int)] s := hK
    obtain ⟨hwa_3, hln_3, hre_3, hch_3_1⟩ := hw
    have hfk_3_0 : z_3[0]? = some (.ref qf0) := (hre_3 0 (by decide)).trans (hfk_2_0)
    have hrq_3 : ∀ j : Nat, j ≠ 1 → z_3[j]? = zs[j]? := fun j g1 => (hre_3 j g1).trans (hrq_2 j g1)
    refine lv_aload_n hx hb dX13_feed_30 rfl (lv_at hl 0 rfl) ?_
    refine lv_iload hx hb dX13_feed_31 (lv_at hl 4 rfl) ?_
    obtain ⟨⟨g904_0, u4_1⟩, hu_4, hsp⟩ := ox_bind hsp
    try dsimp only at hsp
    have hPc := hP.sub (ws' := [(h0, .inr (13, z_3)), (qf0, .inl (cf0, 6000, .inl g903_0))]) [0, 1] rfl
    have hDc := hD.sub (ws' := [(h0, .inr (13, z_3)), (qf0, .inl (cf0, 6000, .inl g903_0))]) [0, 1] (by decide) rfl
    have hKc := hK.sub (tys' := [(cf0, .int)]) [0] rfl
    have hFc := va_free (wc := [(h0, .inr (13, z_3)), (qf0, .inl (cf0, 6000, .inl g903_0))]) hD hS hA [0, 1] rfl
    refine va_callv (va_runV (As := [.int a4]) (rest := []) ⟨hx, hb, hml, hown, hts⟩ (tn_lay l dC dI H.size h0 z_3 a4 qf0 u3_1 cf0 g903_0 nf g904_0 u4_1 hln_3 hfk_3_0 hch_3_1 hu_4) (cwV 1 hts gv_h6_0 rfl rfl rfl (by decide +kernel) ⟨Nat.le_of_ble_eq_true rfl, Nat.le_of_ble_eq_true rfl⟩) ⟨fun a U g mk q => by obtain ⟨q0, q1, qP, qK, qD⟩ := q; exact ⟨q0, q1, qP, va_K.moved (u := U) (U := U.calling g mk a) (Vm.Alike.refl U.vm) qK, qD⟩, va_recv hKc hPc (ci := 13) (q0 := 0) rfl rfl, fun U hU hW => ⟨rfl, by rw [hU], by rw [hU]; exact hPc, va_K.moved hW.alike hKc, hDc.weaken (fun _ _ _ _ => trivial)⟩⟩ rfl rfl hl.1 rfl (lv_room (Nat.le_of_ble_eq_true rfl)) dX13_feed_33 ⟨Nat.le_of_ble_eq_true rfl, Nat.le_of_ble_eq_true rfl⟩) hS (fun q _ h => hFc q h) hFc ?_
    clear hS
    intro u t H1 locs ht hvm hw hB hz1 hk1 hS
    obtain ⟨z_4, rfl⟩ : ∃ z, z = u := ⟨_, rfl⟩
    obtain ⟨hP1, hK1, hD1⟩ := hB
    rw [ht] at hP1
    have hK1 := va_K.moved hvm.symm hK1
    try dsimp only at hw
    have hPD := va_join (wr := []) (w1 := [(h0, .inr (13, z_4)), (qf0, .inl (cf0, 6000, .inl g904_0))]) hP hD [0, 1] [] rfl rfl (by decide) (by decide) hk1 hFc hP1 hD1
    clear hP hD
    obtain ⟨hP, hD⟩ := hPD
    replace hK := (hK.sub (tys' := []) [] rfl).app hK1
    clear hPc hDc hKc hFc hP1 hK1 hD1 hz1 hk1 ht hvm
    generalize H1 = H at hP hS ⊢
    replace hP : va_P (dC, dI) vwCl [(h0, .inr (13, z_4)), (qf0, .inl (cf0, 6000, .inl g904_0))] H := hP
    replace hD : va_D A [(h0, .inr (13, z_4)), (qf0, .inl (cf0, 6000, .inl g904_0))] := hD
    replace hK : va_K (dC, dI) vwCl [(cf0, .int)] s := hK
    obtain ⟨hwa_4, hln_4, hre_4, hch_4_1⟩ := hw
    have hfk_4_0 : z_4[0]? = some (.ref qf0) := (hre_4 0 (by decide)).trans (hfk_3_0)
    have hrq_4 : ∀ j : Nat, j ≠ 1 → z_4[j]? = zs[j]? := fun j g1 => (hre_4 j g1).trans (hrq_3 j g1)
    refine lv_aload_n hx hb dX13_feed_36 rfl (lv_at hl 0 rfl) ?_
    refine lv_iload hx hb dX13_feed_37 (lv_at hl 5 rfl) ?_
    obtain ⟨⟨g905_0, u5_1⟩, hu_5, hsp⟩ := ox_bind hsp
    try dsimp only at hsp
    have hPc := hP.sub (ws' := [(h0, .inr (13, z_4)), (qf0, .inl (cf0, 6000, .inl g904_0))]) [0, 1] rfl
    have hDc := hD.sub (ws' := [(h0, .inr (13, z_4)), (qf0, .inl (cf0, 6000, .inl g904_0))]) [0, 1] (by decide) rfl
    have hKc := hK.sub (tys' := [(cf0, .int)]) [0] rfl
    have hFc := va_free (wc := [(h0, .inr (13, z_4)), (qf0, .inl (cf0, 6000, .inl g904_0))]) hD hS hA [0, 1] rfl
    refine va_callv (va_runV (As := [.int a5]) (rest := []) ⟨hx, hb, hml, hown, hts⟩ (tn_lay l dC dI H.size h0 z_4 a5 qf0 u4_1 cf0 g904_0 nf g905_0 u5_1 hln_4 hfk_4_0 hch_4_1 hu_5) (cwV 1 hts gv_h6_0 rfl rfl rfl (by decide +kernel) ⟨Nat.le_of_ble_eq_true rfl, Nat.le_of_ble_eq_true rfl⟩) ⟨fun a U g mk q => by obtain ⟨q0, q1, qP, qK, qD⟩ := q; exact ⟨q0, q1, qP, va_K.moved (u := U) (U := U.calling g mk a) (Vm.Alike.refl U.vm) qK, qD⟩, va_recv hKc hPc (ci := 13) (q0 := 0) rfl rfl, fun U hU hW => ⟨rfl, by rw [hU], by rw [hU]; exact hPc, va_K.moved hW.alike hKc, hDc.weaken (fun _ _ _ _ => trivial)⟩⟩ rfl rfl hl.1 rfl (lv_room (Nat.le_of_ble_eq_true rfl)) dX13_feed_39 ⟨Nat.le_of_ble_eq_true rfl, Nat.le_of_ble_eq_true rfl⟩) hS (fun q _ h => hFc q h) hFc ?_
    clear hS
    intro u t H1 locs ht hvm hw hB hz1 hk1 hS
    obtain ⟨z_5, rfl⟩ : ∃ z, z = u := ⟨_, rfl⟩
    obtain ⟨hP1, hK1, hD1⟩ := hB
    rw [ht] at hP1
    have hK1 := va_K.moved hvm.symm hK1
    try dsimp only at hw
    have hPD := va_join (wr := []) (w1 := [(h0, .inr (13, z_5)), (qf0, .inl (cf0, 6000, .inl g905_0))]) hP hD [0, 1] [] rfl rfl (by decide) (by decide) hk1 hFc hP1 hD1
    clear hP hD
    obtain ⟨hP, hD⟩ := hPD
    replace hK := (hK.sub (tys' := []) [] rfl).app hK1
    clear hPc hDc hKc hFc hP1 hK1 hD1 hz1 hk1 ht hvm
    generalize H1 = H at hP hS ⊢
    replace hP : va_P (dC, dI) vwCl [(h0, .inr (13, z_5)), (qf0, .inl (cf0, 6000, .inl g905_0))] H := hP
    replace hD : va_D A [(h0, .inr (13, z_5)), (qf0, .inl (cf0, 6000, .inl g905_0))] := hD
    replace hK : va_K (dC, dI) vwCl [(cf0, .int)] s := hK
    obtain ⟨hwa_5, hln_5, hre_5, hch_5_1⟩ := hw
    have hfk_5_0 : z_5[0]? = some (.ref qf0) := (hre_5 0 (by decide)).trans (hfk_4_0)
    have hrq_5 : ∀ j : Nat, j ≠ 1 → z_5[j]? = zs[j]? := fun j g1 => (hre_5 j g1).trans (hrq_4 j g1)
    refine lv_aload_n hx hb dX13_feed_42 rfl (lv_at hl 0 rfl) ?_
    refine va_get (D := (dC, dI)) (ci := 13) (v := .int u5_1) (C := RX13) (T := TX13) (N := 155) hx hb hts uV_h6_X13 hown hK hP 0 rfl rfl 1 (by decide) (hts (.fieldLink RX13 312 "ClassMillModel" "taped" "I") mw_h6_1) (fun _ h9 => h9) hch_5_1 dX13_feed_43 ?_
    have hr0 := Option.some.inj hsp
    clear hsp
    obtain ⟨hq0, hr1⟩ := Prod.mk.inj hr0
    clear hr0
    obtain ⟨hq1, hr2⟩ := Prod.mk.inj hr1
    clear hr1
    subst hq0
    subst hq1
    subst hr2
    have hP9 := hP.sub (ws' := [(h0, .inr (13, z_5)), (qf0, .inl (cf0, 6000, .inl g905_0))]) [0, 1] rfl
    have hD9 := hD.sub (ws' := [(h0, .inr (13, z_5)), (qf0, .inl (cf0, 6000, .inl g905_0))]) [0, 1] (by decide) rfl
    have hK9 := hK.sub (tys' := [(cf0, .int)]) [0] rfl
    exact W.iret hx hb hr (fun t ht hW => ⟨⟨(u5_1), (z_5), rfl, ⟨rfl, hln_5, hrq_5, hch_5_1⟩, by rw [ht]; exact hP9, va_K.moved hW.alike hK9, hD9⟩, hS.F ht⟩) hS.2.2 dX13_feed_46
  · rw [if_neg c_1] at hsp
    refine lv_iconst (v := (-1)) hx hb dX13_feed_13 (by decide) ?_
    have hr0 := Option.some.inj hsp
    clear hsp
    obtain ⟨hq0, hr1⟩ := Prod.mk.inj hr0
    clear hr0
    obtain ⟨hq1, hr2⟩ := Prod.mk.inj hr1
    clear hr1
    subst hq0
    subst hq1
    subst hr2
    have hP9 := hP.sub (ws' := [(h0, .inr (13, zs)), (qf0, .inl (cf0, 6000, .inl f0))]) [0, 1] rfl
    have hD9 := hD.sub (ws' := [(h0, .inr (13, zs)), (qf0, .inl (cf0, 6000, .inl f0))]) [0, 1] (by decide) rfl
    have hK9 := hK.sub (tys' := [(cf0, .int)]) [0] rfl
    exact W.iret hx hb hr (fun t ht hW => ⟨⟨((-1)), (zs), rfl, ⟨rfl, hlen, hrs0, hf1⟩, by rw [ht]; exact hP9, va_K.moved hW.alike hK9, hD9⟩, hS.F ht⟩) hS.2.2 dX13_feed_14
def sp_tn_isTyped (nf : Nat) (v23 : Int32) (f4 : Nat → Int32) (f7 : Nat → Int32) : Option (Int32) := ((sp_tm_isWord nf v23 10 f4 f7).bind (fun p1 => (if p1 = 0 then ((sp_tm_isWord nf v23 0 f4 f7).bind (fun p2 => (if p2 = 0 then (if v23 < 0 then none else if 3008 ≤ (v23 : Int32).toNatClampNeg then none else (if (f4 (v23 : Int32).toNatClampNeg) = 1 then (if (v23 + 1) < 0 then none else if 3008 ≤ ((v23 + 1) : Int32).toNatClampNeg then none else (if (f4 ((v23 + 1) : Int32).toNatClampNeg) = 1 then (some 1) else ((sp_tm_isSign nf (v23 + 1) 91 f4 f7).bind (fun p3 => (if p3 = 0 then (some 0) else ((sp_tm_isSign nf (v23 + 2) 93 f4 f7).bind (fun p4 => (if p4 = 0 then (some 0) else (some 1))))))))) else (some 0))) else (some 1)))) else (some 1))))
set_option maxHeartbeats 4000000 in
set_option maxRecDepth 100000 in
/-- ClassMillModel.isTyped -/
theorem tn_isTyped (l : Launch) (dC : Nat → ClassId) (dI : Nat → Nat → Nat) (sz : Nat) (h0 : Nat) (zs : (List Value)) (qf4 : Nat) (qf7 : Nat) (v23 : Int32) (cf4 : ClassId) (f4 : (Nat → Int32)) (cf7 : ClassId) (f7 : (Nat → Int32)) (nf : Nat) (r0 : Int32) (hlen : zs.length = 155) (hf4 : zs[4]? = some (.ref qf4)) (hf7 : zs[7]? = some (.ref qf7)) (hf23 : zs[23]? = some (.int v23)) (hsp : sp_tn_isTyped nf v23 f4 f7 = some r0) : Met l yX13_isTyped (.code yX13_isTyped cX13_isTyped 1 (some .boolean) :: VS_h6) ({ frames := 1, cells := 0, slots := 0, locals := 22 }) (va_Pc [.ref h0] (fun U => U.heap.size = sz ∧ va_P (dC, dI) vwCl [(h0, .inr (13, zs)), (qf4, .inl (cf4, 3008, .inl f4)), (qf7, .inl (cf7, 3002, .inl f7))] U.heap ∧ va_K (dC, dI) vwCl [(cf4, .int), (cf7, .int)] U ∧ va_D (fun _ => True) [(h0, .inr (13, zs)), (qf4, .inl (cf4, 3008, .inl f4)), (qf7, .inl (cf7, 3002, .inl f7))])) (va_Qi (fun (r : Int32) (u : (List Value)) => match u with | (zo1) => (r0 = r ∧ (r0 = 0 ∨ r0 = 1)) ∧ zo1.length = 155 ∧ (∀ j : Nat, zo1[j]? = zs[j]?)) (fun (u : (List Value)) (t : State) => match u with | (zo1) => va_P (dC, dI) vwCl [(h0, .inr (13, zo1)), (qf4, .inl (cf4, 3008, .inl f4)), (qf7, .inl (cf7, 3002, .inl f7))] t.heap ∧ va_K (dC, dI) vwCl [(cf4, .int), (cf7, .int)] t ∧ va_D (va_A [(h0, .inr (13, zs)), (qf4, .inl (cf4, 3008, .inl f4)), (qf7, .inl (cf7, 3002, .inl f7))] sz) [(h0, .inr (13, zo1)), (qf4, .inl (cf4, 3008, .inl f4)), (qf7, .inl (cf7, 3002, .inl f7))]) (va_A [(h0, .inr (13, zs)), (qf4, .inl (cf4, 3008, .inl f4)), (qf7, .inl (cf7, 3002, .inl f7))] sz)) 0 0 (va_A [(h0, .inr (13, zs)), (qf4, .inl (cf4, 3008, .inl f4)), (qf7, .inl (cf7, 3002, .inl f7))] sz) := by
  refine Met.ofW (cc := cX13_isTyped) (maxL := 1) (ret := (some .boolean)) (by decide) rfl ?_
  intro p e s m args below meth c s₁ B hml hv
  obtain ⟨rfl, hsz, hP, hK, hD0⟩ := hv
  have hx := B.exec
  have hb := B.bytes
  have hr := B.returns
  have hts := atoms_spec (ws := (.code yX13_isTyped cX13_isTyped 1 (some .boolean) :: VS_h6)) B.pre
  replace hts := fun w (h : w ∈ VS_h6) => hts w (List.mem_cons_of_mem _ h)
  have hown : s.vm.findClass RX13 = some m.cls := findClass_of_methodNamed B.named
  have hlocks := B.notSynchronized
  subst hsz
  have hD := hD0.self (sz := s.heap.size)
  generalize hAe : va_A [(h0, .inr (13, zs)), (qf4, .inl (cf4, 3008, .inl f4)), (qf7, .inl (cf7, 3002, .inl f7))] s.heap.size = A at hD  ⊢
  have hA : ∀ q : Nat, s.heap.size ≤ q → A q := fun q h => by rw [← hAe]; exact Or.inr h
  have hP : va_P (dC, dI) vwCl [(h0, .inr (13, zs)), (qf4, .inl (cf4, 3008, .inl f4)), (qf7, .inl (cf7, 3002, .inl f7))] s.heap := hP
  have hl := lv_entry ([.ref h0]) (n := 1) (Nat.le_of_ble_eq_true rfl)
  rw [lg_entry_eq]
  generalize (lg_sl ([.ref h0]) ++ List.replicate (1 - (lg_sl ([.ref h0])).length) Slot.unset).toArray = ls at hl ⊢
  have hl : lv_has ls 1 [(0, .ref h0)] := hl
  obtain ⟨H, hH⟩ : ∃ H : Heap, s.heap = H := ⟨_, rfl⟩
  rw [hH] at hP ⊢
  have hS : va_S A s.heap H [] := by rw [← hH]; exact va_S.rf
  obtain ⟨locs, hlo⟩ : ∃ locs : List Loc, locs = [] := ⟨_, rfl⟩
  rw [← hlo] at hS ⊢
  have hrs0 : ∀ j : Nat, zs[j]? = zs[j]? := fun _  => rfl
  unfold sp_tn_isTyped at hsp
  refine lv_aload_n hx hb dX13_isTyped_0 rfl (lv_at hl 0 rfl) ?_
  refine lv_aload_n hx hb dX13_isTyped_1 rfl (lv_at hl 0 rfl) ?_
  refine va_get (D := (dC, dI)) (ci := 13) (v := .int v23) (C := RX13) (T := TX13) (N := 155) hx hb hts uV_h6_X13 hown hK hP 0 rfl rfl 23 (by decide) (hts (.fieldLink RX13 376 "ClassMillModel" "cursor" "I") mw_h6_15) (fun _ h9 => h9) hf23 dX13_isTyped_2 ?_
  refine lv_bipush (v := 10) hx hb dX13_isTyped_5 (by decide) ?_
  obtain ⟨u1_0, hu_1, hsp⟩ := ox_bind hsp
  try dsimp only at hsp
  have hPc := hP.sub (ws' := [(h0, .inr (13, zs)), (qf4, .inl (cf4, 3008, .inl f4)), (qf7, .inl (cf7, 3002, .inl f7))]) [0, 1, 2] rfl
  have hDc := hD.sub (ws' := [(h0, .inr (13, zs)), (qf4, .inl (cf4, 3008, .inl f4)), (qf7, .inl (cf7, 3002, .inl f7))]) [0, 1, 2] (by decide) rfl
  have hKc := hK.sub (tys' := [(cf4, .int), (cf7, .int)]) [0, 1] rfl
  have hFc := va_free (wc := [(h0, .inr (13, zs)), (qf4, .inl (cf4, 3008, .inl f4)), (qf7, .inl (cf7, 3002, .inl f7))]) hD hS hA [0, 1, 2] rfl
  refine va_calli (va_runV (As := [.int v23, .int 10]) (rest := []) ⟨hx, hb, hml, hown, hts⟩ (tm_isWord l dC dI H.size h0 zs v23 10 qf4 qf7 cf4 f4 cf7 f7 nf u1_0 hlen hf4 hf7 hu_1) (cwV 2 hts gv_h6_1 rfl rfl rfl (by decide +kernel) ⟨Nat.le_of_ble_eq_true rfl, Nat.le_of_ble_eq_true rfl⟩) ⟨fun a U g mk q => by obtain ⟨q0, q1, qP, qK, qD⟩ := q; exact ⟨q0, q1, qP, va_K.moved (u := U) (U := U.calling g mk a) (Vm.Alike.refl U.vm) qK, qD⟩, va_recv hKc hPc (ci := 13) (q0 := 0) rfl rfl, fun U hU hW => ⟨rfl, by rw [hU], by rw [hU]; exact hPc, va_K.moved hW.alike hKc, hDc.weaken (fun _ _ _ _ => trivial)⟩⟩ rfl rfl hl.1 rfl (lv_room (Nat.le_of_ble_eq_true rfl)) dX13_isTyped_7 ⟨Nat.le_of_ble_eq_true rfl, Nat.le_of_ble_eq_true rfl⟩) hS (fun q _ h => hFc q h) hFc ?_
  clear hS
  intro r_1 u t H1 locs ht hvm hw hB hz1 hk1 hS
  obtain ⟨z_1, rfl⟩ : ∃ z, z = u := ⟨_, rfl⟩
  obtain ⟨hP1, hK1, hD1⟩ := hB
  rw [ht] at hP1
  have hK1 := va_K.moved hvm.symm hK1
  try dsimp only at hw
  have hPD := va_join (wr := []) (w1 := [(h0, .inr (13, z_1)), (qf4, .inl (cf4, 3008, .inl f4)), (qf7, .inl (cf7, 3002, .inl f7))]) hP hD [0, 1, 2] [] rfl rfl (by decide) (by decide) hk1 hFc hP1 hD1
  clear hP hD
  obtain ⟨hP, hD⟩ := hPD
  replace hK := (hK.sub (tys' := []) [] rfl).app hK1
  clear hPc hDc hKc hFc hP1 hK1 hD1 hz1 hk1 ht hvm
  generalize H1 = H at hP hS ⊢
  replace hP : va_P (dC, dI) vwCl [(h0, .inr (13, z_1)), (qf4, .inl (cf4, 3008, .inl f4)), (qf7, .inl (cf7, 3002, .inl f7))] H := hP
  replace hD : va_D A [(h0, .inr (13, z_1)), (qf4, .inl (cf4, 3008, .inl f4)), (qf7, .inl (cf7, 3002, .inl f7))] := hD
  replace hK : va_K (dC, dI) vwCl [(cf4, .int), (cf7, .int)] s := hK
  obtain ⟨hwa_1, hln_1, hre_1⟩ := hw
  have hfk_1_4 : z_1[4]? = some (.ref qf4) := (hre_1 4 ).trans (hf4)
  have hfk_1_7 : z_1[7]? = some (.ref qf7) := (hre_1 7 ).trans (hf7)
  have hfk_1_23 : z_1[23]? = some (.int v23) := (hre_1 23 ).trans (hf23)
  have hrq_1 : ∀ j : Nat, z_1[j]? = zs[j]? := fun j  => (hre_1 j ).trans (hrs0 j )
  obtain ⟨rfl, hz_1⟩ := hwa_1
  rcases hz_1 with rfl | rfl
  · rw [if_pos rfl] at hsp
    refine lv_if_ne (tgt := 25) hx hb dX13_isTyped_10 (by decide) (fun c_2 => (show False by revert c_2; decide).elim) (fun c_2 => ?_)
    refine lv_aload_n hx hb dX13_isTyped_13 rfl (lv_at hl 0 rfl) ?_
    refine lv_aload_n hx hb dX13_isTyped_14 rfl (lv_at hl 0 rfl) ?_
    refine va_get (D := (dC, dI)) (ci := 13) (v := .int v23) (C := RX13) (T := TX13) (N := 155) hx hb hts uV_h6_X13 hown hK hP 0 rfl rfl 23 (by decide) (hts (.fieldLink RX13 376 "ClassMillModel" "cursor" "I") mw_h6_15) (fun _ h9 => h9) hfk_1_23 dX13_isTyped_15 ?_
    refine lv_iconst (v := 0) hx hb dX13_isTyped_18 (by decide) ?_
    obtain ⟨u2_0, hu_2, hsp⟩ := ox_bind hsp
    try dsimp only at hsp
    have hPc := hP.sub (ws' := [(h0, .inr (13, z_1)), (qf4, .inl (cf4, 3008, .inl f4)), (qf7, .inl (cf7, 3002, .inl f7))]) [0, 1, 2] rfl
    have hDc := hD.sub (ws' := [(h0, .inr (13, z_1)), (qf4, .inl (cf4, 3008, .inl f4)), (qf7, .inl (cf7, 3002, .inl f7))]) [0, 1, 2] (by decide) rfl
    have hKc := hK.sub (tys' := [(cf4, .int), (cf7, .int)]) [0, 1] rfl
    have hFc := va_free (wc := [(h0, .inr (13, z_1)), (qf4, .inl (cf4, 3008, .inl f4)), (qf7, .inl (cf7, 3002, .inl f7))]) hD hS hA [0, 1, 2] rfl
    refine va_calli (va_runV (As := [.int v23, .int 0]) (rest := []) ⟨hx, hb, hml, hown, hts⟩ (tm_isWord l dC dI H.size h0 z_1 v23 0 qf4 qf7 cf4 f4 cf7 f7 nf u2_0 hln_1 hfk_1_4 hfk_1_7 hu_2) (cwV 2 hts gv_h6_1 rfl rfl rfl (by decide +kernel) ⟨Nat.le_of_ble_eq_true rfl, Nat.le_of_ble_eq_true rfl⟩) ⟨fun a U g mk q => by obtain ⟨q0, q1, qP, qK, qD⟩ := q; exact ⟨q0, q1, qP, va_K.moved (u := U) (U := U.calling g mk a) (Vm.Alike.refl U.vm) qK, qD⟩, va_recv hKc hPc (ci := 13) (q0 := 0) rfl rfl, fun U hU hW => ⟨rfl, by rw [hU], by rw [hU]; exact hPc, va_K.moved hW.alike hKc, hDc.weaken (fun _ _ _ _ => trivial)⟩⟩ rfl rfl hl.1 rfl (lv_room (Nat.le_of_ble_eq_true rfl)) dX13_isTyped_19 ⟨Nat.le_of_ble_eq_true rfl, Nat.le_of_ble_eq_true rfl⟩) hS (fun q _ h => hFc q h) hFc ?_
    clear hS
    intro r_3 u t H1 locs ht hvm hw hB hz1 hk1 hS
    obtain ⟨z_2, rfl⟩ : ∃ z, z = u := ⟨_, rfl⟩
    obtain ⟨hP1, hK1, hD1⟩ := hB
    rw [ht] at hP1
    have hK1 := va_K.moved hvm.symm hK1
    try dsimp only at hw
    have hPD := va_join (wr := []) (w1 := [(h0, .inr (13, z_2)), (qf4, .inl (cf4, 3008, .inl f4)), (qf7, .inl (cf7, 3002, .inl f7))]) hP hD [0, 1, 2] [] rfl rfl (by decide) (by decide) hk1 hFc hP1 hD1
    clear hP hD
    obtain ⟨hP, hD⟩ := hPD
    replace hK := (hK.sub (tys' := []) [] rfl).app hK1
    clear hPc hDc hKc hFc hP1 hK1 hD1 hz1 hk1 ht hvm
    generalize H1 = H at hP hS ⊢
    replace hP : va_P (dC, dI) vwCl [(h0, .inr (13, z_2)), (qf4, .inl (cf4, 3008, .inl f4)), (qf7, .inl (cf7, 3002, .inl f7))] H := hP
    replace hD : va_D A [(h0, .inr (13, z_2)), (qf4, .inl (cf4, 3008, .inl f4)), (qf7, .inl (cf7, 3002, .inl f7))] := hD
    replace hK : va_K (dC, dI) vwCl [(cf4, .int), (cf7, .int)] s := hK
    obtain ⟨hwa_2, hln_2, hre_2⟩ := hw
    have hfk_2_4 : z_2[4]? = some (.ref qf4) := (hre_2 4 ).trans (hfk_1_4)
    have hfk_2_7 : z_2[7]? = some (.ref qf7) := (hre_2 7 ).trans (hfk_1_7)
    have hfk_2_23 : z_2[23]? = some (.int v23) := (hre_2 23 ).trans (hfk_1_23)
    have hrq_2 : ∀ j : Nat, z_2[j]? = zs[j]? := fun j  => (hre_2 j ).trans (hrq_1 j )
    obtain ⟨rfl, hz_2⟩ := hwa_2
    rcases hz_2 with rfl | rfl
    · rw [if_pos rfl] at hsp
      refine lv_if_eq (tgt := 27) hx hb dX13_isTyped_22 (by decide) (fun c_4 => ?_) (fun c_4 => (show False by revert c_4; decide).elim)
      refine lv_aload_n hx hb dX13_isTyped_27 rfl (lv_at hl 0 rfl) ?_
      refine va_get (D := (dC, dI)) (ci := 13) (v := .ref qf4) (C := RX13) (T := TX13) (N := 155) hx hb hts uV_h6_X13 hown hK hP 0 rfl rfl 4 (by decide) (hts (.fieldLink RX13 16 "ClassMillModel" "kind" "[I") mw_h6_16) (fun _ h9 => h9) hfk_2_4 dX13_isTyped_28 ?_
      refine lv_aload_n hx hb dX13_isTyped_31 rfl (lv_at hl 0 rfl) ?_
      refine va_get (D := (dC, dI)) (ci := 13) (v := .int v23) (C := RX13) (T := TX13) (N := 155) hx hb hts uV_h6_X13 hown hK hP 0 rfl rfl 23 (by decide) (hts (.fieldLink RX13 376 "ClassMillModel" "cursor" "I") mw_h6_15) (fun _ h9 => h9) hfk_2_23 dX13_isTyped_32 ?_
      obtain ⟨hi_5, hsp⟩ := ox_in hsp
      refine va_iald hx hb hK hP 1 0 rfl rfl (i := v23) hi_5 dX13_isTyped_35 ?_
      refine lv_iconst (v := 1) hx hb dX13_isTyped_36 (by decide) ?_
      refine lv_icmp_eq (tgt := 42) hx hb dX13_isTyped_37 (by decide) (fun c_6 => ?_) (fun c_6 => ?_)
      · rw [if_pos c_6] at hsp
        refine lv_aload_n hx hb dX13_isTyped_42 rfl (lv_at hl 0 rfl) ?_
        refine va_get (D := (dC, dI)) (ci := 13) (v := .ref qf4) (C := RX13) (T := TX13) (N := 155) hx hb hts uV_h6_X13 hown hK hP 0 rfl rfl 4 (by decide) (hts (.fieldLink RX13 16 "ClassMillModel" "kind" "[I") mw_h6_16) (fun _ h9 => h9) hfk_2_4 dX13_isTyped_43 ?_
        refine lv_aload_n hx hb dX13_isTyped_46 rfl (lv_at hl 0 rfl) ?_
        refine va_get (D := (dC, dI)) (ci := 13) (v := .int v23) (C := RX13) (T := TX13) (N := 155) hx hb hts uV_h6_X13 hown hK hP 0 rfl rfl 23 (by decide) (hts (.fieldLink RX13 376 "ClassMillModel" "cursor" "I") mw_h6_15) (fun _ h9 => h9) hfk_2_23 dX13_isTyped_47 ?_
        refine lv_iconst (v := 1) hx hb dX13_isTyped_50 (by decide) ?_
        refine lv_iadd hx hb dX13_isTyped_51 ?_
        obtain ⟨hi_7, hsp⟩ := ox_in hsp
        refine va_iald hx hb hK hP 1 0 rfl rfl (i := (v23 + 1)) hi_7 dX13_isTyped_52 ?_
        refine lv_iconst (v := 1) hx hb dX13_isTyped_53 (by decide) ?_
        refine lv_icmp_eq (tgt := 87) hx hb dX13_isTyped_54 (by decide) (fun c_8 => ?_) (fun c_8 => ?_)
        · rw [if_pos c_8] at hsp
          refine lv_iconst (v := 1) hx hb dX13_isTyped_87 (by decide) ?_
          refine lv_goto (tgt := 92) hx hb dX13_isTyped_88 (by decide) ?_
          have hr0 := Option.some.inj hsp
          clear hsp
          subst hr0
          have hP9 := hP.sub (ws' := [(h0, .inr (13, z_2)), (qf4, .inl (cf4, 3008, .inl f4)), (qf7, .inl (cf7, 3002, .inl f7))]) [0, 1, 2] rfl
          have hD9 := hD.sub (ws' := [(h0, .inr (13, z_2)), (qf4, .inl (cf4, 3008, .inl f4)), (qf7, .inl (cf7, 3002, .inl f7))]) [0, 1, 2] (by decide) rfl
          have hK9 := hK.sub (tys' := [(cf4, .int), (cf7, .int)]) [0, 1] rfl
          exact W.zret hx hb hr (by decide) (fun t ht hW => ⟨⟨(1), (z_2), rfl, ⟨⟨rfl, Or.inr rfl⟩, hln_2, hrq_2⟩, by rw [ht]; exact hP9, va_K.moved hW.alike hK9, hD9⟩, hS.F ht⟩) hS.2.2 dX13_isTyped_92
        · rw [if_neg c_8] at hsp
          refine lv_aload_n hx hb dX13_isTyped_57 rfl (lv_at hl 0 rfl) ?_
          refine lv_aload_n hx hb dX13_isTyped_58 rfl (lv_at hl 0 rfl) ?_
          refine va_get (D := (dC, dI)) (ci := 13) (v := .int v23) (C := RX13) (T := TX13) (N := 155) hx hb hts uV_h6_X13 hown hK hP 0 rfl rfl 23 (by decide) (hts (.fieldLink RX13 376 "ClassMillModel" "cursor" "I") mw_h6_15) (fun _ h9 => h9) hfk_2_23 dX13_isTyped_59 ?_
          refine lv_iconst (v := 1) hx hb dX13_isTyped_62 (by decide) ?_
          refine lv_iadd hx hb dX13_isTyped_63 ?_
          refine lv_bipush (v := 91) hx hb dX13_isTyped_64 (by decide) ?_
          obtain ⟨u3_0, hu_3, hsp⟩ := ox_bind hsp
          try dsimp only at hsp
          have hPc := hP.sub (ws' := [(h0, .inr (13, z_2)), (qf4, .inl (cf4, 3008, .inl f4)), (qf7, .inl (cf7, 3002, .inl f7))]) [0, 1, 2] rfl
          have hDc := hD.sub (ws' := [(h0, .inr (13, z_2)), (qf4, .inl (cf4, 3008, .inl f4)), (qf7, .inl (cf7, 3002, .inl f7))]) [0, 1, 2] (by decide) rfl
          have hKc := hK.sub (tys' := [(cf4, .int), (cf7, .int)]) [0, 1] rfl
          have hFc := va_free (wc := [(h0, .inr (13, z_2)), (qf4, .inl (cf4, 3008, .inl f4)), (qf7, .inl (cf7, 3002, .inl f7))]) hD hS hA [0, 1, 2] rfl
          refine va_calli (va_runV (As := [.int (v23 + 1), .int 91]) (rest := []) ⟨hx, hb, hml, hown, hts⟩ (tm_isSign l dC dI H.size h0 z_2 ((v23 + 1)) 91 qf4 qf7 cf4 f4 cf7 f7 nf u3_0 hln_2 hfk_2_4 hfk_2_7 hu_3) (cwV 2 hts gv_h6_2 rfl rfl rfl (by decide +kernel) ⟨Nat.le_of_ble_eq_true rfl, Nat.le_of_ble_eq_true rfl⟩) ⟨fun a U g mk q => by obtain ⟨q0, q1, qP, qK, qD⟩ := q; exact ⟨q0, q1, qP, va_K.moved (u := U) (U := U.calling g mk a) (Vm.Alike.refl U.vm) qK, qD⟩, va_recv hKc hPc (ci := 13) (q0 := 0) rfl rfl, fun U hU hW => ⟨rfl, by rw [hU], by rw [hU]; exact hPc, va_K.moved hW.alike hKc, hDc.weaken (fun _ _ _ _ => trivial)⟩⟩ rfl rfl hl.1 rfl (lv_room (Nat.le_of_ble_eq_true rfl)) dX13_isTyped_66 ⟨Nat.le_of_ble_eq_true rfl, Nat.le_of_ble_eq_true rfl⟩) hS (fun q _ h => hFc q h) hFc ?_
          clear hS
          intro r_9 u t H1 locs ht hvm hw hB hz1 hk1 hS
          obtain ⟨z_3, rfl⟩ : ∃ z, z = u := ⟨_, rfl⟩
          obtain ⟨hP1, hK1, hD1⟩ := hB
          rw [ht] at hP1
          have hK1 := va_K.moved hvm.symm hK1
          try dsimp only at hw
          have hPD := va_join (wr := []) (w1 := [(h0, .inr (13, z_3)), (qf4, .inl (cf4, 3008, .inl f4)), (qf7, .inl (cf7, 3002, .inl f7))]) hP hD [0, 1, 2] [] rfl rfl (by decide) (by decide) hk1 hFc hP1 hD1
          clear hP hD
          obtain ⟨hP, hD⟩ := hPD
          replace hK := (hK.sub (tys' := []) [] rfl).app hK1
          clear hPc hDc hKc hFc hP1 hK1 hD1 hz1 hk1 ht hvm
          generalize H1 = H at hP hS ⊢
          replace hP : va_P (dC, dI) vwCl [(h0, .inr (13, z_3)), (qf4, .inl (cf4, 3008, .inl f4)), (qf7, .inl (cf7, 3002, .inl f7))] H := hP
          replace hD : va_D A [(h0, .inr (13, z_3)), (qf4, .inl (cf4, 3008, .inl f4)), (qf7, .inl (cf7, 3002, .inl f7))] := hD
          replace hK : va_K (dC, dI) vwCl [(cf4, .int), (cf7, .int)] s := hK
          obtain ⟨hwa_3, hln_3, hre_3⟩ := hw
          have hfk_3_4 : z_3[4]? = some (.ref qf4) := (hre_3 4 ).trans (hfk_2_4)
          have hfk_3_7 : z_3[7]? = some (.ref qf7) := (hre_3 7 ).trans (hfk_2_7)
          have hfk_3_23 : z_3[23]? = some (.int v23) := (hre_3 23 ).trans (hfk_2_23)
          have hrq_3 : ∀ j : Nat, z_3[j]? = zs[j]? := fun j  => (hre_3 j ).trans (hrq_2 j )
          obtain ⟨rfl, hz_3⟩ := hwa_3
          rcases hz_3 with rfl | rfl
          · rw [if_pos rfl] at hsp
            refine lv_if_eq (tgt := 91) hx hb dX13_isTyped_69 (by decide) (fun c_10 => ?_) (fun c_10 => (show False by revert c_10; decide).elim)
            refine lv_iconst (v := 0) hx hb dX13_isTyped_91 (by decide) ?_
            have hr0 := Option.some.inj hsp
            clear hsp
            subst hr0
            have hP9 := hP.sub (ws' := [(h0, .inr (13, z_3)), (qf4, .inl (cf4, 3008, .inl f4)), (qf7, .inl (cf7, 3002, .inl f7))]) [0, 1, 2] rfl
            have hD9 := hD.sub (ws' := [(h0, .inr (13, z_3)), (qf4, .inl (cf4, 3008, .inl f4)), (qf7, .inl (cf7, 3002, .inl f7))]) [0, 1, 2] (by decide) rfl
            have hK9 := hK.sub (tys' := [(cf4, .int), (cf7, .int)]) [0, 1] rfl
            exact W.zret hx hb hr (by decide) (fun t ht hW => ⟨⟨(0), (z_3), rfl, ⟨⟨rfl, Or.inl rfl⟩, hln_3, hrq_3⟩, by rw [ht]; exact hP9, va_K.moved hW.alike hK9, hD9⟩, hS.F ht⟩) hS.2.2 dX13_isTyped_92
          · rw [if_neg (by decide)] at hsp
            refine lv_if_eq (tgt := 91) hx hb dX13_isTyped_69 (by decide) (fun c_11 => (show False by revert c_11; decide).elim) (fun c_11 => ?_)
            refine lv_aload_n hx hb dX13_isTyped_72 rfl (lv_at hl 0 rfl) ?_
            refine lv_aload_n hx hb dX13_isTyped_73 rfl (lv_at hl 0 rfl) ?_
            refine va_get (D := (dC, dI)) (ci := 13) (v := .int v23) (C := RX13) (T := TX13) (N := 155) hx hb hts uV_h6_X13 hown hK hP 0 rfl rfl 23 (by decide) (hts (.fieldLink RX13 376 "ClassMillModel" "cursor" "I") mw_h6_15) (fun _ h9 => h9) hfk_3_23 dX13_isTyped_74 ?_
            refine lv_iconst (v := 2) hx hb dX13_isTyped_77 (by decide) ?_
            refine lv_iadd hx hb dX13_isTyped_78 ?_
            refine lv_bipush (v := 93) hx hb dX13_isTyped_79 (by decide) ?_
            obtain ⟨u4_0, hu_4, hsp⟩ := ox_bind hsp
            try dsimp only at hsp
            have hPc := hP.sub (ws' := [(h0, .inr (13, z_3)), (qf4, .inl (cf4, 3008, .inl f4)), (qf7, .inl (cf7, 3002, .inl f7))]) [0, 1, 2] rfl
            have hDc := hD.sub (ws' := [(h0, .inr (13, z_3)), (qf4, .inl (cf4, 3008, .inl f4)), (qf7, .inl (cf7, 3002, .inl f7))]) [0, 1, 2] (by decide) rfl
            have hKc := hK.sub (tys' := [(cf4, .int), (cf7, .int)]) [0, 1] rfl
            have hFc := va_free (wc := [(h0, .inr (13, z_3)), (qf4, .inl (cf4, 3008, .inl f4)), (qf7, .inl (cf7, 3002, .inl f7))]) hD hS hA [0, 1, 2] rfl
            refine va_calli (va_runV (As := [.int (v23 + 2), .int 93]) (rest := []) ⟨hx, hb, hml, hown, hts⟩ (tm_isSign l dC dI H.size h0 z_3 ((v23 + 2)) 93 qf4 qf7 cf4 f4 cf7 f7 nf u4_0 hln_3 hfk_3_4 hfk_3_7 hu_4) (cwV 2 hts gv_h6_2 rfl rfl rfl (by decide +kernel) ⟨Nat.le_of_ble_eq_true rfl, Nat.le_of_ble_eq_true rfl⟩) ⟨fun a U g mk q => by obtain ⟨q0, q1, qP, qK, qD⟩ := q; exact ⟨q0, q1, qP, va_K.moved (u := U) (U := U.calling g mk a) (Vm.Alike.refl U.vm) qK, qD⟩, va_recv hKc hPc (ci := 13) (q0 := 0) rfl rfl, fun U hU hW => ⟨rfl, by rw [hU], by rw [hU]; exact hPc, va_K.moved hW.alike hKc, hDc.weaken (fun _ _ _ _ => trivial)⟩⟩ rfl rfl hl.1 rfl (lv_room (Nat.le_of_ble_eq_true rfl)) dX13_isTyped_81 ⟨Nat.le_of_ble_eq_true rfl, Nat.le_of_ble_eq_true rfl⟩) hS (fun q _ h => hFc q h) hFc ?_
            clear hS
            intro r_12 u t H1 locs ht hvm hw hB hz1 hk1 hS
            obtain ⟨z_4, rfl⟩ : ∃ z, z = u := ⟨_, rfl⟩
            obtain ⟨hP1, hK1, hD1⟩ := hB
            rw [ht] at hP1
            have hK1 := va_K.moved hvm.symm hK1
            try dsimp only at hw
            have hPD := va_join (wr := []) (w1 := [(h0, .inr (13, z_4)), (qf4, .inl (cf4, 3008, .inl f4)), (qf7, .inl (cf7, 3002, .inl f7))]) hP hD [0, 1, 2] [] rfl rfl (by decide) (by decide) hk1 hFc hP1 hD1
            clear hP hD
            obtain ⟨hP, hD⟩ := hPD
            replace hK := (hK.sub (tys' := []) [] rfl).app hK1
            clear hPc hDc hKc hFc hP1 hK1 hD1 hz1 hk1 ht hvm
            generalize H1 = H at hP hS ⊢
            replace hP : va_P (dC, dI) vwCl [(h0, .inr (13, z_4)), (qf4, .inl (cf4, 3008, .inl f4)), (qf7, .inl (cf7, 3002, .inl f7))] H := hP
            replace hD : va_D A [(h0, .inr (13, z_4)), (qf4, .inl (cf4, 3008, .inl f4)), (qf7, .inl (cf7, 3002, .inl f7))] := hD
            replace hK : va_K (dC, dI) vwCl [(cf4, .int), (cf7, .int)] s := hK
            obtain ⟨hwa_4, hln_4, hre_4⟩ := hw
            have hfk_4_4 : z_4[4]? = some (.ref qf4) := (hre_4 4 ).trans (hfk_3_4)
            have hfk_4_7 : z_4[7]? = some (.ref qf7) := (hre_4 7 ).trans (hfk_3_7)
            have hfk_4_23 : z_4[23]? = some (.int v23) := (hre_4 23 ).trans (hfk_3_23)
            have hrq_4 : ∀ j : Nat, z_4[j]? = zs[j]? := fun j  => (hre_4 j ).trans (hrq_3 j )
            obtain ⟨rfl, hz_4⟩ := hwa_4
            rcases hz_4 with rfl | rfl
            · rw [if_pos rfl] at hsp
              refine lv_if_eq (tgt := 91) hx hb dX13_isTyped_84 (by decide) (fun c_13 => ?_) (fun c_13 => (show False by revert c_13; decide).elim)
              refine lv_iconst (v := 0) hx hb dX13_isTyped_91 (by decide) ?_
              have hr0 := Option.some.inj hsp
              clear hsp
              subst hr0
              have hP9 := hP.sub (ws' := [(h0, .inr (13, z_4)), (qf4, .inl (cf4, 3008, .inl f4)), (qf7, .inl (cf7, 3002, .inl f7))]) [0, 1, 2] rfl
              have hD9 := hD.sub (ws' := [(h0, .inr (13, z_4)), (qf4, .inl (cf4, 3008, .inl f4)), (qf7, .inl (cf7, 3002, .inl f7))]) [0, 1, 2] (by decide) rfl
              have hK9 := hK.sub (tys' := [(cf4, .int), (cf7, .int)]) [0, 1] rfl
              exact W.zret hx hb hr (by decide) (fun t ht hW => ⟨⟨(0), (z_4), rfl, ⟨⟨rfl, Or.inl rfl⟩, hln_4, hrq_4⟩, by rw [ht]; exact hP9, va_K.moved hW.alike hK9, hD9⟩, hS.F ht⟩) hS.2.2 dX13_isTyped_92
            · rw [if_neg (by decide)] at hsp
              refine lv_if_eq (tgt := 91) hx hb dX13_isTyped_84 (by decide) (fun c_14 => (show False by revert c_14; decide).elim) (fun c_14 => ?_)
              refine lv_iconst (v := 1) hx hb dX13_isTyped_87 (by decide) ?_
              refine lv_goto (tgt := 92) hx hb dX13_isTyped_88 (by decide) ?_
              have hr0 := Option.some.inj hsp
              clear hsp
              subst hr0
              have hP9 := hP.sub (ws' := [(h0, .inr (13, z_4)), (qf4, .inl (cf4, 3008, .inl f4)), (qf7, .inl (cf7, 3002, .inl f7))]) [0, 1, 2] rfl
              have hD9 := hD.sub (ws' := [(h0, .inr (13, z_4)), (qf4, .inl (cf4, 3008, .inl f4)), (qf7, .inl (cf7, 3002, .inl f7))]) [0, 1, 2] (by decide) rfl
              have hK9 := hK.sub (tys' := [(cf4, .int), (cf7, .int)]) [0, 1] rfl
              exact W.zret hx hb hr (by decide) (fun t ht hW => ⟨⟨(1), (z_4), rfl, ⟨⟨rfl, Or.inr rfl⟩, hln_4, hrq_4⟩, by rw [ht]; exact hP9, va_K.moved hW.alike hK9, hD9⟩, hS.F ht⟩) hS.2.2 dX13_isTyped_92
      · rw [if_neg c_6] at hsp
        refine lv_iconst (v := 0) hx hb dX13_isTyped_40 (by decide) ?_
        have hr0 := Option.some.inj hsp
        clear hsp
        subst hr0
        have hP9 := hP.sub (ws' := [(h0, .inr (13, z_2)), (qf4, .inl (cf4, 3008, .inl f4)), (qf7, .inl (cf7, 3002, .inl f7))]) [0, 1, 2] rfl
        have hD9 := hD.sub (ws' := [(h0, .inr (13, z_2)), (qf4, .inl (cf4, 3008, .inl f4)), (qf7, .inl (cf7, 3002, .inl f7))]) [0, 1, 2] (by decide) rfl
        have hK9 := hK.sub (tys' := [(cf4, .int), (cf7, .int)]) [0, 1] rfl
        exact W.zret hx hb hr (by decide) (fun t ht hW => ⟨⟨(0), (z_2), rfl, ⟨⟨rfl, Or.inl rfl⟩, hln_2, hrq_2⟩, by rw [ht]; exact hP9, va_K.moved hW.alike hK9, hD9⟩, hS.F ht⟩) hS.2.2 dX13_isTyped_41
    · rw [if_neg (by decide)] at hsp
      refine lv_if_eq (tgt := 27) hx hb dX13_isTyped_22 (by decide) (fun c_15 => (show False by revert c_15; decide).elim) (fun c_15 => ?_)
      refine lv_iconst (v := 1) hx hb dX13_isTyped_25 (by decide) ?_
      have hr0 := Option.some.inj hsp
      clear hsp
      subst hr0
      have hP9 := hP.sub (ws' := [(h0, .inr (13, z_2)), (qf4, .inl (cf4, 3008, .inl f4)), (qf7, .inl (cf7, 3002, .inl f7))]) [0, 1, 2] rfl
      have hD9 := hD.sub (ws' := [(h0, .inr (13, z_2)), (qf4, .inl (cf4, 3008, .inl f4)), (qf7, .inl (cf7, 3002, .inl f7))]) [0, 1, 2] (by decide) rfl
      have hK9 := hK.sub (tys' := [(cf4, .int), (cf7, .int)]) [0, 1] rfl
      exact W.zret hx hb hr (by decide) (fun t ht hW => ⟨⟨(1), (z_2), rfl, ⟨⟨rfl, Or.inr rfl⟩, hln_2, hrq_2⟩, by rw [ht]; exact hP9, va_K.moved hW.alike hK9, hD9⟩, hS.F ht⟩) hS.2.2 dX13_isTyped_26
  · rw [if_neg (by decide)] at hsp
    refine lv_if_ne (tgt := 25) hx hb dX13_isTyped_10 (by decide) (fun c_16 => ?_) (fun c_16 => (show False by revert c_16; decide).elim)
    refine lv_iconst (v := 1) hx hb dX13_isTyped_25 (by decide) ?_
    have hr0 := Option.some.inj hsp
    clear hsp
    subst hr0
    have hP9 := hP.sub (ws' := [(h0, .inr (13, z_1)), (qf4, .inl (cf4, 3008, .inl f4)), (qf7, .inl (cf7, 3002, .inl f7))]) [0, 1, 2] rfl
    have hD9 := hD.sub (ws' := [(h0, .inr (13, z_1)), (qf4, .inl (cf4, 3008, .inl f4)), (qf7, .inl (cf7, 3002, .inl f7))]) [0, 1, 2] (by decide) rfl
    have hK9 := hK.sub (tys' := [(cf4, .int), (cf7, .int)]) [0, 1] rfl
    exact W.zret hx hb hr (by decide) (fun t ht hW => ⟨⟨(1), (z_1), rfl, ⟨⟨rfl, Or.inr rfl⟩, hln_1, hrq_1⟩, by rw [ht]; exact hP9, va_K.moved hW.alike hK9, hD9⟩, hS.F ht⟩) hS.2.2 dX13_isTyped_26
def lp_tn_isLike_24 (nf n : Nat) (a1 : Int32) (a2 : Int32) (f6 : Nat → Int32) (f5 : Nat → Int32) (f2 : Nat → Int32)  (l1_24 : Int32) (l2_24 : Int32) (l3_24 : Int32) (l4_24 : Int32) : Option (Int32) := match n with
  | 0 => none
  | n + 1 => (if l1_24 < 0 then none else if 3002 ≤ (l1_24 : Int32).toNatClampNeg then none else (if (f6 (l1_24 : Int32).toNatClampNeg) ≤ l4_24 then (if l3_24 = 0 then (some 0) else if l3_24 = 1 then (some 1) else none) else (if l3_24 = 0 then (if l3_24 = 0 then (some 0) else if l3_24 = 1 then (some 1) else none) else (if l1_24 < 0 then none else if 3002 ≤ (l1_24 : Int32).toNatClampNeg then none else (if ((f5 (l1_24 : Int32).toNatClampNeg) + l4_24) < 0 then none else if 3000 ≤ (((f5 (l1_24 : Int32).toNatClampNeg) + l4_24) : Int32).toNatClampNeg then none else (if l2_24 < 0 then none else if 3002 ≤ (l2_24 : Int32).toNatClampNeg then none else (if ((f5 (l2_24 : Int32).toNatClampNeg) + l4_24) < 0 then none else if 3000 ≤ (((f5 (l2_24 : Int32).toNatClampNeg) + l4_24) : Int32).toNatClampNeg then none else (if (f2 (((f5 (l1_24 : Int32).toNatClampNeg) + l4_24) : Int32).toNatClampNeg) = (f2 (((f5 (l2_24 : Int32).toNatClampNeg) + l4_24) : Int32).toNatClampNeg) then (lp_tn_isLike_24 nf n a1 a2 f6 f5 f2 l1_24 l2_24 1 (l4_24 + 1)) else (lp_tn_isLike_24 nf n a1 a2 f6 f5 f2 l1_24 l2_24 0 (l4_24 + 1))))))))))
def sp_tn_isLike (nf : Nat) (a1 : Int32) (a2 : Int32) (f6 : Nat → Int32) (f5 : Nat → Int32) (f2 : Nat → Int32) : Option (Int32) := (if a1 < 0 then none else if 3002 ≤ (a1 : Int32).toNatClampNeg then none else (if a2 < 0 then none else if 3002 ≤ (a2 : Int32).toNatClampNeg then none else (if (f6 (a1 : Int32).toNatClampNeg) = (f6 (a2 : Int32).toNatClampNeg) then (lp_tn_isLike_24 nf nf a1 a2 f6 f5 f2 a1 a2 1 0) else (lp_tn_isLike_24 nf nf a1 a2 f6 f5 f2 a1 a2 0 0))))
set_option maxHeartbeats 4000000 in
set_option maxRecDepth 100000 in
/-- ClassMillModel.isLike -/
theorem tn_isLike (l : Launch) (dC : Nat → ClassId) (dI : Nat → Nat → Nat) (sz : Nat) (h0 : Nat) (zs : (List Value)) (a1 : Int32) (a2 : Int32) (qf2 : Nat) (qf5 : Nat) (qf6 : Nat) (cf6 : ClassId) (f6 : (Nat → Int32)) (cf5 : ClassId) (f5 : (Nat → Int32)) (cf2 : ClassId) (f2 : (Nat → Int32)) (nf : Nat) (r0 : Int32) (hlen : zs.length = 155) (hf2 : zs[2]? = some (.ref qf2)) (hf5 : zs[5]? = some (.ref qf5)) (hf6 : zs[6]? = some (.ref qf6)) (hsp : sp_tn_isLike nf a1 a2 f6 f5 f2 = some r0) : Met l yX13_isLike (.code yX13_isLike cX13_isLike 5 (some .boolean) :: VS_h6) ({ frames := 0, cells := 0, slots := 0, locals := 0 }) (va_Pc [.ref h0, .int a1, .int a2] (fun U => U.heap.size = sz ∧ va_P (dC, dI) vwCl [(h0, .inr (13, zs)), (qf6, .inl (cf6, 3002, .inl f6)), (qf5, .inl (cf5, 3002, .inl f5)), (qf2, .inl (cf2, 3000, .inl f2))] U.heap ∧ va_K (dC, dI) vwCl [(cf6, .int), (cf5, .int), (cf2, .int)] U ∧ va_D (fun _ => True) [(h0, .inr (13, zs)), (qf6, .inl (cf6, 3002, .inl f6)), (qf5, .inl (cf5, 3002, .inl f5)), (qf2, .inl (cf2, 3000, .inl f2))])) (va_Qi (fun (r : Int32) (u : (List Value)) => match u with | (zo1) => (r0 = r ∧ (r0 = 0 ∨ r0 = 1)) ∧ zo1.length = 155 ∧ (∀ j : Nat, zo1[j]? = zs[j]?)) (fun (u : (List Value)) (t : State) => match u with | (zo1) => va_P (dC, dI) vwCl [(h0, .inr (13, zo1)), (qf6, .inl (cf6, 3002, .inl f6)), (qf5, .inl (cf5, 3002, .inl f5)), (qf2, .inl (cf2, 3000, .inl f2))] t.heap ∧ va_K (dC, dI) vwCl [(cf6, .int), (cf5, .int), (cf2, .int)] t ∧ va_D (va_A [(h0, .inr (13, zs)), (qf6, .inl (cf6, 3002, .inl f6)), (qf5, .inl (cf5, 3002, .inl f5)), (qf2, .inl (cf2, 3000, .inl f2))] sz) [(h0, .inr (13, zo1)), (qf6, .inl (cf6, 3002, .inl f6)), (qf5, .inl (cf5, 3002, .inl f5)), (qf2, .inl (cf2, 3000, .inl f2))]) (va_A [(h0, .inr (13, zs)), (qf6, .inl (cf6, 3002, .inl f6)), (qf5, .inl (cf5, 3002, .inl f5)), (qf2, .inl (cf2, 3000, .inl f2))] sz)) 0 0 (va_A [(h0, .inr (13, zs)), (qf6, .inl (cf6, 3002, .inl f6)), (qf5, .inl (cf5, 3002, .inl f5)), (qf2, .inl (cf2, 3000, .inl f2))] sz) := by
  refine Met.ofW (cc := cX13_isLike) (maxL := 5) (ret := (some .boolean)) (by decide) rfl ?_
  intro p e s m args below meth c s₁ B hml hv
  obtain ⟨rfl, hsz, hP, hK, hD0⟩ := hv
  have hx := B.exec
  have hb := B.bytes
  have hr := B.returns
  have hts := atoms_spec (ws := (.code yX13_isLike cX13_isLike 5 (some .boolean) :: VS_h6)) B.pre
  replace hts := fun w (h : w ∈ VS_h6) => hts w (List.mem_cons_of_mem _ h)
  have hown : s.vm.findClass RX13 = some m.cls := findClass_of_methodNamed B.named
  have hlocks := B.notSynchronized
  subst hsz
  have hD := hD0.self (sz := s.heap.size)
  generalize hAe : va_A [(h0, .inr (13, zs)), (qf6, .inl (cf6, 3002, .inl f6)), (qf5, .inl (cf5, 3002, .inl f5)), (qf2, .inl (cf2, 3000, .inl f2))] s.heap.size = A at hD  ⊢
  have hA : ∀ q : Nat, s.heap.size ≤ q → A q := fun q h => by rw [← hAe]; exact Or.inr h
  have hP : va_P (dC, dI) vwCl [(h0, .inr (13, zs)), (qf6, .inl (cf6, 3002, .inl f6)), (qf5, .inl (cf5, 3002, .inl f5)), (qf2, .inl (cf2, 3000, .inl f2))] s.heap := hP
  have hl := lv_entry ([.ref h0, .int a1, .int a2]) (n := 5) (Nat.le_of_ble_eq_true rfl)
  rw [lg_entry_eq]
  generalize (lg_sl ([.ref h0, .int a1, .int a2]) ++ List.replicate (5 - (lg_sl ([.ref h0, .int a1, .int a2])).length) Slot.unset).toArray = ls at hl ⊢
  have hl : lv_has ls 5 [(0, .ref h0), (1, .int a1), (2, .int a2)] := hl
  obtain ⟨H, hH⟩ : ∃ H : Heap, s.heap = H := ⟨_, rfl⟩
  rw [hH] at hP ⊢
  have hS : va_S A s.heap H [] := by rw [← hH]; exact va_S.rf
  obtain ⟨locs, hlo⟩ : ∃ locs : List Loc, locs = [] := ⟨_, rfl⟩
  rw [← hlo] at hS ⊢
  have hrs0 : ∀ j : Nat, zs[j]? = zs[j]? := fun _  => rfl
  unfold sp_tn_isLike at hsp
  refine lv_aload_n hx hb dX13_isLike_0 rfl (lv_at hl 0 rfl) ?_
  refine va_get (D := (dC, dI)) (ci := 13) (v := .ref qf6) (C := RX13) (T := TX13) (N := 155) hx hb hts uV_h6_X13 hown hK hP 0 rfl rfl 6 (by decide) (hts (.fieldLink RX13 22 "ClassMillModel" "wide" "[I") mw_h6_17) (fun _ h9 => h9) hf6 dX13_isLike_1 ?_
  refine lv_iload_n hx hb dX13_isLike_4 rfl (lv_at hl 1 rfl) ?_
  obtain ⟨hi_1, hsp⟩ := ox_in hsp
  refine va_iald hx hb hK hP 1 0 rfl rfl (i := a1) hi_1 dX13_isLike_5 ?_
  refine lv_aload_n hx hb dX13_isLike_6 rfl (lv_at hl 0 rfl) ?_
  refine va_get (D := (dC, dI)) (ci := 13) (v := .ref qf6) (C := RX13) (T := TX13) (N := 155) hx hb hts uV_h6_X13 hown hK hP 0 rfl rfl 6 (by decide) (hts (.fieldLink RX13 22 "ClassMillModel" "wide" "[I") mw_h6_17) (fun _ h9 => h9) hf6 dX13_isLike_7 ?_
  refine lv_iload_n hx hb dX13_isLike_10 rfl (lv_at hl 2 rfl) ?_
  obtain ⟨hi_2, hsp⟩ := ox_in hsp
  refine va_iald hx hb hK hP 1 0 rfl rfl (i := a2) hi_2 dX13_isLike_11 ?_
  refine lv_icmp_ne (tgt := 19) hx hb dX13_isLike_12 (by decide) (fun c_3 => ?_) (fun c_3 => ?_)
  · rw [if_neg c_3] at hsp
    refine lv_iconst (v := 0) hx hb dX13_isLike_19 (by decide) ?_
    refine lv_istore_n (lv' := [(3, .int 0), (0, .ref h0), (1, .int a1), (2, .int a2)]) hx hb dX13_isLike_20 rfl hl (by decide) rfl (fun ls hl => ?_)
    refine lv_iconst (v := 0) hx hb dX13_isLike_21 (by decide) ?_
    refine lv_istore (lv' := [(4, .int 0), (3, .int 0), (0, .ref h0), (1, .int a1), (2, .int a2)]) hx hb dX13_isLike_22 hl (by decide) rfl (fun ls hl => ?_)
    replace hP := hP.sub (ws' := [(h0, .inr (13, zs)), (qf6, .inl (cf6, 3002, .inl f6)), (qf5, .inl (cf5, 3002, .inl f5)), (qf2, .inl (cf2, 3000, .inl f2))]) [0, 1, 2, 3] rfl
    replace hD := hD.sub (ws' := [(h0, .inr (13, zs)), (qf6, .inl (cf6, 3002, .inl f6)), (qf5, .inl (cf5, 3002, .inl f5)), (qf2, .inl (cf2, 3000, .inl f2))]) [0, 1, 2, 3] (by decide) rfl
    replace hK := hK.sub (tys' := [(cf6, .int), (cf5, .int), (cf2, .int)]) [0, 1, 2] rfl
    obtain ⟨n_24, hn_24⟩ : ∃ z : Nat, z = nf := ⟨_, rfl⟩
    obtain ⟨z24, ez24⟩ : ∃ z : List Value, z = zs := ⟨_, rfl⟩
    obtain ⟨l1_24, el1_24⟩ : ∃ z : Int32, z = a1 := ⟨_, rfl⟩
    obtain ⟨l2_24, el2_24⟩ : ∃ z : Int32, z = a2 := ⟨_, rfl⟩
    obtain ⟨l3_24, el3_24⟩ : ∃ z : Int32, z = 0 := ⟨_, rfl⟩
    obtain ⟨l4_24, el4_24⟩ : ∃ z : Int32, z = 0 := ⟨_, rfl⟩
    replace hsp : lp_tn_isLike_24 nf n_24 a1 a2 f6 f5 f2 l1_24 l2_24 l3_24 l4_24 = some r0 := by rw [hn_24, el1_24, el2_24, el3_24, el4_24]; exact hsp
    replace hl : lv_has ls 5 [(4, .int l4_24), (3, .int l3_24), (0, .ref h0), (1, .int l1_24), (2, .int l2_24)] := by rw [el1_24, el2_24, el3_24, el4_24]; exact hl
    have hfh_24_2 : z24[2]? = some (.ref qf2) := by rw [ez24]; exact hf2
    have hfh_24_5 : z24[5]? = some (.ref qf5) := by rw [ez24]; exact hf5
    have hfh_24_6 : z24[6]? = some (.ref qf6) := by rw [ez24]; exact hf6
    have hlh_24 : z24.length = 155 := by rw [ez24]; exact hlen
    have hrh_24 : ∀ j : Nat, z24[j]? = zs[j]? := by rw [ez24]; exact hrs0
    replace hP : va_P (dC, dI) vwCl [(h0, .inr (13, z24)), (qf6, .inl (cf6, 3002, .inl f6)), (qf5, .inl (cf5, 3002, .inl f5)), (qf2, .inl (cf2, 3000, .inl f2))] H := by rw [ez24]; exact hP
    replace hD : va_D A [(h0, .inr (13, z24)), (qf6, .inl (cf6, 3002, .inl f6)), (qf5, .inl (cf5, 3002, .inl f5)), (qf2, .inl (cf2, 3000, .inl f2))] := by rw [ez24]; exact hD
    clear hn_24 ez24 el1_24 el2_24 el3_24 el4_24
    try clear hlo
    try clear hH
    revert hsp
    revert hP
    revert hD
    revert hS
    revert hl
    revert hrh_24
    revert hlh_24
    revert hfh_24_6
    revert hfh_24_5
    revert hfh_24_2
    revert l4_24
    revert l3_24
    revert l2_24
    revert l1_24
    revert z24
    revert ls
    revert locs
    revert H
    induction n_24 with
    | zero => intro H locs ls z24 l1_24 l2_24 l3_24 l4_24 hfh_24_2 hfh_24_5 hfh_24_6 hlh_24 hrh_24 hl hS hD hP hsp; unfold lp_tn_isLike_24 at hsp; cases hsp
    | succ n_24 ih_24 =>
      intro H locs ls z24 l1_24 l2_24 l3_24 l4_24 hfh_24_2 hfh_24_5 hfh_24_6 hlh_24 hrh_24 hl hS hD hP hsp
      unfold lp_tn_isLike_24 at hsp
      try dsimp only at hsp
      refine lv_iload hx hb dX13_isLike_24 (lv_at hl 0 rfl) ?_
      refine lv_aload_n hx hb dX13_isLike_26 rfl (lv_at hl 2 rfl) ?_
      refine va_get (D := (dC, dI)) (ci := 13) (v := .ref qf6) (C := RX13) (T := TX13) (N := 155) hx hb hts uV_h6_X13 hown hK hP 0 rfl rfl 6 (by decide) (hts (.fieldLink RX13 22 "ClassMillModel" "wide" "[I") mw_h6_17) (fun _ h9 => h9) hfh_24_6 dX13_isLike_27 ?_
      refine lv_iload_n hx hb dX13_isLike_30 rfl (lv_at hl 3 rfl) ?_
      obtain ⟨hi_4, hsp⟩ := ox_in hsp
      refine va_iald hx hb hK hP 1 0 rfl rfl (i := l1_24) hi_4 dX13_isLike_31 ?_
      refine lv_icmp_ge (tgt := 82) hx hb dX13_isLike_32 (by decide) (fun c_5 => ?_) (fun c_5 => ?_)
      · rw [if_pos c_5] at hsp
        refine lv_iload_n hx hb dX13_isLike_82 rfl (lv_at hl 1 rfl) ?_
        rcases ox_01 hsp with ⟨rfl, hsp⟩ | ⟨rfl, hsp⟩
        · skip
          have hr0 := Option.some.inj hsp
          clear hsp
          subst hr0
          have hP9 := hP.sub (ws' := [(h0, .inr (13, z24)), (qf6, .inl (cf6, 3002, .inl f6)), (qf5, .inl (cf5, 3002, .inl f5)), (qf2, .inl (cf2, 3000, .inl f2))]) [0, 1, 2, 3] rfl
          have hD9 := hD.sub (ws' := [(h0, .inr (13, z24)), (qf6, .inl (cf6, 3002, .inl f6)), (qf5, .inl (cf5, 3002, .inl f5)), (qf2, .inl (cf2, 3000, .inl f2))]) [0, 1, 2, 3] (by decide) rfl
          have hK9 := hK.sub (tys' := [(cf6, .int), (cf5, .int), (cf2, .int)]) [0, 1, 2] rfl
          exact W.zret hx hb hr (by decide) (fun t ht hW => ⟨⟨(0), (z24), rfl, ⟨⟨rfl, Or.inl rfl⟩, hlh_24, hrh_24⟩, by rw [ht]; exact hP9, va_K.moved hW.alike hK9, hD9⟩, hS.F ht⟩) hS.2.2 dX13_isLike_83
        · skip
          have hr0 := Option.some.inj hsp
          clear hsp
          subst hr0
          have hP9 := hP.sub (ws' := [(h0, .inr (13, z24)), (qf6, .inl (cf6, 3002, .inl f6)), (qf5, .inl (cf5, 3002, .inl f5)), (qf2, .inl (cf2, 3000, .inl f2))]) [0, 1, 2, 3] rfl
          have hD9 := hD.sub (ws' := [(h0, .inr (13, z24)), (qf6, .inl (cf6, 3002, .inl f6)), (qf5, .inl (cf5, 3002, .inl f5)), (qf2, .inl (cf2, 3000, .inl f2))]) [0, 1, 2, 3] (by decide) rfl
          have hK9 := hK.sub (tys' := [(cf6, .int), (cf5, .int), (cf2, .int)]) [0, 1, 2] rfl
          exact W.zret hx hb hr (by decide) (fun t ht hW => ⟨⟨(1), (z24), rfl, ⟨⟨rfl, Or.inr rfl⟩, hlh_24, hrh_24⟩, by rw [ht]; exact hP9, va_K.moved hW.alike hK9, hD9⟩, hS.F ht⟩) hS.2.2 dX13_isLike_83
      · rw [if_neg c_5] at hsp
        refine lv_iload_n hx hb dX13_isLike_35 rfl (lv_at hl 1 rfl) ?_
        refine lv_if_eq (tgt := 82) hx hb dX13_isLike_36 (by decide) (fun c_6 => ?_) (fun c_6 => ?_)
        · rw [if_pos c_6] at hsp
          refine lv_iload_n hx hb dX13_isLike_82 rfl (lv_at hl 1 rfl) ?_
          rcases ox_01 hsp with ⟨rfl, hsp⟩ | ⟨rfl, hsp⟩
          · skip
            have hr0 := Option.some.inj hsp
            clear hsp
            subst hr0
            have hP9 := hP.sub (ws' := [(h0, .inr (13, z24)), (qf6, .inl (cf6, 3002, .inl f6)), (qf5, .inl (cf5, 3002, .inl f5)), (qf2, .inl (cf2, 3000, .inl f2))]) [0, 1, 2, 3] rfl
            have hD9 := hD.sub (ws' := [(h0, .inr (13, z24)), (qf6, .inl (cf6, 3002, .inl f6)), (qf5, .inl (cf5, 3002, .inl f5)), (qf2, .inl (cf2, 3000, .inl f2))]) [0, 1, 2, 3] (by decide) rfl
            have hK9 := hK.sub (tys' := [(cf6, .int), (cf5, .int), (cf2, .int)]) [0, 1, 2] rfl
            exact W.zret hx hb hr (by decide) (fun t ht hW => ⟨⟨(0), (z24), rfl, ⟨⟨rfl, Or.inl rfl⟩, hlh_24, hrh_24⟩, by rw [ht]; exact hP9, va_K.moved hW.alike hK9, hD9⟩, hS.F ht⟩) hS.2.2 dX13_isLike_83
          · skip
            have hr0 := Option.some.inj hsp
            clear hsp
            subst hr0
            have hP9 := hP.sub (ws' := [(h0, .inr (13, z24)), (qf6, .inl (cf6, 3002, .inl f6)), (qf5, .inl (cf5, 3002, .inl f5)), (qf2, .inl (cf2, 3000, .inl f2))]) [0, 1, 2, 3] rfl
            have hD9 := hD.sub (ws' := [(h0, .inr (13, z24)), (qf6, .inl (cf6, 3002, .inl f6)), (qf5, .inl (cf5, 3002, .inl f5)), (qf2, .inl (cf2, 3000, .inl f2))]) [0, 1, 2, 3] (by decide) rfl
            have hK9 := hK.sub (tys' := [(cf6, .int), (cf5, .int), (cf2, .int)]) [0, 1, 2] rfl
            exact W.zret hx hb hr (by decide) (fun t ht hW => ⟨⟨(1), (z24), rfl, ⟨⟨rfl, Or.inr rfl⟩, hlh_24, hrh_24⟩, by rw [ht]; exact hP9, va_K.moved hW.alike hK9, hD9⟩, hS.F ht⟩) hS.2.2 dX13_isLike_83
        · rw [if_neg c_6] at hsp
          refine lv_aload_n hx hb dX13_isLike_39 rfl (lv_at hl 2 rfl) ?_
          refine va_get (D := (dC, dI)) (ci := 13) (v := .ref qf2) (C := RX13) (T := TX13) (N := 155) hx hb hts uV_h6_X13 hown hK hP 0 rfl rfl 2 (by decide) (hts (.fieldLink RX13 13 "ClassMillModel" "text" "[I") mw_h6_18) (fun _ h9 => h9) hfh_24_2 dX13_isLike_40 ?_
          refine lv_aload_n hx hb dX13_isLike_43 rfl (lv_at hl 2 rfl) ?_
          refine va_get (D := (dC, dI)) (ci := 13) (v := .ref qf5) (C := RX13) (T := TX13) (N := 155) hx hb hts uV_h6_X13 hown hK hP 0 rfl rfl 5 (by decide) (hts (.fieldLink RX13 19 "ClassMillModel" "from" "[I") mw_h6_19) (fun _ h9 => h9) hfh_24_5 dX13_isLike_44 ?_
          refine lv_iload_n hx hb dX13_isLike_47 rfl (lv_at hl 3 rfl) ?_
          obtain ⟨hi_7, hsp⟩ := ox_in hsp
          refine va_iald hx hb hK hP 2 1 rfl rfl (i := l1_24) hi_7 dX13_isLike_48 ?_
          refine lv_iload hx hb dX13_isLike_49 (lv_at hl 0 rfl) ?_
          refine lv_iadd hx hb dX13_isLike_51 ?_
          obtain ⟨hi_8, hsp⟩ := ox_in hsp
          refine va_iald hx hb hK hP 3 2 rfl rfl (i := ((f5 (l1_24 : Int32).toNatClampNeg) + l4_24)) hi_8 dX13_isLike_52 ?_
          refine lv_aload_n hx hb dX13_isLike_53 rfl (lv_at hl 2 rfl) ?_
          refine va_get (D := (dC, dI)) (ci := 13) (v := .ref qf2) (C := RX13) (T := TX13) (N := 155) hx hb hts uV_h6_X13 hown hK hP 0 rfl rfl 2 (by decide) (hts (.fieldLink RX13 13 "ClassMillModel" "text" "[I") mw_h6_18) (fun _ h9 => h9) hfh_24_2 dX13_isLike_54 ?_
          refine lv_aload_n hx hb dX13_isLike_57 rfl (lv_at hl 2 rfl) ?_
          refine va_get (D := (dC, dI)) (ci := 13) (v := .ref qf5) (C := RX13) (T := TX13) (N := 155) hx hb hts uV_h6_X13 hown hK hP 0 rfl rfl 5 (by decide) (hts (.fieldLink RX13 19 "ClassMillModel" "from" "[I") mw_h6_19) (fun _ h9 => h9) hfh_24_5 dX13_isLike_58 ?_
          refine lv_iload_n hx hb dX13_isLike_61 rfl (lv_at hl 4 rfl) ?_
          obtain ⟨hi_9, hsp⟩ := ox_in hsp
          refine va_iald hx hb hK hP 2 1 rfl rfl (i := l2_24) hi_9 dX13_isLike_62 ?_
          refine lv_iload hx hb dX13_isLike_63 (lv_at hl 0 rfl) ?_
          refine lv_iadd hx hb dX13_isLike_65 ?_
          obtain ⟨hi_10, hsp⟩ := ox_in hsp
          refine va_iald hx hb hK hP 3 2 rfl rfl (i := ((f5 (l2_24 : Int32).toNatClampNeg) + l4_24)) hi_10 dX13_isLike_66 ?_
          refine lv_icmp_ne (tgt := 74) hx hb dX13_isLike_67 (by decide) (fun c_11 => ?_) (fun c_11 => ?_)
          · rw [if_neg c_11] at hsp
            refine lv_iconst (v := 0) hx hb dX13_isLike_74 (by decide) ?_
            refine lv_istore_n (lv' := [(3, .int 0), (4, .int l4_24), (0, .ref h0), (1, .int l1_24), (2, .int l2_24)]) hx hb dX13_isLike_75 rfl hl (by decide) rfl (fun ls hl => ?_)
            refine lv_iinc (v := (l4_24 + 1)) (lv' := [(4, .int (l4_24 + 1)), (3, .int 0), (0, .ref h0), (1, .int l1_24), (2, .int l2_24)]) hx hb dX13_isLike_76 hl (k := 1) rfl rfl (by decide) rfl (fun ls hl => ?_)
            refine lv_goto (tgt := 24) hx hb dX13_isLike_79 (by decide) ?_
            exact ih_24 H locs ls z24 l1_24 l2_24 0 (l4_24 + 1) (hfh_24_2) (hfh_24_5) (hfh_24_6) hlh_24 hrh_24 (lv_sub hl [0, 1, 2, 3, 4] rfl) hS (hD.sub (ws' := [(h0, .inr (13, z24)), (qf6, .inl (cf6, 3002, .inl f6)), (qf5, .inl (cf5, 3002, .inl f5)), (qf2, .inl (cf2, 3000, .inl f2))]) [0, 1, 2, 3] (by decide) rfl) (hP.sub (ws' := [(h0, .inr (13, z24)), (qf6, .inl (cf6, 3002, .inl f6)), (qf5, .inl (cf5, 3002, .inl f5)), (qf2, .inl (cf2, 3000, .inl f2))]) [0, 1, 2, 3] rfl) hsp
          · rw [if_pos c_11] at hsp
            refine lv_iconst (v := 1) hx hb dX13_isLike_70 (by decide) ?_
            refine lv_goto (tgt := 75) hx hb dX13_isLike_71 (by decide) ?_
            refine lv_istore_n (lv' := [(3, .int 1), (4, .int l4_24), (0, .ref h0), (1, .int l1_24), (2, .int l2_24)]) hx hb dX13_isLike_75 rfl hl (by decide) rfl (fun ls hl => ?_)
            refine lv_iinc (v := (l4_24 + 1)) (lv' := [(4, .int (l4_24 + 1)), (3, .int 1), (0, .ref h0), (1, .int l1_24), (2, .int l2_24)]) hx hb dX13_isLike_76 hl (k := 1) rfl rfl (by decide) rfl (fun ls hl => ?_)
            refine lv_goto (tgt := 24) hx hb dX13_isLike_79 (by decide) ?_
            exact ih_24 H locs ls z24 l1_24 l2_24 1 (l4_24 + 1) (hfh_24_2) (hfh_24_5) (hfh_24_6) hlh_24 hrh_24 (lv_sub hl [0, 1, 2, 3, 4] rfl) hS (hD.sub (ws' := [(h0, .inr (13, z24)), (qf6, .inl (cf6, 3002, .inl f6)), (qf5, .inl (cf5, 3002, .inl f5)), (qf2, .inl (cf2, 3000, .inl f2))]) [0, 1, 2, 3] (by decide) rfl) (hP.sub (ws' := [(h0, .inr (13, z24)), (qf6, .inl (cf6, 3002, .inl f6)), (qf5, .inl (cf5, 3002, .inl f5)), (qf2, .inl (cf2, 3000, .inl f2))]) [0, 1, 2, 3] rfl) hsp
  · rw [if_pos c_3] at hsp
    refine lv_iconst (v := 1) hx hb dX13_isLike_15 (by decide) ?_
    refine lv_goto (tgt := 20) hx hb dX13_isLike_16 (by decide) ?_
    refine lv_istore_n (lv' := [(3, .int 1), (0, .ref h0), (1, .int a1), (2, .int a2)]) hx hb dX13_isLike_20 rfl hl (by decide) rfl (fun ls hl => ?_)
    refine lv_iconst (v := 0) hx hb dX13_isLike_21 (by decide) ?_
    refine lv_istore (lv' := [(4, .int 0), (3, .int 1), (0, .ref h0), (1, .int a1), (2, .int a2)]) hx hb dX13_isLike_22 hl (by decide) rfl (fun ls hl => ?_)
    replace hP := hP.sub (ws' := [(h0, .inr (13, zs)), (qf6, .inl (cf6, 3002, .inl f6)), (qf5, .inl (cf5, 3002, .inl f5)), (qf2, .inl (cf2, 3000, .inl f2))]) [0, 1, 2, 3] rfl
    replace hD := hD.sub (ws' := [(h0, .inr (13, zs)), (qf6, .inl (cf6, 3002, .inl f6)), (qf5, .inl (cf5, 3002, .inl f5)), (qf2, .inl (cf2, 3000, .inl f2))]) [0, 1, 2, 3] (by decide) rfl
    replace hK := hK.sub (tys' := [(cf6, .int), (cf5, .int), (cf2, .int)]) [0, 1, 2] rfl
    obtain ⟨n_24, hn_24⟩ : ∃ z : Nat, z = nf := ⟨_, rfl⟩
    obtain ⟨z24, ez24⟩ : ∃ z : List Value, z = zs := ⟨_, rfl⟩
    obtain ⟨l1_24, el1_24⟩ : ∃ z : Int32, z = a1 := ⟨_, rfl⟩
    obtain ⟨l2_24, el2_24⟩ : ∃ z : Int32, z = a2 := ⟨_, rfl⟩
    obtain ⟨l3_24, el3_24⟩ : ∃ z : Int32, z = 1 := ⟨_, rfl⟩
    obtain ⟨l4_24, el4_24⟩ : ∃ z : Int32, z = 0 := ⟨_, rfl⟩
    replace hsp : lp_tn_isLike_24 nf n_24 a1 a2 f6 f5 f2 l1_24 l2_24 l3_24 l4_24 = some r0 := by rw [hn_24, el1_24, el2_24, el3_24, el4_24]; exact hsp
    replace hl : lv_has ls 5 [(4, .int l4_24), (3, .int l3_24), (0, .ref h0), (1, .int l1_24), (2, .int l2_24)] := by rw [el1_24, el2_24, el3_24, el4_24]; exact hl
    have hfh_24_2 : z24[2]? = some (.ref qf2) := by rw [ez24]; exact hf2
    have hfh_24_5 : z24[5]? = some (.ref qf5) := by rw [ez24]; exact hf5
    have hfh_24_6 : z24[6]? = some (.ref qf6) := by rw [ez24]; exact hf6
    have hlh_24 : z24.length = 155 := by rw [ez24]; exact hlen
    have hrh_24 : ∀ j : Nat, z24[j]? = zs[j]? := by rw [ez24]; exact hrs0
    replace hP : va_P (dC, dI) vwCl [(h0, .inr (13, z24)), (qf6, .inl (cf6, 3002, .inl f6)), (qf5, .inl (cf5, 3002, .inl f5)), (qf2, .inl (cf2, 3000, .inl f2))] H := by rw [ez24]; exact hP
    replace hD : va_D A [(h0, .inr (13, z24)), (qf6, .inl (cf6, 3002, .inl f6)), (qf5, .inl (cf5, 3002, .inl f5)), (qf2, .inl (cf2, 3000, .inl f2))] := by rw [ez24]; exact hD
    clear hn_24 ez24 el1_24 el2_24 el3_24 el4_24
    try clear hlo
    try clear hH
    revert hsp
    revert hP
    revert hD
    revert hS
    revert hl
    revert hrh_24
    revert hlh_24
    revert hfh_24_6
    revert hfh_24_5
    revert hfh_24_2
    revert l4_24
    revert l3_24
    revert l2_24
    revert l1_24
    revert z24
    revert ls
    revert locs
    revert H
    induction n_24 with
    | zero => intro H locs ls z24 l1_24 l2_24 l3_24 l4_24 hfh_24_2 hfh_24_5 hfh_24_6 hlh_24 hrh_24 hl hS hD hP hsp; unfold lp_tn_isLike_24 at hsp; cases hsp
    | succ n_24 ih_24 =>
      intro H locs ls z24 l1_24 l2_24 l3_24 l4_24 hfh_24_2 hfh_24_5 hfh_24_6 hlh_24 hrh_24 hl hS hD hP hsp
      unfold lp_tn_isLike_24 at hsp
      try dsimp only at hsp
      refine lv_iload hx hb dX13_isLike_24 (lv_at hl 0 rfl) ?_
      refine lv_aload_n hx hb dX13_isLike_26 rfl (lv_at hl 2 rfl) ?_
      refine va_get (D := (dC, dI)) (ci := 13) (v := .ref qf6) (C := RX13) (T := TX13) (N := 155) hx hb hts uV_h6_X13 hown hK hP 0 rfl rfl 6 (by decide) (hts (.fieldLink RX13 22 "ClassMillModel" "wide" "[I") mw_h6_17) (fun _ h9 => h9) hfh_24_6 dX13_isLike_27 ?_
      refine lv_iload_n hx hb dX13_isLike_30 rfl (lv_at hl 3 rfl) ?_
      obtain ⟨hi_12, hsp⟩ := ox_in hsp
      refine va_iald hx hb hK hP 1 0 rfl rfl (i := l1_24) hi_12 dX13_isLike_31 ?_
      refine lv_icmp_ge (tgt := 82) hx hb dX13_isLike_32 (by decide) (fun c_13 => ?_) (fun c_13 => ?_)
      · rw [if_pos c_13] at hsp
        refine lv_iload_n hx hb dX13_isLike_82 rfl (lv_at hl 1 rfl) ?_
        rcases ox_01 hsp with ⟨rfl, hsp⟩ | ⟨rfl, hsp⟩
        · skip
          have hr0 := Option.some.inj hsp
          clear hsp
          subst hr0
          have hP9 := hP.sub (ws' := [(h0, .inr (13, z24)), (qf6, .inl (cf6, 3002, .inl f6)), (qf5, .inl (cf5, 3002, .inl f5)), (qf2, .inl (cf2, 3000, .inl f2))]) [0, 1, 2, 3] rfl
          have hD9 := hD.sub (ws' := [(h0, .inr (13, z24)), (qf6, .inl (cf6, 3002, .inl f6)), (qf5, .inl (cf5, 3002, .inl f5)), (qf2, .inl (cf2, 3000, .inl f2))]) [0, 1, 2, 3] (by decide) rfl
          have hK9 := hK.sub (tys' := [(cf6, .int), (cf5, .int), (cf2, .int)]) [0, 1, 2] rfl
          exact W.zret hx hb hr (by decide) (fun t ht hW => ⟨⟨(0), (z24), rfl, ⟨⟨rfl, Or.inl rfl⟩, hlh_24, hrh_24⟩, by rw [ht]; exact hP9, va_K.moved hW.alike hK9, hD9⟩, hS.F ht⟩) hS.2.2 dX13_isLike_83
        · skip
          have hr0 := Option.some.inj hsp
          clear hsp
          subst hr0
          have hP9 := hP.sub (ws' := [(h0, .inr (13, z24)), (qf6, .inl (cf6, 3002, .inl f6)), (qf5, .inl (cf5, 3002, .inl f5)), (qf2, .inl (cf2, 3000, .inl f2))]) [0, 1, 2, 3] rfl
          have hD9 := hD.sub (ws' := [(h0, .inr (13, z24)), (qf6, .inl (cf6, 3002, .inl f6)), (qf5, .inl (cf5, 3002, .inl f5)), (qf2, .inl (cf2, 3000, .inl f2))]) [0, 1, 2, 3] (by decide) rfl
          have hK9 := hK.sub (tys' := [(cf6, .int), (cf5, .int), (cf2, .int)]) [0, 1, 2] rfl
          exact W.zret hx hb hr (by decide) (fun t ht hW => ⟨⟨(1), (z24), rfl, ⟨⟨rfl, Or.inr rfl⟩, hlh_24, hrh_24⟩, by rw [ht]; exact hP9, va_K.moved hW.alike hK9, hD9⟩, hS.F ht⟩) hS.2.2 dX13_isLike_83
      · rw [if_neg c_13] at hsp
        refine lv_iload_n hx hb dX13_isLike_35 rfl (lv_at hl 1 rfl) ?_
        refine lv_if_eq (tgt := 82) hx hb dX13_isLike_36 (by decide) (fun c_14 => ?_) (fun c_14 => ?_)
        · rw [if_pos c_14] at hsp
          refine lv_iload_n hx hb dX13_isLike_82 rfl (lv_at hl 1 rfl) ?_
          rcases ox_01 hsp with ⟨rfl, hsp⟩ | ⟨rfl, hsp⟩
          · skip
            have hr0 := Option.some.inj hsp
            clear hsp
            subst hr0
            have hP9 := hP.sub (ws' := [(h0, .inr (13, z24)), (qf6, .inl (cf6, 3002, .inl f6)), (qf5, .inl (cf5, 3002, .inl f5)), (qf2, .inl (cf2, 3000, .inl f2))]) [0, 1, 2, 3] rfl
            have hD9 := hD.sub (ws' := [(h0, .inr (13, z24)), (qf6, .inl (cf6, 3002, .inl f6)), (qf5, .inl (cf5, 3002, .inl f5)), (qf2, .inl (cf2, 3000, .inl f2))]) [0, 1, 2, 3] (by decide) rfl
            have hK9 := hK.sub (tys' := [(cf6, .int), (cf5, .int), (cf2, .int)]) [0, 1, 2] rfl
            exact W.zret hx hb hr (by decide) (fun t ht hW => ⟨⟨(0), (z24), rfl, ⟨⟨rfl, Or.inl rfl⟩, hlh_24, hrh_24⟩, by rw [ht]; exact hP9, va_K.moved hW.alike hK9, hD9⟩, hS.F ht⟩) hS.2.2 dX13_isLike_83
          · skip
            have hr0 := Option.some.inj hsp
            clear hsp
            subst hr0
            have hP9 := hP.sub (ws' := [(h0, .inr (13, z24)), (qf6, .inl (cf6, 3002, .inl f6)), (qf5, .inl (cf5, 3002, .inl f5)), (qf2, .inl (cf2, 3000, .inl f2))]) [0, 1, 2, 3] rfl
            have hD9 := hD.sub (ws' := [(h0, .inr (13, z24)), (qf6, .inl (cf6, 3002, .inl f6)), (qf5, .inl (cf5, 3002, .inl f5)), (qf2, .inl (cf2, 3000, .inl f2))]) [0, 1, 2, 3] (by decide) rfl
            have hK9 := hK.sub (tys' := [(cf6, .int), (cf5, .int), (cf2, .int)]) [0, 1, 2] rfl
            exact W.zret hx hb hr (by decide) (fun t ht hW => ⟨⟨(1), (z24), rfl, ⟨⟨rfl, Or.inr rfl⟩, hlh_24, hrh_24⟩, by rw [ht]; exact hP9, va_K.moved hW.alike hK9, hD9⟩, hS.F ht⟩) hS.2.2 dX13_isLike_83
        · rw [if_neg c_14] at hsp
          refine lv_aload_n hx hb dX13_isLike_39 rfl (lv_at hl 2 rfl) ?_
          refine va_get (D := (dC, dI)) (ci := 13) (v := .ref qf2) (C := RX13) (T := TX13) (N := 155) hx hb hts uV_h6_X13 hown hK hP 0 rfl rfl 2 (by decide) (hts (.fieldLink RX13 13 "ClassMillModel" "text" "[I") mw_h6_18) (fun _ h9 => h9) hfh_24_2 dX13_isLike_40 ?_
          refine lv_aload_n hx hb dX13_isLike_43 rfl (lv_at hl 2 rfl) ?_
          refine va_get (D := (dC, dI)) (ci := 13) (v := .ref qf5) (C := RX13) (T := TX13) (N := 155) hx hb hts uV_h6_X13 hown hK hP 0 rfl rfl 5 (by decide) (hts (.fieldLink RX13 19 "ClassMillModel" "from" "[I") mw_h6_19) (fun _ h9 => h9) hfh_24_5 dX13_isLike_44 ?_
          refine lv_iload_n hx hb dX13_isLike_47 rfl (lv_at hl 3 rfl) ?_
          obtain ⟨hi_15, hsp⟩ := ox_in hsp
          refine va_iald hx hb hK hP 2 1 rfl rfl (i := l1_24) hi_15 dX13_isLike_48 ?_
          refine lv_iload hx hb dX13_isLike_49 (lv_at hl 0 rfl) ?_
          refine lv_iadd hx hb dX13_isLike_51 ?_
          obtain ⟨hi_16, hsp⟩ := ox_in hsp
          refine va_iald hx hb hK hP 3 2 rfl rfl (i := ((f5 (l1_24 : Int32).toNatClampNeg) + l4_24)) hi_16 dX13_isLike_52 ?_
          refine lv_aload_n hx hb dX13_isLike_53 rfl (lv_at hl 2 rfl) ?_
          refine va_get (D := (dC, dI)) (ci := 13) (v := .ref qf2) (C := RX13) (T := TX13) (N := 155) hx hb hts uV_h6_X13 hown hK hP 0 rfl rfl 2 (by decide) (hts (.fieldLink RX13 13 "ClassMillModel" "text" "[I") mw_h6_18) (fun _ h9 => h9) hfh_24_2 dX13_isLike_54 ?_
          refine lv_aload_n hx hb dX13_isLike_57 rfl (lv_at hl 2 rfl) ?_
          refine va_get (D := (dC, dI)) (ci := 13) (v := .ref qf5) (C := RX13) (T := TX13) (N := 155) hx hb hts uV_h6_X13 hown hK hP 0 rfl rfl 5 (by decide) (hts (.fieldLink RX13 19 "ClassMillModel" "from" "[I") mw_h6_19) (fun _ h9 => h9) hfh_24_5 dX13_isLike_58 ?_
          refine lv_iload_n hx hb dX13_isLike_61 rfl (lv_at hl 4 rfl) ?_
          obtain ⟨hi_17, hsp⟩ := ox_in hsp
          refine va_iald hx hb hK hP 2 1 rfl rfl (i := l2_24) hi_17 dX13_isLike_62 ?_
          refine lv_iload hx hb dX13_isLike_63 (lv_at hl 0 rfl) ?_
          refine lv_iadd hx hb dX13_isLike_65 ?_
          obtain ⟨hi_18, hsp⟩ := ox_in hsp
          refine va_iald hx hb hK hP 3 2 rfl rfl (i := ((f5 (l2_24 : Int32).toNatClampNeg) + l4_24)) hi_18 dX13_isLike_66 ?_
          refine lv_icmp_ne (tgt := 74) hx hb dX13_isLike_67 (by decide) (fun c_19 => ?_) (fun c_19 => ?_)
          · rw [if_neg c_19] at hsp
            refine lv_iconst (v := 0) hx hb dX13_isLike_74 (by decide) ?_
            refine lv_istore_n (lv' := [(3, .int 0), (4, .int l4_24), (0, .ref h0), (1, .int l1_24), (2, .int l2_24)]) hx hb dX13_isLike_75 rfl hl (by decide) rfl (fun ls hl => ?_)
            refine lv_iinc (v := (l4_24 + 1)) (lv' := [(4, .int (l4_24 + 1)), (3, .int 0), (0, .ref h0), (1, .int l1_24), (2, .int l2_24)]) hx hb dX13_isLike_76 hl (k := 1) rfl rfl (by decide) rfl (fun ls hl => ?_)
            refine lv_goto (tgt := 24) hx hb dX13_isLike_79 (by decide) ?_
            exact ih_24 H locs ls z24 l1_24 l2_24 0 (l4_24 + 1) (hfh_24_2) (hfh_24_5) (hfh_24_6) hlh_24 hrh_24 (lv_sub hl [0, 1, 2, 3, 4] rfl) hS (hD.sub (ws' := [(h0, .inr (13, z24)), (qf6, .inl (cf6, 3002, .inl f6)), (qf5, .inl (cf5, 3002, .inl f5)), (qf2, .inl (cf2, 3000, .inl f2))]) [0, 1, 2, 3] (by decide) rfl) (hP.sub (ws' := [(h0, .inr (13, z24)), (qf6, .inl (cf6, 3002, .inl f6)), (qf5, .inl (cf5, 3002, .inl f5)), (qf2, .inl (cf2, 3000, .inl f2))]) [0, 1, 2, 3] rfl) hsp
          · rw [if_pos c_19] at hsp
            refine lv_iconst (v := 1) hx hb dX13_isLike_70 (by decide) ?_
            refine lv_goto (tgt := 75) hx hb dX13_isLike_71 (by decide) ?_
            refine lv_istore_n (lv' := [(3, .int 1), (4, .int l4_24), (0, .ref h0), (1, .int l1_24), (2, .int l2_24)]) hx hb dX13_isLike_75 rfl hl (by decide) rfl (fun ls hl => ?_)
            refine lv_iinc (v := (l4_24 + 1)) (lv' := [(4, .int (l4_24 + 1)), (3, .int 1), (0, .ref h0), (1, .int l1_24), (2, .int l2_24)]) hx hb dX13_isLike_76 hl (k := 1) rfl rfl (by decide) rfl (fun ls hl => ?_)
            refine lv_goto (tgt := 24) hx hb dX13_isLike_79 (by decide) ?_
            exact ih_24 H locs ls z24 l1_24 l2_24 1 (l4_24 + 1) (hfh_24_2) (hfh_24_5) (hfh_24_6) hlh_24 hrh_24 (lv_sub hl [0, 1, 2, 3, 4] rfl) hS (hD.sub (ws' := [(h0, .inr (13, z24)), (qf6, .inl (cf6, 3002, .inl f6)), (qf5, .inl (cf5, 3002, .inl f5)), (qf2, .inl (cf2, 3000, .inl f2))]) [0, 1, 2, 3] (by decide) rfl) (hP.sub (ws' := [(h0, .inr (13, z24)), (qf6, .inl (cf6, 3002, .inl f6)), (qf5, .inl (cf5, 3002, .inl f5)), (qf2, .inl (cf2, 3000, .inl f2))]) [0, 1, 2, 3] rfl) hsp
def lp_tn_extendsIt_2 (nf n : Nat) (a1 : Int32) (a2 : Int32) (f27 : Nat → Int32)  (l1_2 : Int32) (l2_2 : Int32) (l3_2 : Int32) : Option (Int32) := match n with
  | 0 => none
  | n + 1 => (if l3_2 = (-1) then (if l3_2 = l2_2 then (some 1) else (some 0)) else (if l3_2 = l2_2 then (if l3_2 = l2_2 then (some 1) else (some 0)) else ((sp_tm_upperOf nf l3_2 f27).bind (fun p1 => (lp_tn_extendsIt_2 nf n a1 a2 f27 l1_2 l2_2 p1)))))
def sp_tn_extendsIt (nf : Nat) (a1 : Int32) (a2 : Int32) (f27 : Nat → Int32) : Option (Int32) := (lp_tn_extendsIt_2 nf nf a1 a2 f27 a1 a2 a1)
set_option maxHeartbeats 4000000 in
set_option maxRecDepth 100000 in
/-- ClassMillModel.extendsIt -/
theorem tn_extendsIt (l : Launch) (dC : Nat → ClassId) (dI : Nat → Nat → Nat) (sz : Nat) (h0 : Nat) (zs : (List Value)) (a1 : Int32) (a2 : Int32) (qf27 : Nat) (cf27 : ClassId) (f27 : (Nat → Int32)) (nf : Nat) (r0 : Int32) (hlen : zs.length = 155) (hf27 : zs[27]? = some (.ref qf27)) (hsp : sp_tn_extendsIt nf a1 a2 f27 = some r0) : Met l yX13_extendsIt (.code yX13_extendsIt cX13_extendsIt 4 (some .boolean) :: VS_h6) ({ frames := 1, cells := 0, slots := 0, locals := 21 }) (va_Pc [.ref h0, .int a1, .int a2] (fun U => U.heap.size = sz ∧ va_P (dC, dI) vwCl [(h0, .inr (13, zs)), (qf27, .inl (cf27, 400, .inl f27))] U.heap ∧ va_K (dC, dI) vwCl [(cf27, .int)] U ∧ va_D (fun _ => True) [(h0, .inr (13, zs)), (qf27, .inl (cf27, 400, .inl f27))])) (va_Qi (fun (r : Int32) (u : (List Value)) => match u with | (zo1) => (r0 = r ∧ (r0 = 0 ∨ r0 = 1)) ∧ zo1.length = 155 ∧ (∀ j : Nat, zo1[j]? = zs[j]?)) (fun (u : (List Value)) (t : State) => match u with | (zo1) => va_P (dC, dI) vwCl [(h0, .inr (13, zo1)), (qf27, .inl (cf27, 400, .inl f27))] t.heap ∧ va_K (dC, dI) vwCl [(cf27, .int)] t ∧ va_D (va_A [(h0, .inr (13, zs)), (qf27, .inl (cf27, 400, .inl f27))] sz) [(h0, .inr (13, zo1)), (qf27, .inl (cf27, 400, .inl f27))]) (va_A [(h0, .inr (13, zs)), (qf27, .inl (cf27, 400, .inl f27))] sz)) 0 0 (va_A [(h0, .inr (13, zs)), (qf27, .inl (cf27, 400, .inl f27))] sz) := by
  refine Met.ofW (cc := cX13_extendsIt) (maxL := 4) (ret := (some .boolean)) (by decide) rfl ?_
  intro p e s m args below meth c s₁ B hml hv
  obtain ⟨rfl, hsz, hP, hK, hD0⟩ := hv
  have hx := B.exec
  have hb := B.bytes
  have hr := B.returns
  have hts := atoms_spec (ws := (.code yX13_extendsIt cX13_extendsIt 4 (some .boolean) :: VS_h6)) B.pre
  replace hts := fun w (h : w ∈ VS_h6) => hts w (List.mem_cons_of_mem _ h)
  have hown : s.vm.findClass RX13 = some m.cls := findClass_of_methodNamed B.named
  have hlocks := B.notSynchronized
  subst hsz
  have hD := hD0.self (sz := s.heap.size)
  generalize hAe : va_A [(h0, .inr (13, zs)), (qf27, .inl (cf27, 400, .inl f27))] s.heap.size = A at hD  ⊢
  have hA : ∀ q : Nat, s.heap.size ≤ q → A q := fun q h => by rw [← hAe]; exact Or.inr h
  have hP : va_P (dC, dI) vwCl [(h0, .inr (13, zs)), (qf27, .inl (cf27, 400, .inl f27))] s.heap := hP
  have hl := lv_entry ([.ref h0, .int a1, .int a2]) (n := 4) (Nat.le_of_ble_eq_true rfl)
  rw [lg_entry_eq]
  generalize (lg_sl ([.ref h0, .int a1, .int a2]) ++ List.replicate (4 - (lg_sl ([.ref h0, .int a1, .int a2])).length) Slot.unset).toArray = ls at hl ⊢
  have hl : lv_has ls 4 [(0, .ref h0), (1, .int a1), (2, .int a2)] := hl
  obtain ⟨H, hH⟩ : ∃ H : Heap, s.heap = H := ⟨_, rfl⟩
  rw [hH] at hP ⊢
  have hS : va_S A s.heap H [] := by rw [← hH]; exact va_S.rf
  obtain ⟨locs, hlo⟩ : ∃ locs : List Loc, locs = [] := ⟨_, rfl⟩
  rw [← hlo] at hS ⊢
  have hrs0 : ∀ j : Nat, zs[j]? = zs[j]? := fun _  => rfl
  unfold sp_tn_extendsIt at hsp
  refine lv_iload_n hx hb dX13_extendsIt_0 rfl (lv_at hl 1 rfl) ?_
  refine lv_istore_n (lv' := [(3, .int a1), (0, .ref h0), (1, .int a1), (2, .int a2)]) hx hb dX13_extendsIt_1 rfl hl (by decide) rfl (fun ls hl => ?_)
  replace hP := hP.sub (ws' := [(h0, .inr (13, zs)), (qf27, .inl (cf27, 400, .inl f27))]) [0, 1] rfl
  replace hD := hD.sub (ws' := [(h0, .inr (13, zs)), (qf27, .inl (cf27, 400, .inl f27))]) [0, 1] (by decide) rfl
  replace hK := hK.sub (tys' := [(cf27, .int)]) [0] rfl
  obtain ⟨n_2, hn_2⟩ : ∃ z : Nat, z = nf := ⟨_, rfl⟩
  obtain ⟨z2, ez2⟩ : ∃ z : List Value, z = zs := ⟨_, rfl⟩
  obtain ⟨l1_2, el1_2⟩ : ∃ z : Int32, z = a1 := ⟨_, rfl⟩
  obtain ⟨l2_2, el2_2⟩ : ∃ z : Int32, z = a2 := ⟨_, rfl⟩
  obtain ⟨l3_2, el3_2⟩ : ∃ z : Int32, z = a1 := ⟨_, rfl⟩
  replace hsp : lp_tn_extendsIt_2 nf n_2 a1 a2 f27 l1_2 l2_2 l3_2 = some r0 := by rw [hn_2, el1_2, el2_2, el3_2]; exact hsp
  replace hl : lv_has ls 4 [(3, .int l3_2), (0, .ref h0), (1, .int l1_2), (2, .int l2_2)] := by rw [el1_2, el2_2, el3_2]; exact hl
  have hfh_2_27 : z2[27]? = some (.ref qf27) := by rw [ez2]; exact hf27
  have hlh_2 : z2.length = 155 := by rw [ez2]; exact hlen
  have hrh_2 : ∀ j : Nat, z2[j]? = zs[j]? := by rw [ez2]; exact hrs0
  replace hP : va_P (dC, dI) vwCl [(h0, .inr (13, z2)), (qf27, .inl (cf27, 400, .inl f27))] H := by rw [ez2]; exact hP
  replace hD : va_D A [(h0, .inr (13, z2)), (qf27, .inl (cf27, 400, .inl f27))] := by rw [ez2]; exact hD
  clear hn_2 ez2 el1_2 el2_2 el3_2
  try clear hlo
  try clear hH
  revert hsp
  revert hP
  revert hD
  revert hS
  revert hl
  revert hrh_2
  revert hlh_2
  revert hfh_2_27
  revert l3_2
  revert l2_2
  revert l1_2
  revert z2
  revert ls
  revert locs
  revert H
  induction n_2 with
  | zero => intro H locs ls z2 l1_2 l2_2 l3_2 hfh_2_27 hlh_2 hrh_2 hl hS hD hP hsp; unfold lp_tn_extendsIt_2 at hsp; cases hsp
  | succ n_2 ih_2 =>
    intro H locs ls z2 l1_2 l2_2 l3_2 hfh_2_27 hlh_2 hrh_2 hl hS hD hP hsp
    unfold lp_tn_extendsIt_2 at hsp
    try dsimp only at hsp
    refine lv_iload_n hx hb dX13_extendsIt_2 rfl (lv_at hl 0 rfl) ?_
    refine lv_iconst (v := (-1)) hx hb dX13_extendsIt_3 (by decide) ?_
    refine lv_icmp_eq (tgt := 21) hx hb dX13_extendsIt_4 (by decide) (fun c_1 => ?_) (fun c_1 => ?_)
    · rw [if_pos c_1] at hsp
      refine lv_iload_n hx hb dX13_extendsIt_21 rfl (lv_at hl 0 rfl) ?_
      refine lv_iload_n hx hb dX13_extendsIt_22 rfl (lv_at hl 3 rfl) ?_
      refine lv_icmp_ne (tgt := 30) hx hb dX13_extendsIt_23 (by decide) (fun c_2 => ?_) (fun c_2 => ?_)
      · rw [if_neg c_2] at hsp
        refine lv_iconst (v := 0) hx hb dX13_extendsIt_30 (by decide) ?_
        have hr0 := Option.some.inj hsp
        clear hsp
        subst hr0
        have hP9 := hP.sub (ws' := [(h0, .inr (13, z2)), (qf27, .inl (cf27, 400, .inl f27))]) [0, 1] rfl
        have hD9 := hD.sub (ws' := [(h0, .inr (13, z2)), (qf27, .inl (cf27, 400, .inl f27))]) [0, 1] (by decide) rfl
        have hK9 := hK.sub (tys' := [(cf27, .int)]) [0] rfl
        exact W.zret hx hb hr (by decide) (fun t ht hW => ⟨⟨(0), (z2), rfl, ⟨⟨rfl, Or.inl rfl⟩, hlh_2, hrh_2⟩, by rw [ht]; exact hP9, va_K.moved hW.alike hK9, hD9⟩, hS.F ht⟩) hS.2.2 dX13_extendsIt_31
      · rw [if_pos c_2] at hsp
        refine lv_iconst (v := 1) hx hb dX13_extendsIt_26 (by decide) ?_
        refine lv_goto (tgt := 31) hx hb dX13_extendsIt_27 (by decide) ?_
        have hr0 := Option.some.inj hsp
        clear hsp
        subst hr0
        have hP9 := hP.sub (ws' := [(h0, .inr (13, z2)), (qf27, .inl (cf27, 400, .inl f27))]) [0, 1] rfl
        have hD9 := hD.sub (ws' := [(h0, .inr (13, z2)), (qf27, .inl (cf27, 400, .inl f27))]) [0, 1] (by decide) rfl
        have hK9 := hK.sub (tys' := [(cf27, .int)]) [0] rfl
        exact W.zret hx hb hr (by decide) (fun t ht hW => ⟨⟨(1), (z2), rfl, ⟨⟨rfl, Or.inr rfl⟩, hlh_2, hrh_2⟩, by rw [ht]; exact hP9, va_K.moved hW.alike hK9, hD9⟩, hS.F ht⟩) hS.2.2 dX13_extendsIt_31
    · rw [if_neg c_1] at hsp
      refine lv_iload_n hx hb dX13_extendsIt_7 rfl (lv_at hl 0 rfl) ?_
      refine lv_iload_n hx hb dX13_extendsIt_8 rfl (lv_at hl 3 rfl) ?_
      refine lv_icmp_eq (tgt := 21) hx hb dX13_extendsIt_9 (by decide) (fun c_3 => ?_) (fun c_3 => ?_)
      · rw [if_pos c_3] at hsp
        refine lv_iload_n hx hb dX13_extendsIt_21 rfl (lv_at hl 0 rfl) ?_
        refine lv_iload_n hx hb dX13_extendsIt_22 rfl (lv_at hl 3 rfl) ?_
        refine lv_icmp_ne (tgt := 30) hx hb dX13_extendsIt_23 (by decide) (fun c_4 => ?_) (fun c_4 => ?_)
        · rw [if_neg c_4] at hsp
          refine lv_iconst (v := 0) hx hb dX13_extendsIt_30 (by decide) ?_
          have hr0 := Option.some.inj hsp
          clear hsp
          subst hr0
          have hP9 := hP.sub (ws' := [(h0, .inr (13, z2)), (qf27, .inl (cf27, 400, .inl f27))]) [0, 1] rfl
          have hD9 := hD.sub (ws' := [(h0, .inr (13, z2)), (qf27, .inl (cf27, 400, .inl f27))]) [0, 1] (by decide) rfl
          have hK9 := hK.sub (tys' := [(cf27, .int)]) [0] rfl
          exact W.zret hx hb hr (by decide) (fun t ht hW => ⟨⟨(0), (z2), rfl, ⟨⟨rfl, Or.inl rfl⟩, hlh_2, hrh_2⟩, by rw [ht]; exact hP9, va_K.moved hW.alike hK9, hD9⟩, hS.F ht⟩) hS.2.2 dX13_extendsIt_31
        · rw [if_pos c_4] at hsp
          refine lv_iconst (v := 1) hx hb dX13_extendsIt_26 (by decide) ?_
          refine lv_goto (tgt := 31) hx hb dX13_extendsIt_27 (by decide) ?_
          have hr0 := Option.some.inj hsp
          clear hsp
          subst hr0
          have hP9 := hP.sub (ws' := [(h0, .inr (13, z2)), (qf27, .inl (cf27, 400, .inl f27))]) [0, 1] rfl
          have hD9 := hD.sub (ws' := [(h0, .inr (13, z2)), (qf27, .inl (cf27, 400, .inl f27))]) [0, 1] (by decide) rfl
          have hK9 := hK.sub (tys' := [(cf27, .int)]) [0] rfl
          exact W.zret hx hb hr (by decide) (fun t ht hW => ⟨⟨(1), (z2), rfl, ⟨⟨rfl, Or.inr rfl⟩, hlh_2, hrh_2⟩, by rw [ht]; exact hP9, va_K.moved hW.alike hK9, hD9⟩, hS.F ht⟩) hS.2.2 dX13_extendsIt_31
      · rw [if_neg c_3] at hsp
        refine lv_aload_n hx hb dX13_extendsIt_12 rfl (lv_at hl 1 rfl) ?_
        refine lv_iload_n hx hb dX13_extendsIt_13 rfl (lv_at hl 0 rfl) ?_
        obtain ⟨u1_0, hu_1, hsp⟩ := ox_bind hsp
        try dsimp only at hsp
        have hPc := hP.sub (ws' := [(h0, .inr (13, z2)), (qf27, .inl (cf27, 400, .inl f27))]) [0, 1] rfl
        have hDc := hD.sub (ws' := [(h0, .inr (13, z2)), (qf27, .inl (cf27, 400, .inl f27))]) [0, 1] (by decide) rfl
        have hKc := hK.sub (tys' := [(cf27, .int)]) [0] rfl
        have hFc := va_free (wc := [(h0, .inr (13, z2)), (qf27, .inl (cf27, 400, .inl f27))]) hD hS hA [0, 1] rfl
        refine va_calli (va_runV (As := [.int l3_2]) (rest := []) ⟨hx, hb, hml, hown, hts⟩ (tm_upperOf l dC dI H.size h0 z2 l3_2 qf27 cf27 f27 nf u1_0 hlh_2 hfh_2_27 hu_1) (cwV 1 hts gv_h6_3 rfl rfl rfl (by decide +kernel) ⟨Nat.le_of_ble_eq_true rfl, Nat.le_of_ble_eq_true rfl⟩) ⟨fun a U g mk q => by obtain ⟨q0, q1, qP, qK, qD⟩ := q; exact ⟨q0, q1, qP, va_K.moved (u := U) (U := U.calling g mk a) (Vm.Alike.refl U.vm) qK, qD⟩, va_recv hKc hPc (ci := 13) (q0 := 0) rfl rfl, fun U hU hW => ⟨rfl, by rw [hU], by rw [hU]; exact hPc, va_K.moved hW.alike hKc, hDc.weaken (fun _ _ _ _ => trivial)⟩⟩ rfl rfl hl.1 rfl (lv_room (Nat.le_of_ble_eq_true rfl)) dX13_extendsIt_14 ⟨Nat.le_of_ble_eq_true rfl, Nat.le_of_ble_eq_true rfl⟩) hS (fun q _ h => hFc q h) hFc ?_
        clear hS
        intro r_5 u t H1 locs ht hvm hw hB hz1 hk1 hS
        obtain ⟨z_1, rfl⟩ : ∃ z, z = u := ⟨_, rfl⟩
        obtain ⟨hP1, hK1, hD1⟩ := hB
        rw [ht] at hP1
        have hK1 := va_K.moved hvm.symm hK1
        try dsimp only at hw
        have hPD := va_join (wr := []) (w1 := [(h0, .inr (13, z_1)), (qf27, .inl (cf27, 400, .inl f27))]) hP hD [0, 1] [] rfl rfl (by decide) (by decide) hk1 hFc hP1 hD1
        clear hP hD
        obtain ⟨hP, hD⟩ := hPD
        replace hK := (hK.sub (tys' := []) [] rfl).app hK1
        clear hPc hDc hKc hFc hP1 hK1 hD1 hz1 hk1 ht hvm
        generalize H1 = H at hP hS ⊢
        replace hP : va_P (dC, dI) vwCl [(h0, .inr (13, z_1)), (qf27, .inl (cf27, 400, .inl f27))] H := hP
        replace hD : va_D A [(h0, .inr (13, z_1)), (qf27, .inl (cf27, 400, .inl f27))] := hD
        replace hK : va_K (dC, dI) vwCl [(cf27, .int)] s := hK
        obtain ⟨hwa_1, hln_1, hre_1⟩ := hw
        have hfk_1_27 : z_1[27]? = some (.ref qf27) := (hre_1 27 ).trans (hfh_2_27)
        have hrq_1 : ∀ j : Nat, z_1[j]? = zs[j]? := fun j  => (hre_1 j ).trans (hrh_2 j )
        obtain rfl := hwa_1
        refine lv_istore_n (lv' := [(3, .int u1_0), (0, .ref h0), (1, .int l1_2), (2, .int l2_2)]) hx hb dX13_extendsIt_17 rfl hl (by decide) rfl (fun ls hl => ?_)
        refine lv_goto (tgt := 2) hx hb dX13_extendsIt_18 (by decide) ?_
        exact ih_2 H locs ls z_1 l1_2 l2_2 u1_0 (hfk_1_27) hln_1 hrq_1 (lv_sub hl [0, 1, 2, 3] rfl) hS (hD.sub (ws' := [(h0, .inr (13, z_1)), (qf27, .inl (cf27, 400, .inl f27))]) [0, 1] (by decide) rfl) (hP.sub (ws' := [(h0, .inr (13, z_1)), (qf27, .inl (cf27, 400, .inl f27))]) [0, 1] rfl) hsp
def sp_tn_fits (nf : Nat) (a1 : Int32) (a2 : Int32) (f27 : Nat → Int32) : Option (Int32) := (if a1 = a2 then (some 1) else (if a1 = 2 then (if a2 = 4 then (some 1) else (if a2 < 8 then (some 0) else (some 1))) else ((sp_tm_isArray nf a1).bind (fun p1 => (if p1 = 0 then (if a1 < 8 then (some 0) else (if a2 < 8 then (some 0) else (if (a1 - a1 / 2 * 2) = (a2 - a2 / 2 * 2) then ((sp_tn_extendsIt nf ((a1 - 8) / 2) ((a2 - 8) / 2) f27).bind (fun p2 => (if p2 = 0 then (some 0) else (some 1)))) else (some 0)))) else (if a2 = 8 then (some 1) else (if a1 < 8 then (some 0) else (if a2 < 8 then (some 0) else (if (a1 - a1 / 2 * 2) = (a2 - a2 / 2 * 2) then ((sp_tn_extendsIt nf ((a1 - 8) / 2) ((a2 - 8) / 2) f27).bind (fun p3 => (if p3 = 0 then (some 0) else (some 1)))) else (some 0))))))))))

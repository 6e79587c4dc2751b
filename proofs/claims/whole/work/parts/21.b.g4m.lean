def lp_vm_among_72 (nf n : Nat) (a2 : Int32) (a3 : Int32) (f2 : Nat → Int32) (nSa1 : Nat) (fSa1 : Nat → Int32) (kk_6 : Int32 → Int32 → Int32 → Int32 → Option (Int32)) (l2_72 : Int32) (l3_72 : Int32) (l4_72 : Int32) (l5_72 : Int32) (l6_72 : Int32) (l7_72 : Int32) : Option (Int32) := match n with
  | 0 => none
  | n + 1 => (if l3_72 ≤ l7_72 then (if l6_72 = 0 then (kk_6 l2_72 l3_72 l4_72 (l5_72 + 1)) else (some l4_72)) else (if l6_72 = 0 then (if l6_72 = 0 then (kk_6 l2_72 l3_72 l4_72 (l5_72 + 1)) else (some l4_72)) else (if ((l5_72 + 1) + l7_72) < 0 then none else if nSa1 ≤ (((l5_72 + 1) + l7_72) : Int32).toNatClampNeg then none else if 2147483648 ≤ nSa1 then none else (if (l2_72 + l7_72) < 0 then none else if 3000 ≤ ((l2_72 + l7_72) : Int32).toNatClampNeg then none else (if (((fSa1 (((l5_72 + 1) + l7_72) : Int32).toNatClampNeg) &&& 255).toUInt32 % 65536).toInt32 = (f2 ((l2_72 + l7_72) : Int32).toNatClampNeg) then (lp_vm_among_72 nf n a2 a3 f2 nSa1 fSa1 kk_6 l2_72 l3_72 l4_72 l5_72 1 (l7_72 + 1)) else (lp_vm_among_72 nf n a2 a3 f2 nSa1 fSa1 kk_6 l2_72 l3_72 l4_72 l5_72 0 (l7_72 + 1)))))))
def jn_vm_among_67 (nf : Nat) (a2 : Int32) (a3 : Int32) (f2 : Nat → Int32) (nSa1 : Nat) (fSa1 : Nat → Int32) (kk_6 : Int32 → Int32 → Int32 → Int32 → Option (Int32)) (l2_67 : Int32) (l3_67 : Int32) (l4_67 : Int32) (l5_67 : Int32) (s0_67 : Int32) : Option (Int32) := (lp_vm_among_72 nf nf a2 a3 f2 nSa1 fSa1 kk_6 l2_67 l3_67 l4_67 l5_67 s0_67 0)
def jn_vm_among_66 (nf : Nat) (a2 : Int32) (a3 : Int32) (f2 : Nat → Int32) (nSa1 : Nat) (fSa1 : Nat → Int32) (kk_6 : Int32 → Int32 → Int32 → Int32 → Option (Int32)) (l2_66 : Int32) (l3_66 : Int32) (l4_66 : Int32) (l5_66 : Int32) : Option (Int32) := (jn_vm_among_67 nf a2 a3 f2 nSa1 fSa1 kk_6 l2_66 l3_66 l4_66 l5_66 0)
def lp_vm_among_6 (nf n : Nat) (a2 : Int32) (a3 : Int32) (f2 : Nat → Int32) (nSa1 : Nat) (fSa1 : Nat → Int32)  (l2_6 : Int32) (l3_6 : Int32) (l4_6 : Int32) (l5_6 : Int32) : Option (Int32) := match n with
  | 0 => none
  | n + 1 => (if (nI nSa1) ≤ (l5_6 + 1) then (some (-1)) else (if l5_6 < 0 then none else if nSa1 ≤ (l5_6 : Int32).toNatClampNeg then none else if 2147483648 ≤ nSa1 then none else (if (((fSa1 (l5_6 : Int32).toNatClampNeg) &&& 255).toUInt32 % 65536).toInt32 = 32 then (if (nI nSa1) ≤ ((l5_6 + l3_6) + 1) then (jn_vm_among_66 nf a2 a3 f2 nSa1 fSa1 (lp_vm_among_6 nf n a2 a3 f2 nSa1 fSa1) l2_6 l3_6 (l4_6 + 1) l5_6) else (if ((l5_6 + l3_6) + 1) < 0 then none else if nSa1 ≤ (((l5_6 + l3_6) + 1) : Int32).toNatClampNeg then none else if 2147483648 ≤ nSa1 then none else (if (((fSa1 (((l5_6 + l3_6) + 1) : Int32).toNatClampNeg) &&& 255).toUInt32 % 65536).toInt32 = 32 then (jn_vm_among_67 nf a2 a3 f2 nSa1 fSa1 (lp_vm_among_6 nf n a2 a3 f2 nSa1 fSa1) l2_6 l3_6 (l4_6 + 1) l5_6 1) else (jn_vm_among_66 nf a2 a3 f2 nSa1 fSa1 (lp_vm_among_6 nf n a2 a3 f2 nSa1 fSa1) l2_6 l3_6 (l4_6 + 1) l5_6)))) else (lp_vm_among_6 nf n a2 a3 f2 nSa1 fSa1 l2_6 l3_6 l4_6 (l5_6 + 1)))))
def sp_vm_among (nf : Nat) (a2 : Int32) (a3 : Int32) (f2 : Nat → Int32) (nSa1 : Nat) (fSa1 : Nat → Int32) : Option (Int32) := (lp_vm_among_6 nf nf a2 a3 f2 nSa1 fSa1  a2 a3 (-1) 0)
set_option maxHeartbeats 4000000 in
set_option maxRecDepth 100000 in
/-- ClassMillModel.among -/
theorem vm_among (l : Launch) (dC : Nat → ClassId) (dI : Nat → Nat → Nat) (sz : Nat) (h0 : Nat) (zs : (List Value)) (hSa1 : Nat) (a2 : Int32) (a3 : Int32) (qf2 : Nat) (cf2 : ClassId) (f2 : (Nat → Int32)) (nSa1 : Nat) (fSa1 : (Nat → Int32)) (qSa1 : Nat) (nf : Nat) (r0 : Int32) (hlen : zs.length = 155) (hf2 : zs[2]? = some (.ref qf2)) (hsp : sp_vm_among nf a2 a3 f2 nSa1 fSa1 = some r0) : Met l yX13_among (.code yX13_among cX13_among 8 (some .int) :: VS_h9) ({ frames := 4, cells := 0, slots := 0, locals := 85 }) (va_Pc [.ref h0, .ref hSa1, .int a2, .int a3] (fun U => U.heap.size = sz ∧ va_P (dC, dI) vwCl [(h0, .inr (13, zs)), (qf2, .inl (cf2, 3000, .inl f2))] U.heap ∧ va_K (dC, dI) vwCl [(cf2, .int)] U ∧ va_D (fun _ => True) [(h0, .inr (13, zs)), (qf2, .inl (cf2, 3000, .inl f2))] ∧ pz_W nSa1 fSa1 hSa1 qSa1 (va_A [(h0, .inr (13, zs)), (qf2, .inl (cf2, 3000, .inl f2))] sz) U U.heap)) (va_Qi (fun (r : Int32) (u : (List Value)) => match u with | (zo1) => r0 = r ∧ zo1.length = 155 ∧ (∀ j : Nat, zo1[j]? = zs[j]?)) (fun (u : (List Value)) (t : State) => match u with | (zo1) => va_P (dC, dI) vwCl [(h0, .inr (13, zo1)), (qf2, .inl (cf2, 3000, .inl f2))] t.heap ∧ va_K (dC, dI) vwCl [(cf2, .int)] t ∧ va_D (va_A [(h0, .inr (13, zs)), (qf2, .inl (cf2, 3000, .inl f2))] sz) [(h0, .inr (13, zo1)), (qf2, .inl (cf2, 3000, .inl f2))]) (va_A [(h0, .inr (13, zs)), (qf2, .inl (cf2, 3000, .inl f2))] sz)) 0 0 (va_A [(h0, .inr (13, zs)), (qf2, .inl (cf2, 3000, .inl f2))] sz) := by
  refine Met.ofW (cc := cX13_among) (maxL := 8) (ret := (some .int)) (by decide) rfl ?_
  intro p e s m args below meth c s₁ B hml hv
  obtain ⟨rfl, hsz, hP, hK, hD0, hZWSa1⟩ := hv
  have hx := B.exec
  have hb := B.bytes
  have hr := B.returns
  have hts := atoms_spec (ws := (.code yX13_among cX13_among 8 (some .int) :: VS_h9)) B.pre
  replace hts := fun w (h : w ∈ VS_h9) => hts w (List.mem_cons_of_mem _ h)
  have hown : s.vm.findClass RX13 = some m.cls := findClass_of_methodNamed B.named
  have hlocks := B.notSynchronized
  subst hsz
  have hD := hD0.self (sz := s.heap.size)
  generalize hAe : va_A [(h0, .inr (13, zs)), (qf2, .inl (cf2, 3000, .inl f2))] s.heap.size = A at hD hZWSa1 ⊢
  have hA : ∀ q : Nat, s.heap.size ≤ q → A q := fun q h => by rw [← hAe]; exact Or.inr h
  have hP : va_P (dC, dI) vwCl [(h0, .inr (13, zs)), (qf2, .inl (cf2, 3000, .inl f2))] s.heap := hP
  have hl := lv_entry ([.ref h0, .ref hSa1, .int a2, .int a3]) (n := 8) (Nat.le_of_ble_eq_true rfl)
  rw [lg_entry_eq]
  generalize (lg_sl ([.ref h0, .ref hSa1, .int a2, .int a3]) ++ List.replicate (8 - (lg_sl ([.ref h0, .ref hSa1, .int a2, .int a3])).length) Slot.unset).toArray = ls at hl ⊢
  have hl : lv_has ls 8 [(0, .ref h0), (1, .ref hSa1), (2, .int a2), (3, .int a3)] := hl
  obtain ⟨H, hH⟩ : ∃ H : Heap, s.heap = H := ⟨_, rfl⟩
  rw [hH] at hP ⊢
  have hS : va_S A s.heap H [] := by rw [← hH]; exact va_S.rf
  obtain ⟨locs, hlo⟩ : ∃ locs : List Loc, locs = [] := ⟨_, rfl⟩
  rw [← hlo] at hS ⊢
  have hrs0 : ∀ j : Nat, zs[j]? = zs[j]? := fun _  => rfl
  unfold sp_vm_among at hsp
  refine lv_iconst (v := (-1)) hx hb dX13_among_0 (by decide) ?_
  refine lv_istore (lv' := [(4, .int (-1)), (0, .ref h0), (1, .ref hSa1), (2, .int a2), (3, .int a3)]) hx hb dX13_among_1 hl (by decide) rfl (fun ls hl => ?_)
  refine lv_iconst (v := 0) hx hb dX13_among_3 (by decide) ?_
  refine lv_istore (lv' := [(5, .int 0), (4, .int (-1)), (0, .ref h0), (1, .ref hSa1), (2, .int a2), (3, .int a3)]) hx hb dX13_among_4 hl (by decide) rfl (fun ls hl => ?_)
  replace hl : lv_has ls 8 [(5, .int 0), (4, .int (-1)), (0, .ref h0), (1, .ref hSa1), (2, .int a2), (3, .int a3)] := lv_sub hl [0, 1, 2, 3, 4, 5] rfl
  replace hP := hP.sub (ws' := [(h0, .inr (13, zs)), (qf2, .inl (cf2, 3000, .inl f2))]) [0, 1] rfl
  replace hD := hD.sub (ws' := [(h0, .inr (13, zs)), (qf2, .inl (cf2, 3000, .inl f2))]) [0, 1] (by decide) rfl
  replace hK := hK.sub (tys' := [(cf2, .int)]) [0] rfl
  obtain ⟨n_6, hn_6⟩ : ∃ z : Nat, z = nf := ⟨_, rfl⟩
  obtain ⟨l2_6, el2_6⟩ : ∃ z : Int32, z = a2 := ⟨_, rfl⟩
  obtain ⟨l3_6, el3_6⟩ : ∃ z : Int32, z = a3 := ⟨_, rfl⟩
  obtain ⟨l4_6, el4_6⟩ : ∃ z : Int32, z = (-1) := ⟨_, rfl⟩
  obtain ⟨l5_6, el5_6⟩ : ∃ z : Int32, z = 0 := ⟨_, rfl⟩
  replace hsp : lp_vm_among_6 nf n_6 a2 a3 f2 nSa1 fSa1 l2_6 l3_6 l4_6 l5_6 = some r0 := by rw [hn_6, el2_6, el3_6, el4_6, el5_6]; exact hsp
  replace hl : lv_has ls 8 [(5, .int l5_6), (4, .int l4_6), (0, .ref h0), (1, .ref hSa1), (2, .int l2_6), (3, .int l3_6)] := by rw [el2_6, el3_6, el4_6, el5_6]; exact hl
  obtain ⟨z6, ez6⟩ : ∃ z : List Value, z = zs := ⟨_, rfl⟩
  have hfh_6_2 : z6[2]? = some (.ref qf2) := by rw [ez6]; exact hf2
  have hlh_6 : z6.length = 155 := by rw [ez6]; exact hlen
  have hrh_6 : ∀ j : Nat, z6[j]? = zs[j]? := by rw [ez6]; exact hrs0
  replace hP : va_P (dC, dI) vwCl [(h0, .inr (13, z6)), (qf2, .inl (cf2, 3000, .inl f2))] H := by rw [ez6]; exact hP
  replace hD : va_D A [(h0, .inr (13, z6)), (qf2, .inl (cf2, 3000, .inl f2))] := by rw [ez6]; exact hD
  clear hn_6 ez6 el2_6 el3_6 el4_6 el5_6
  try clear hlo
  try clear hH
  revert hsp
  revert hP
  revert hD
  revert hS
  revert hl
  revert hrh_6
  revert hlh_6
  revert hfh_6_2
  revert l5_6
  revert l4_6
  revert l3_6
  revert l2_6
  revert z6
  revert ls
  revert locs
  revert H
  induction n_6 with
  | zero => intro H locs ls z6 l2_6 l3_6 l4_6 l5_6 hfh_6_2 hlh_6 hrh_6 hl hS hD hP hsp; unfold lp_vm_among_6 at hsp; cases hsp
  | succ n_6 ih_6 =>
    intro H locs ls z6 l2_6 l3_6 l4_6 l5_6 hfh_6_2 hlh_6 hrh_6 hl hS hD hP hsp
    unfold lp_vm_among_6 at hsp
    try dsimp only at hsp
    refine jn_use (α := Heap × List Loc × Array Slot × List Value × Int32 × Int32 × Int32 × Int32 × Int32) (fun x9 => x9.1) (fun x9 => x9.2.1) (fun x9 => F0 m 67 x9.2.2.1 [.int (x9.2.2.2.2.2.2.2.2)]) (fun x9 => match x9 with | (H, locs, ls, z67, l2_67, l3_67, l4_67, l5_67, s0_67) => lv_has ls 8 [(0, .ref h0), (1, .ref hSa1), (2, .int l2_67), (3, .int l3_67), (4, .int l4_67), (5, .int l5_67)] ∧ va_S A s.heap H locs ∧ va_D A [(h0, .inr (13, z67)), (qf2, .inl (cf2, 3000, .inl f2))] ∧ va_P (dC, dI) vwCl [(h0, .inr (13, z67)), (qf2, .inl (cf2, 3000, .inl f2))] H ∧ z67[2]? = some (.ref qf2) ∧ z67.length = 155 ∧ (∀ j : Nat, z67[j]? = zs[j]?) ∧ jn_vm_among_67 nf a2 a3 f2 nSa1 fSa1 (lp_vm_among_6 nf n_6 a2 a3 f2 nSa1 fSa1) l2_67 l3_67 l4_67 l5_67 s0_67 = some r0) ?_ ?_
    · intro x9 hJ9
      obtain ⟨H, locs, ls, z67, l2_67, l3_67, l4_67, l5_67, s0_67⟩ := x9
      obtain ⟨hl, hS, hD, hP, hfh_67_2, hlh_67, hrh_67, hsp⟩ := hJ9
      replace hl : lv_has ls 8 [(0, .ref h0), (1, .ref hSa1), (2, .int l2_67), (3, .int l3_67), (4, .int l4_67), (5, .int l5_67)] := hl
      replace hS : va_S A s.heap H locs := hS
      replace hD : va_D A [(h0, .inr (13, z67)), (qf2, .inl (cf2, 3000, .inl f2))] := hD
      replace hP : va_P (dC, dI) vwCl [(h0, .inr (13, z67)), (qf2, .inl (cf2, 3000, .inl f2))] H := hP
      replace hsp : jn_vm_among_67 nf a2 a3 f2 nSa1 fSa1 (lp_vm_among_6 nf n_6 a2 a3 f2 nSa1 fSa1) l2_67 l3_67 l4_67 l5_67 s0_67 = some r0 := hsp
      show W _ _ _ _ _ _ _ _ _ _ H locs _ _ _ (F0 m 67 ls [.int s0_67])
      unfold jn_vm_among_67 at hsp
      try dsimp only at hsp
      refine lv_istore (lv' := [(6, .int s0_67), (0, .ref h0), (1, .ref hSa1), (2, .int l2_67), (3, .int l3_67), (4, .int l4_67), (5, .int l5_67)]) hx hb dX13_among_67 hl (by decide) rfl (fun ls hl => ?_)
      refine lv_iconst (v := 0) hx hb dX13_among_69 (by decide) ?_
      refine lv_istore (lv' := [(7, .int 0), (6, .int s0_67), (0, .ref h0), (1, .ref hSa1), (2, .int l2_67), (3, .int l3_67), (4, .int l4_67), (5, .int l5_67)]) hx hb dX13_among_70 hl (by decide) rfl (fun ls hl => ?_)
      replace hl : lv_has ls 8 [(7, .int 0), (6, .int s0_67), (0, .ref h0), (1, .ref hSa1), (2, .int l2_67), (3, .int l3_67), (4, .int l4_67), (5, .int l5_67)] := lv_sub hl [0, 1, 2, 3, 4, 5, 6, 7] rfl
      replace hP := hP.sub (ws' := [(h0, .inr (13, z67)), (qf2, .inl (cf2, 3000, .inl f2))]) [0, 1] rfl
      replace hD := hD.sub (ws' := [(h0, .inr (13, z67)), (qf2, .inl (cf2, 3000, .inl f2))]) [0, 1] (by decide) rfl
      replace hK := hK.sub (tys' := [(cf2, .int)]) [0] rfl
      obtain ⟨n_72, hn_72⟩ : ∃ z : Nat, z = nf := ⟨_, rfl⟩
      obtain ⟨l2_72, el2_72⟩ : ∃ z : Int32, z = l2_67 := ⟨_, rfl⟩
      obtain ⟨l3_72, el3_72⟩ : ∃ z : Int32, z = l3_67 := ⟨_, rfl⟩
      obtain ⟨l4_72, el4_72⟩ : ∃ z : Int32, z = l4_67 := ⟨_, rfl⟩
      obtain ⟨l5_72, el5_72⟩ : ∃ z : Int32, z = l5_67 := ⟨_, rfl⟩
      obtain ⟨l6_72, el6_72⟩ : ∃ z : Int32, z = s0_67 := ⟨_, rfl⟩
      obtain ⟨l7_72, el7_72⟩ : ∃ z : Int32, z = 0 := ⟨_, rfl⟩
      replace hsp : lp_vm_among_72 nf n_72 a2 a3 f2 nSa1 fSa1 (lp_vm_among_6 nf n_6 a2 a3 f2 nSa1 fSa1) l2_72 l3_72 l4_72 l5_72 l6_72 l7_72 = some r0 := by rw [hn_72, el2_72, el3_72, el4_72, el5_72, el6_72, el7_72]; exact hsp
      replace hl : lv_has ls 8 [(7, .int l7_72), (6, .int l6_72), (0, .ref h0), (1, .ref hSa1), (2, .int l2_72), (3, .int l3_72), (4, .int l4_72), (5, .int l5_72)] := by rw [el2_72, el3_72, el4_72, el5_72, el6_72, el7_72]; exact hl
      obtain ⟨z72, ez72⟩ : ∃ z : List Value, z = z67 := ⟨_, rfl⟩
      have hfh_72_2 : z72[2]? = some (.ref qf2) := by rw [ez72]; exact hfh_67_2
      have hlh_72 : z72.length = 155 := by rw [ez72]; exact hlh_67
      have hrh_72 : ∀ j : Nat, z72[j]? = zs[j]? := by rw [ez72]; exact hrh_67
      replace hP : va_P (dC, dI) vwCl [(h0, .inr (13, z72)), (qf2, .inl (cf2, 3000, .inl f2))] H := by rw [ez72]; exact hP
      replace hD : va_D A [(h0, .inr (13, z72)), (qf2, .inl (cf2, 3000, .inl f2))] := by rw [ez72]; exact hD
      clear hn_72 ez72 el2_72 el3_72 el4_72 el5_72 el6_72 el7_72
      try clear hlo
      try clear hH
      revert hsp
      revert hP
      revert hD
      revert hS
      revert hl
      revert hrh_72
      revert hlh_72
      revert hfh_72_2
      revert l7_72
      revert l6_72
      revert l5_72
      revert l4_72
      revert l3_72
      revert l2_72
      revert z72
      revert ls
      revert locs
      revert H
      induction n_72 with
      | zero => intro H locs ls z72 l2_72 l3_72 l4_72 l5_72 l6_72 l7_72 hfh_72_2 hlh_72 hrh_72 hl hS hD hP hsp; unfold lp_vm_among_72 at hsp; cases hsp
      | succ n_72 ih_72 =>
        intro H locs ls z72 l2_72 l3_72 l4_72 l5_72 l6_72 l7_72 hfh_72_2 hlh_72 hrh_72 hl hS hD hP hsp
        unfold lp_vm_among_72 at hsp
        try dsimp only at hsp
        refine lv_iload hx hb dX13_among_72 (lv_at hl 0 rfl) ?_
        refine lv_iload_n hx hb dX13_among_74 rfl (lv_at hl 5 rfl) ?_
        refine lv_icmp_ge (tgt := 119) hx hb dX13_among_75 (by decide) (fun c_11 => ?_) (fun c_11 => ?_)
        · rw [if_pos c_11] at hsp
          refine lv_iload hx hb dX13_among_119 (lv_at hl 1 rfl) ?_
          refine lv_if_eq (tgt := 127) hx hb dX13_among_121 (by decide) (fun c_12 => ?_) (fun c_12 => ?_)
          · rw [if_pos c_12] at hsp
            refine lv_iinc (v := (l5_72 + 1)) (lv' := [(5, .int (l5_72 + 1)), (7, .int l7_72), (6, .int l6_72), (0, .ref h0), (1, .ref hSa1), (2, .int l2_72), (3, .int l3_72), (4, .int l4_72)]) hx hb dX13_among_127 hl (k := 7) rfl rfl (by decide) rfl (fun ls hl => ?_)
            refine lv_goto (tgt := 6) hx hb dX13_among_130 (by decide) ?_
            exact ih_6 H locs ls z72 l2_72 l3_72 l4_72 (l5_72 + 1) (hfh_72_2) hlh_72 hrh_72 (lv_sub hl [0, 7, 3, 4, 5, 6] rfl) hS (hD.sub (ws' := [(h0, .inr (13, z72)), (qf2, .inl (cf2, 3000, .inl f2))]) [0, 1] (by decide) rfl) (hP.sub (ws' := [(h0, .inr (13, z72)), (qf2, .inl (cf2, 3000, .inl f2))]) [0, 1] rfl) hsp
          · rw [if_neg c_12] at hsp
            refine lv_iload hx hb dX13_among_124 (lv_at hl 6 rfl) ?_
            have hr0 := Option.some.inj hsp
            clear hsp
            subst hr0
            have hP9 := hP.sub (ws' := [(h0, .inr (13, z72)), (qf2, .inl (cf2, 3000, .inl f2))]) [0, 1] rfl
            have hD9 := hD.sub (ws' := [(h0, .inr (13, z72)), (qf2, .inl (cf2, 3000, .inl f2))]) [0, 1] (by decide) rfl
            have hK9 := hK.sub (tys' := [(cf2, .int)]) [0] rfl
            exact W.iret hx hb hr (fun t ht hW => ⟨⟨(l4_72), (z72), rfl, ⟨rfl, hlh_72, hrh_72⟩, by rw [ht]; exact hP9, va_K.moved hW.alike hK9, hD9⟩, hS.F ht⟩) hS.2.2 dX13_among_126
        · rw [if_neg c_11] at hsp
          refine lv_iload hx hb dX13_among_78 (lv_at hl 1 rfl) ?_
          refine lv_if_eq (tgt := 119) hx hb dX13_among_80 (by decide) (fun c_13 => ?_) (fun c_13 => ?_)
          · rw [if_pos c_13] at hsp
            refine lv_iload hx hb dX13_among_119 (lv_at hl 1 rfl) ?_
            refine lv_if_eq (tgt := 127) hx hb dX13_among_121 (by decide) (fun c_14 => ?_) (fun c_14 => ?_)
            · rw [if_pos c_14] at hsp
              refine lv_iinc (v := (l5_72 + 1)) (lv' := [(5, .int (l5_72 + 1)), (7, .int l7_72), (6, .int l6_72), (0, .ref h0), (1, .ref hSa1), (2, .int l2_72), (3, .int l3_72), (4, .int l4_72)]) hx hb dX13_among_127 hl (k := 7) rfl rfl (by decide) rfl (fun ls hl => ?_)
              refine lv_goto (tgt := 6) hx hb dX13_among_130 (by decide) ?_
              exact ih_6 H locs ls z72 l2_72 l3_72 l4_72 (l5_72 + 1) (hfh_72_2) hlh_72 hrh_72 (lv_sub hl [0, 7, 3, 4, 5, 6] rfl) hS (hD.sub (ws' := [(h0, .inr (13, z72)), (qf2, .inl (cf2, 3000, .inl f2))]) [0, 1] (by decide) rfl) (hP.sub (ws' := [(h0, .inr (13, z72)), (qf2, .inl (cf2, 3000, .inl f2))]) [0, 1] rfl) hsp
            · rw [if_neg c_14] at hsp
              refine lv_iload hx hb dX13_among_124 (lv_at hl 6 rfl) ?_
              have hr0 := Option.some.inj hsp
              clear hsp
              subst hr0
              have hP9 := hP.sub (ws' := [(h0, .inr (13, z72)), (qf2, .inl (cf2, 3000, .inl f2))]) [0, 1] rfl
              have hD9 := hD.sub (ws' := [(h0, .inr (13, z72)), (qf2, .inl (cf2, 3000, .inl f2))]) [0, 1] (by decide) rfl
              have hK9 := hK.sub (tys' := [(cf2, .int)]) [0] rfl
              exact W.iret hx hb hr (fun t ht hW => ⟨⟨(l4_72), (z72), rfl, ⟨rfl, hlh_72, hrh_72⟩, by rw [ht]; exact hP9, va_K.moved hW.alike hK9, hD9⟩, hS.F ht⟩) hS.2.2 dX13_among_126
          · rw [if_neg c_13] at hsp
            refine lv_aload_n hx hb dX13_among_83 rfl (lv_at hl 3 rfl) ?_
            refine lv_iload hx hb dX13_among_84 (lv_at hl 7 rfl) ?_
            refine lv_iconst (v := 1) hx hb dX13_among_86 (by decide) ?_
            refine lv_iadd hx hb dX13_among_87 ?_
            refine lv_iload hx hb dX13_among_88 (lv_at hl 0 rfl) ?_
            refine lv_iadd hx hb dX13_among_90 ?_
            obtain ⟨⟨hk_15j, hk_151, hk_152, hk_153, hk_154⟩, hsp⟩ := ox_ch hsp
            rw [hk_151]
            have hPc := hP.sub (ws' := []) [] rfl
            have hDc := hD.sub (ws' := []) [] (by decide) rfl
            have hKc := hK.sub (tys' := []) [] rfl
            have hFc := va_free (wc := []) hD hS hA [] rfl
            refine va_calli (va_runV (As := [.int (nI hk_15j)]) (rest := []) ⟨hx, hb, hml, hown, hts⟩ (ct_charAt l dC dI H.size nSa1 fSa1 hSa1 qSa1 hk_15j hk_153 hk_154) (cwV 1 hts gv_h9_1 rfl rfl rfl (by decide +kernel) ⟨Nat.le_of_ble_eq_true rfl, Nat.le_of_ble_eq_true rfl⟩) ⟨fun a U g mk q => by obtain ⟨q0, q1, qP, qK, qD, qhZW⟩ := q; exact ⟨q0, q1, qP, va_K.moved (u := U) (U := U.calling g mk a) (Vm.Alike.refl U.vm) qK, qD, pz_W.moved (u := U) (U := U.calling g mk a) (Vm.Alike.refl U.vm) qhZW⟩, pz_recv hZWSa1 hS, fun U hU hW => ⟨rfl, by rw [hU], by rw [hU]; exact hPc, va_K.moved hW.alike hKc, hDc.weaken (fun _ _ _ _ => trivial), by rw [hU]; exact ((pz_W.moved hW.alike hZWSa1).kept hS.2.1).narrow hFc⟩⟩ rfl rfl hl.1 rfl (lv_room (Nat.le_of_ble_eq_true rfl)) dX13_among_91 ⟨Nat.le_of_ble_eq_true rfl, Nat.le_of_ble_eq_true rfl⟩) hS (fun q _ h => hFc q h) hFc ?_
            clear hS
            intro r_16 u t H1 locs ht hvm hw hB hz1 hk1 hS
            obtain ⟨⟩ := u
            obtain ⟨hP1, hK1, hD1⟩ := hB
            rw [ht] at hP1
            try dsimp only at hw
            have hPD := va_join (wr := [(h0, .inr (13, z72)), (qf2, .inl (cf2, 3000, .inl f2))]) (w1 := []) hP hD [] [0, 1] rfl rfl (by decide) (by decide) hk1 hFc hP1 hD1
            clear hP hD
            obtain ⟨hP, hD⟩ := hPD
            clear hPc hDc hKc hFc hP1 hK1 hD1 hz1 hk1 ht hvm
            generalize H1 = H at hP hS ⊢
            replace hP : va_P (dC, dI) vwCl [(h0, .inr (13, z72)), (qf2, .inl (cf2, 3000, .inl f2))] H := hP
            replace hD : va_D A [(h0, .inr (13, z72)), (qf2, .inl (cf2, 3000, .inl f2))] := hD
            obtain rfl : r_16 = (((fSa1 (((l5_72 + 1) + l7_72) : Int32).toNatClampNeg) &&& 255).toUInt32 % 65536).toInt32 := by rw [hk_152]; exact hw
            refine lv_aload_n hx hb dX13_among_94 rfl (lv_at hl 2 rfl) ?_
            refine va_get (D := (dC, dI)) (ci := 13) (v := .ref qf2) (C := RX13) (T := TX13) (N := 155) hx hb hts uV_h9_X13 hown hK hP 0 rfl rfl 2 (by decide) (hts (.fieldLink RX13 13 "ClassMillModel" "text" "[I") mw_h9_7) (fun _ h9 => h9) hfh_72_2 dX13_among_95 ?_
            refine lv_iload_n hx hb dX13_among_98 rfl (lv_at hl 4 rfl) ?_
            refine lv_iload hx hb dX13_among_99 (lv_at hl 0 rfl) ?_
            refine lv_iadd hx hb dX13_among_101 ?_
            obtain ⟨hi_17, hsp⟩ := ox_in hsp
            refine va_iald hx hb hK hP 1 0 rfl rfl (i := (l2_72 + l7_72)) hi_17 dX13_among_102 ?_
            refine lv_icmp_ne (tgt := 110) hx hb dX13_among_103 (by decide) (fun c_18 => ?_) (fun c_18 => ?_)
            · rw [if_neg c_18] at hsp
              refine lv_iconst (v := 0) hx hb dX13_among_110 (by decide) ?_
              refine lv_istore (lv' := [(6, .int 0), (7, .int l7_72), (0, .ref h0), (1, .ref hSa1), (2, .int l2_72), (3, .int l3_72), (4, .int l4_72), (5, .int l5_72)]) hx hb dX13_among_111 hl (by decide) rfl (fun ls hl => ?_)
              refine lv_iinc (v := (l7_72 + 1)) (lv' := [(7, .int (l7_72 + 1)), (6, .int 0), (0, .ref h0), (1, .ref hSa1), (2, .int l2_72), (3, .int l3_72), (4, .int l4_72), (5, .int l5_72)]) hx hb dX13_among_113 hl (k := 1) rfl rfl (by decide) rfl (fun ls hl => ?_)
              refine lv_goto (tgt := 72) hx hb dX13_among_116 (by decide) ?_
              exact ih_72 H locs ls z72 l2_72 l3_72 l4_72 l5_72 0 (l7_72 + 1) (hfh_72_2) hlh_72 hrh_72 (lv_sub hl [0, 1, 2, 3, 4, 5, 6, 7] rfl) hS (hD.sub (ws' := [(h0, .inr (13, z72)), (qf2, .inl (cf2, 3000, .inl f2))]) [0, 1] (by decide) rfl) (hP.sub (ws' := [(h0, .inr (13, z72)), (qf2, .inl (cf2, 3000, .inl f2))]) [0, 1] rfl) hsp
            · rw [if_pos c_18] at hsp
              refine lv_iconst (v := 1) hx hb dX13_among_106 (by decide) ?_
              refine lv_goto (tgt := 111) hx hb dX13_among_107 (by decide) ?_
              refine lv_istore (lv' := [(6, .int 1), (7, .int l7_72), (0, .ref h0), (1, .ref hSa1), (2, .int l2_72), (3, .int l3_72), (4, .int l4_72), (5, .int l5_72)]) hx hb dX13_among_111 hl (by decide) rfl (fun ls hl => ?_)
              refine lv_iinc (v := (l7_72 + 1)) (lv' := [(7, .int (l7_72 + 1)), (6, .int 1), (0, .ref h0), (1, .ref hSa1), (2, .int l2_72), (3, .int l3_72), (4, .int l4_72), (5, .int l5_72)]) hx hb dX13_among_113 hl (k := 1) rfl rfl (by decide) rfl (fun ls hl => ?_)
              refine lv_goto (tgt := 72) hx hb dX13_among_116 (by decide) ?_
              exact ih_72 H locs ls z72 l2_72 l3_72 l4_72 l5_72 1 (l7_72 + 1) (hfh_72_2) hlh_72 hrh_72 (lv_sub hl [0, 1, 2, 3, 4, 5, 6, 7] rfl) hS (hD.sub (ws' := [(h0, .inr (13, z72)), (qf2, .inl (cf2, 3000, .inl f2))]) [0, 1] (by decide) rfl) (hP.sub (ws' := [(h0, .inr (13, z72)), (qf2, .inl (cf2, 3000, .inl f2))]) [0, 1] rfl) hsp
    intro hj_67
    refine jn_use (α := Heap × List Loc × Array Slot × List Value × Int32 × Int32 × Int32 × Int32) (fun x9 => x9.1) (fun x9 => x9.2.1) (fun x9 => F0 m 66 x9.2.2.1 []) (fun x9 => match x9 with | (H, locs, ls, z66, l2_66, l3_66, l4_66, l5_66) => lv_has ls 8 [(0, .ref h0), (1, .ref hSa1), (2, .int l2_66), (3, .int l3_66), (4, .int l4_66), (5, .int l5_66)] ∧ va_S A s.heap H locs ∧ va_D A [(h0, .inr (13, z66)), (qf2, .inl (cf2, 3000, .inl f2))] ∧ va_P (dC, dI) vwCl [(h0, .inr (13, z66)), (qf2, .inl (cf2, 3000, .inl f2))] H ∧ z66[2]? = some (.ref qf2) ∧ z66.length = 155 ∧ (∀ j : Nat, z66[j]? = zs[j]?) ∧ jn_vm_among_66 nf a2 a3 f2 nSa1 fSa1 (lp_vm_among_6 nf n_6 a2 a3 f2 nSa1 fSa1) l2_66 l3_66 l4_66 l5_66 = some r0) ?_ ?_
    · intro x9 hJ9
      obtain ⟨H, locs, ls, z66, l2_66, l3_66, l4_66, l5_66⟩ := x9
      obtain ⟨hl, hS, hD, hP, hfh_66_2, hlh_66, hrh_66, hsp⟩ := hJ9
      replace hl : lv_has ls 8 [(0, .ref h0), (1, .ref hSa1), (2, .int l2_66), (3, .int l3_66), (4, .int l4_66), (5, .int l5_66)] := hl
      replace hS : va_S A s.heap H locs := hS
      replace hD : va_D A [(h0, .inr (13, z66)), (qf2, .inl (cf2, 3000, .inl f2))] := hD
      replace hP : va_P (dC, dI) vwCl [(h0, .inr (13, z66)), (qf2, .inl (cf2, 3000, .inl f2))] H := hP
      replace hsp : jn_vm_among_66 nf a2 a3 f2 nSa1 fSa1 (lp_vm_among_6 nf n_6 a2 a3 f2 nSa1 fSa1) l2_66 l3_66 l4_66 l5_66 = some r0 := hsp
      show W _ _ _ _ _ _ _ _ _ _ H locs _ _ _ (F0 m 66 ls [])
      unfold jn_vm_among_66 at hsp
      try dsimp only at hsp
      refine lv_iconst (v := 0) hx hb dX13_among_66 (by decide) ?_
      exact hj_67 (H, locs, ls, z66, l2_66, l3_66, l4_66, l5_66, 0) ⟨lv_sub hl [0, 1, 2, 3, 4, 5] rfl, hS, hD.sub (ws' := [(h0, .inr (13, z66)), (qf2, .inl (cf2, 3000, .inl f2))]) [0, 1] (by decide) rfl, hP.sub (ws' := [(h0, .inr (13, z66)), (qf2, .inl (cf2, 3000, .inl f2))]) [0, 1] rfl, hfh_66_2, hlh_66, hrh_66, hsp⟩
    intro hj_66
    refine lv_iload hx hb dX13_among_6 (lv_at hl 0 rfl) ?_
    refine lv_iconst (v := 1) hx hb dX13_among_8 (by decide) ?_
    refine lv_iadd hx hb dX13_among_9 ?_
    refine lv_aload_n hx hb dX13_among_10 rfl (lv_at hl 3 rfl) ?_
    have hPc := hP.sub (ws' := []) [] rfl
    have hDc := hD.sub (ws' := []) [] (by decide) rfl
    have hKc := hK.sub (tys' := []) [] rfl
    have hFc := va_free (wc := []) hD hS hA [] rfl
    refine va_calli (va_runV (As := []) (rest := [.int (l5_6 + 1)]) ⟨hx, hb, hml, hown, hts⟩ (ct_slen l dC dI H.size nSa1 fSa1 hSa1 qSa1) (cwV 0 hts gv_h9_0 rfl rfl rfl (by decide +kernel) ⟨Nat.le_of_ble_eq_true rfl, Nat.le_of_ble_eq_true rfl⟩) ⟨fun a U g mk q => by obtain ⟨q0, q1, qP, qK, qD, qhZW⟩ := q; exact ⟨q0, q1, qP, va_K.moved (u := U) (U := U.calling g mk a) (Vm.Alike.refl U.vm) qK, qD, pz_W.moved (u := U) (U := U.calling g mk a) (Vm.Alike.refl U.vm) qhZW⟩, pz_recv hZWSa1 hS, fun U hU hW => ⟨rfl, by rw [hU], by rw [hU]; exact hPc, va_K.moved hW.alike hKc, hDc.weaken (fun _ _ _ _ => trivial), by rw [hU]; exact ((pz_W.moved hW.alike hZWSa1).kept hS.2.1).narrow hFc⟩⟩ rfl rfl hl.1 rfl (lv_room (Nat.le_of_ble_eq_true rfl)) dX13_among_11 ⟨Nat.le_of_ble_eq_true rfl, Nat.le_of_ble_eq_true rfl⟩) hS (fun q _ h => hFc q h) hFc ?_
    clear hS
    intro r_1 u t H1 locs ht hvm hw hB hz1 hk1 hS
    obtain ⟨⟩ := u
    obtain ⟨hP1, hK1, hD1⟩ := hB
    rw [ht] at hP1
    try dsimp only at hw
    have hPD := va_join (wr := [(h0, .inr (13, z6)), (qf2, .inl (cf2, 3000, .inl f2))]) (w1 := []) hP hD [] [0, 1] rfl rfl (by decide) (by decide) hk1 hFc hP1 hD1
    clear hP hD
    obtain ⟨hP, hD⟩ := hPD
    clear hPc hDc hKc hFc hP1 hK1 hD1 hz1 hk1 ht hvm
    generalize H1 = H at hP hS ⊢
    replace hP : va_P (dC, dI) vwCl [(h0, .inr (13, z6)), (qf2, .inl (cf2, 3000, .inl f2))] H := hP
    replace hD : va_D A [(h0, .inr (13, z6)), (qf2, .inl (cf2, 3000, .inl f2))] := hD
    obtain rfl : r_1 = (nI nSa1) := hw
    refine lv_icmp_ge (tgt := 133) hx hb dX13_among_14 (by decide) (fun c_2 => ?_) (fun c_2 => ?_)
    · rw [if_pos c_2] at hsp
      refine lv_iconst (v := (-1)) hx hb dX13_among_133 (by decide) ?_
      have hr0 := Option.some.inj hsp
      clear hsp
      subst hr0
      have hP9 := hP.sub (ws' := [(h0, .inr (13, z6)), (qf2, .inl (cf2, 3000, .inl f2))]) [0, 1] rfl
      have hD9 := hD.sub (ws' := [(h0, .inr (13, z6)), (qf2, .inl (cf2, 3000, .inl f2))]) [0, 1] (by decide) rfl
      have hK9 := hK.sub (tys' := [(cf2, .int)]) [0] rfl
      exact W.iret hx hb hr (fun t ht hW => ⟨⟨((-1)), (z6), rfl, ⟨rfl, hlh_6, hrh_6⟩, by rw [ht]; exact hP9, va_K.moved hW.alike hK9, hD9⟩, hS.F ht⟩) hS.2.2 dX13_among_134
    · rw [if_neg c_2] at hsp
      refine lv_aload_n hx hb dX13_among_17 rfl (lv_at hl 3 rfl) ?_
      refine lv_iload hx hb dX13_among_18 (lv_at hl 0 rfl) ?_
      obtain ⟨⟨hk_3j, hk_31, hk_32, hk_33, hk_34⟩, hsp⟩ := ox_ch hsp
      rw [hk_31]
      have hPc := hP.sub (ws' := []) [] rfl
      have hDc := hD.sub (ws' := []) [] (by decide) rfl
      have hKc := hK.sub (tys' := []) [] rfl
      have hFc := va_free (wc := []) hD hS hA [] rfl
      refine va_calli (va_runV (As := [.int (nI hk_3j)]) (rest := []) ⟨hx, hb, hml, hown, hts⟩ (ct_charAt l dC dI H.size nSa1 fSa1 hSa1 qSa1 hk_3j hk_33 hk_34) (cwV 1 hts gv_h9_1 rfl rfl rfl (by decide +kernel) ⟨Nat.le_of_ble_eq_true rfl, Nat.le_of_ble_eq_true rfl⟩) ⟨fun a U g mk q => by obtain ⟨q0, q1, qP, qK, qD, qhZW⟩ := q; exact ⟨q0, q1, qP, va_K.moved (u := U) (U := U.calling g mk a) (Vm.Alike.refl U.vm) qK, qD, pz_W.moved (u := U) (U := U.calling g mk a) (Vm.Alike.refl U.vm) qhZW⟩, pz_recv hZWSa1 hS, fun U hU hW => ⟨rfl, by rw [hU], by rw [hU]; exact hPc, va_K.moved hW.alike hKc, hDc.weaken (fun _ _ _ _ => trivial), by rw [hU]; exact ((pz_W.moved hW.alike hZWSa1).kept hS.2.1).narrow hFc⟩⟩ rfl rfl hl.1 rfl (lv_room (Nat.le_of_ble_eq_true rfl)) dX13_among_20 ⟨Nat.le_of_ble_eq_true rfl, Nat.le_of_ble_eq_true rfl⟩) hS (fun q _ h => hFc q h) hFc ?_
      clear hS
      intro r_4 u t H1 locs ht hvm hw hB hz1 hk1 hS
      obtain ⟨⟩ := u
      obtain ⟨hP1, hK1, hD1⟩ := hB
      rw [ht] at hP1
      try dsimp only at hw
      have hPD := va_join (wr := [(h0, .inr (13, z6)), (qf2, .inl (cf2, 3000, .inl f2))]) (w1 := []) hP hD [] [0, 1] rfl rfl (by decide) (by decide) hk1 hFc hP1 hD1
      clear hP hD
      obtain ⟨hP, hD⟩ := hPD
      clear hPc hDc hKc hFc hP1 hK1 hD1 hz1 hk1 ht hvm
      generalize H1 = H at hP hS ⊢
      replace hP : va_P (dC, dI) vwCl [(h0, .inr (13, z6)), (qf2, .inl (cf2, 3000, .inl f2))] H := hP
      replace hD : va_D A [(h0, .inr (13, z6)), (qf2, .inl (cf2, 3000, .inl f2))] := hD
      obtain rfl : r_4 = (((fSa1 (l5_6 : Int32).toNatClampNeg) &&& 255).toUInt32 % 65536).toInt32 := by rw [hk_32]; exact hw
      refine lv_bipush (v := 32) hx hb dX13_among_23 (by decide) ?_
      refine lv_icmp_eq (tgt := 31) hx hb dX13_among_25 (by decide) (fun c_5 => ?_) (fun c_5 => ?_)
      · rw [if_pos c_5] at hsp
        refine lv_iinc (v := (l4_6 + 1)) (lv' := [(4, .int (l4_6 + 1)), (5, .int l5_6), (0, .ref h0), (1, .ref hSa1), (2, .int l2_6), (3, .int l3_6)]) hx hb dX13_among_31 hl (k := 1) rfl rfl (by decide) rfl (fun ls hl => ?_)
        refine lv_iload hx hb dX13_among_34 (lv_at hl 1 rfl) ?_
        refine lv_iload_n hx hb dX13_among_36 rfl (lv_at hl 5 rfl) ?_
        refine lv_iadd hx hb dX13_among_37 ?_
        refine lv_iconst (v := 1) hx hb dX13_among_38 (by decide) ?_
        refine lv_iadd hx hb dX13_among_39 ?_
        refine lv_aload_n hx hb dX13_among_40 rfl (lv_at hl 3 rfl) ?_
        have hPc := hP.sub (ws' := []) [] rfl
        have hDc := hD.sub (ws' := []) [] (by decide) rfl
        have hKc := hK.sub (tys' := []) [] rfl
        have hFc := va_free (wc := []) hD hS hA [] rfl
        refine va_calli (va_runV (As := []) (rest := [.int ((l5_6 + l3_6) + 1)]) ⟨hx, hb, hml, hown, hts⟩ (ct_slen l dC dI H.size nSa1 fSa1 hSa1 qSa1) (cwV 0 hts gv_h9_0 rfl rfl rfl (by decide +kernel) ⟨Nat.le_of_ble_eq_true rfl, Nat.le_of_ble_eq_true rfl⟩) ⟨fun a U g mk q => by obtain ⟨q0, q1, qP, qK, qD, qhZW⟩ := q; exact ⟨q0, q1, qP, va_K.moved (u := U) (U := U.calling g mk a) (Vm.Alike.refl U.vm) qK, qD, pz_W.moved (u := U) (U := U.calling g mk a) (Vm.Alike.refl U.vm) qhZW⟩, pz_recv hZWSa1 hS, fun U hU hW => ⟨rfl, by rw [hU], by rw [hU]; exact hPc, va_K.moved hW.alike hKc, hDc.weaken (fun _ _ _ _ => trivial), by rw [hU]; exact ((pz_W.moved hW.alike hZWSa1).kept hS.2.1).narrow hFc⟩⟩ rfl rfl hl.1 rfl (lv_room (Nat.le_of_ble_eq_true rfl)) dX13_among_41 ⟨Nat.le_of_ble_eq_true rfl, Nat.le_of_ble_eq_true rfl⟩) hS (fun q _ h => hFc q h) hFc ?_
        clear hS
        intro r_6 u t H1 locs ht hvm hw hB hz1 hk1 hS
        obtain ⟨⟩ := u
        obtain ⟨hP1, hK1, hD1⟩ := hB
        rw [ht] at hP1
        try dsimp only at hw
        have hPD := va_join (wr := [(h0, .inr (13, z6)), (qf2, .inl (cf2, 3000, .inl f2))]) (w1 := []) hP hD [] [0, 1] rfl rfl (by decide) (by decide) hk1 hFc hP1 hD1
        clear hP hD
        obtain ⟨hP, hD⟩ := hPD
        clear hPc hDc hKc hFc hP1 hK1 hD1 hz1 hk1 ht hvm
        generalize H1 = H at hP hS ⊢
        replace hP : va_P (dC, dI) vwCl [(h0, .inr (13, z6)), (qf2, .inl (cf2, 3000, .inl f2))] H := hP
        replace hD : va_D A [(h0, .inr (13, z6)), (qf2, .inl (cf2, 3000, .inl f2))] := hD
        obtain rfl : r_6 = (nI nSa1) := hw
        refine lv_icmp_ge (tgt := 66) hx hb dX13_among_44 (by decide) (fun c_7 => ?_) (fun c_7 => ?_)
        · rw [if_pos c_7] at hsp
          exact hj_66 (H, locs, ls, z6, l2_6, l3_6, (l4_6 + 1), l5_6) ⟨lv_sub hl [2, 3, 4, 5, 0, 1] rfl, hS, hD.sub (ws' := [(h0, .inr (13, z6)), (qf2, .inl (cf2, 3000, .inl f2))]) [0, 1] (by decide) rfl, hP.sub (ws' := [(h0, .inr (13, z6)), (qf2, .inl (cf2, 3000, .inl f2))]) [0, 1] rfl, hfh_6_2, hlh_6, hrh_6, hsp⟩
        · rw [if_neg c_7] at hsp
          refine lv_aload_n hx hb dX13_among_47 rfl (lv_at hl 3 rfl) ?_
          refine lv_iload hx hb dX13_among_48 (lv_at hl 1 rfl) ?_
          refine lv_iload_n hx hb dX13_among_50 rfl (lv_at hl 5 rfl) ?_
          refine lv_iadd hx hb dX13_among_51 ?_
          refine lv_iconst (v := 1) hx hb dX13_among_52 (by decide) ?_
          refine lv_iadd hx hb dX13_among_53 ?_
          obtain ⟨⟨hk_8j, hk_81, hk_82, hk_83, hk_84⟩, hsp⟩ := ox_ch hsp
          rw [hk_81]
          have hPc := hP.sub (ws' := []) [] rfl
          have hDc := hD.sub (ws' := []) [] (by decide) rfl
          have hKc := hK.sub (tys' := []) [] rfl
          have hFc := va_free (wc := []) hD hS hA [] rfl
          refine va_calli (va_runV (As := [.int (nI hk_8j)]) (rest := []) ⟨hx, hb, hml, hown, hts⟩ (ct_charAt l dC dI H.size nSa1 fSa1 hSa1 qSa1 hk_8j hk_83 hk_84) (cwV 1 hts gv_h9_1 rfl rfl rfl (by decide +kernel) ⟨Nat.le_of_ble_eq_true rfl, Nat.le_of_ble_eq_true rfl⟩) ⟨fun a U g mk q => by obtain ⟨q0, q1, qP, qK, qD, qhZW⟩ := q; exact ⟨q0, q1, qP, va_K.moved (u := U) (U := U.calling g mk a) (Vm.Alike.refl U.vm) qK, qD, pz_W.moved (u := U) (U := U.calling g mk a) (Vm.Alike.refl U.vm) qhZW⟩, pz_recv hZWSa1 hS, fun U hU hW => ⟨rfl, by rw [hU], by rw [hU]; exact hPc, va_K.moved hW.alike hKc, hDc.weaken (fun _ _ _ _ => trivial), by rw [hU]; exact ((pz_W.moved hW.alike hZWSa1).kept hS.2.1).narrow hFc⟩⟩ rfl rfl hl.1 rfl (lv_room (Nat.le_of_ble_eq_true rfl)) dX13_among_54 ⟨Nat.le_of_ble_eq_true rfl, Nat.le_of_ble_eq_true rfl⟩) hS (fun q _ h => hFc q h) hFc ?_
          clear hS
          intro r_9 u t H1 locs ht hvm hw hB hz1 hk1 hS
          obtain ⟨⟩ := u
          obtain ⟨hP1, hK1, hD1⟩ := hB
          rw [ht] at hP1
          try dsimp only at hw
          have hPD := va_join (wr := [(h0, .inr (13, z6)), (qf2, .inl (cf2, 3000, .inl f2))]) (w1 := []) hP hD [] [0, 1] rfl rfl (by decide) (by decide) hk1 hFc hP1 hD1
          clear hP hD
          obtain ⟨hP, hD⟩ := hPD
          clear hPc hDc hKc hFc hP1 hK1 hD1 hz1 hk1 ht hvm
          generalize H1 = H at hP hS ⊢
          replace hP : va_P (dC, dI) vwCl [(h0, .inr (13, z6)), (qf2, .inl (cf2, 3000, .inl f2))] H := hP
          replace hD : va_D A [(h0, .inr (13, z6)), (qf2, .inl (cf2, 3000, .inl f2))] := hD
          obtain rfl : r_9 = (((fSa1 (((l5_6 + l3_6) + 1) : Int32).toNatClampNeg) &&& 255).toUInt32 % 65536).toInt32 := by rw [hk_82]; exact hw
          refine lv_bipush (v := 32) hx hb dX13_among_57 (by decide) ?_
          refine lv_icmp_ne (tgt := 66) hx hb dX13_among_59 (by decide) (fun c_10 => ?_) (fun c_10 => ?_)
          · rw [if_neg c_10] at hsp
            exact hj_66 (H, locs, ls, z6, l2_6, l3_6, (l4_6 + 1), l5_6) ⟨lv_sub hl [2, 3, 4, 5, 0, 1] rfl, hS, hD.sub (ws' := [(h0, .inr (13, z6)), (qf2, .inl (cf2, 3000, .inl f2))]) [0, 1] (by decide) rfl, hP.sub (ws' := [(h0, .inr (13, z6)), (qf2, .inl (cf2, 3000, .inl f2))]) [0, 1] rfl, hfh_6_2, hlh_6, hrh_6, hsp⟩
          · rw [if_pos c_10] at hsp
            refine lv_iconst (v := 1) hx hb dX13_among_62 (by decide) ?_
            refine lv_goto (tgt := 67) hx hb dX13_among_63 (by decide) ?_
            exact hj_67 (H, locs, ls, z6, l2_6, l3_6, (l4_6 + 1), l5_6, 1) ⟨lv_sub hl [2, 3, 4, 5, 0, 1] rfl, hS, hD.sub (ws' := [(h0, .inr (13, z6)), (qf2, .inl (cf2, 3000, .inl f2))]) [0, 1] (by decide) rfl, hP.sub (ws' := [(h0, .inr (13, z6)), (qf2, .inl (cf2, 3000, .inl f2))]) [0, 1] rfl, hfh_6_2, hlh_6, hrh_6, hsp⟩
      · rw [if_neg c_5] at hsp
        refine lv_goto (tgt := 127) hx hb dX13_among_28 (by decide) ?_
        refine lv_iinc (v := (l5_6 + 1)) (lv' := [(5, .int (l5_6 + 1)), (4, .int l4_6), (0, .ref h0), (1, .ref hSa1), (2, .int l2_6), (3, .int l3_6)]) hx hb dX13_among_127 hl (k := 0) rfl rfl (by decide) rfl (fun ls hl => ?_)
        refine lv_goto (tgt := 6) hx hb dX13_among_130 (by decide) ?_
        exact ih_6 H locs ls z6 l2_6 l3_6 l4_6 (l5_6 + 1) (hfh_6_2) hlh_6 hrh_6 (lv_sub hl [0, 1, 2, 3, 4, 5] rfl) hS (hD.sub (ws' := [(h0, .inr (13, z6)), (qf2, .inl (cf2, 3000, .inl f2))]) [0, 1] (by decide) rfl) (hP.sub (ws' := [(h0, .inr (13, z6)), (qf2, .inl (cf2, 3000, .inl f2))]) [0, 1] rfl) hsp
def jn_vm_signAt_404 (nf : Nat) (a1 : Int32) (v3 : Int32) (f2 : Nat → Int32)   : Option (Int32) := (some 1)
def jn_vm_signAt_406 (nf : Nat) (a1 : Int32) (v3 : Int32) (f2 : Nat → Int32)  (l3_406 : Int32) : Option (Int32) := (if l3_406 = 61 then (some 2) else (some 1))
def jn_vm_signAt_474 (nf : Nat) (a1 : Int32) (v3 : Int32) (f2 : Nat → Int32)  (l2_474 : Int32) (l3_474 : Int32) : Option (Int32) := (if l3_474 = l2_474 then (some 2) else (some 1))
def jn_vm_signAt_485 (nf : Nat) (a1 : Int32) (v3 : Int32) (f2 : Nat → Int32)   : Option (Int32) := (some 0)
set_option maxRecDepth 100000 in
def sp_vm_signAt (nf : Nat) (a1 : Int32) (v3 : Int32) (f2 : Nat → Int32) : Option (Int32) := ((sp_tm_at nf a1 v3 f2).bind (fun p1 => ((sp_tm_at nf (a1 + 1) v3 f2).bind (fun p2 => (if p1 = 33 then (jn_vm_signAt_406 nf a1 v3 f2  p2) else (if p1 = 34 then (jn_vm_signAt_485 nf a1 v3 f2  ) else (if p1 = 35 then (jn_vm_signAt_485 nf a1 v3 f2  ) else (if p1 = 36 then (jn_vm_signAt_485 nf a1 v3 f2  ) else (if p1 = 37 then (jn_vm_signAt_404 nf a1 v3 f2  ) else (if p1 = 38 then (jn_vm_signAt_474 nf a1 v3 f2  p1 p2) else (if p1 = 39 then (jn_vm_signAt_485 nf a1 v3 f2  ) else (if p1 = 40 then (jn_vm_signAt_404 nf a1 v3 f2  ) else (if p1 = 41 then (jn_vm_signAt_404 nf a1 v3 f2  ) else (if p1 = 42 then (jn_vm_signAt_404 nf a1 v3 f2  ) else (if p1 = 43 then (jn_vm_signAt_404 nf a1 v3 f2  ) else (if p1 = 44 then (jn_vm_signAt_404 nf a1 v3 f2  ) else (if p1 = 45 then (jn_vm_signAt_404 nf a1 v3 f2  ) else (if p1 = 46 then (jn_vm_signAt_404 nf a1 v3 f2  ) else (if p1 = 47 then (jn_vm_signAt_404 nf a1 v3 f2  ) else (if p1 = 48 then (jn_vm_signAt_485 nf a1 v3 f2  ) else (if p1 = 49 then (jn_vm_signAt_485 nf a1 v3 f2  ) else (if p1 = 50 then (jn_vm_signAt_485 nf a1 v3 f2  ) else (if p1 = 51 then (jn_vm_signAt_485 nf a1 v3 f2  ) else (if p1 = 52 then (jn_vm_signAt_485 nf a1 v3 f2  ) else (if p1 = 53 then (jn_vm_signAt_485 nf a1 v3 f2  ) else (if p1 = 54 then (jn_vm_signAt_485 nf a1 v3 f2  ) else (if p1 = 55 then (jn_vm_signAt_485 nf a1 v3 f2  ) else (if p1 = 56 then (jn_vm_signAt_485 nf a1 v3 f2  ) else (if p1 = 57 then (jn_vm_signAt_485 nf a1 v3 f2  ) else (if p1 = 58 then (jn_vm_signAt_404 nf a1 v3 f2  ) else (if p1 = 59 then (jn_vm_signAt_404 nf a1 v3 f2  ) else (if p1 = 60 then (if p2 = 61 then (some 2) else (if p2 = 60 then (some 2) else (some 1))) else (if p1 = 61 then (jn_vm_signAt_406 nf a1 v3 f2  p2) else (if p1 = 62 then (if p2 = 62 then ((sp_tm_at nf (a1 + 2) v3 f2).bind (fun p3 => (if p3 = 62 then (some 3) else (some 2)))) else (if p2 = 61 then (some 2) else (some 1))) else (if p1 = 63 then (jn_vm_signAt_404 nf a1 v3 f2  ) else (if p1 = 64 then (jn_vm_signAt_485 nf a1 v3 f2  ) else (if p1 = 65 then (jn_vm_signAt_485 nf a1 v3 f2  ) else (if p1 = 66 then (jn_vm_signAt_485 nf a1 v3 f2  ) else (if p1 = 67 then (jn_vm_signAt_485 nf a1 v3 f2  ) else (if p1 = 68 then (jn_vm_signAt_485 nf a1 v3 f2  ) else (if p1 = 69 then (jn_vm_signAt_485 nf a1 v3 f2  ) else (if p1 = 70 then (jn_vm_signAt_485 nf a1 v3 f2  ) else (if p1 = 71 then (jn_vm_signAt_485 nf a1 v3 f2  ) else (if p1 = 72 then (jn_vm_signAt_485 nf a1 v3 f2  ) else (if p1 = 73 then (jn_vm_signAt_485 nf a1 v3 f2  ) else (if p1 = 74 then (jn_vm_signAt_485 nf a1 v3 f2  ) else (if p1 = 75 then (jn_vm_signAt_485 nf a1 v3 f2  ) else (if p1 = 76 then (jn_vm_signAt_485 nf a1 v3 f2  ) else (if p1 = 77 then (jn_vm_signAt_485 nf a1 v3 f2  ) else (if p1 = 78 then (jn_vm_signAt_485 nf a1 v3 f2  ) else (if p1 = 79 then (jn_vm_signAt_485 nf a1 v3 f2  ) else (if p1 = 80 then (jn_vm_signAt_485 nf a1 v3 f2  ) else (if p1 = 81 then (jn_vm_signAt_485 nf a1 v3 f2  ) else (if p1 = 82 then (jn_vm_signAt_485 nf a1 v3 f2  ) else (if p1 = 83 then (jn_vm_signAt_485 nf a1 v3 f2  ) else (if p1 = 84 then (jn_vm_signAt_485 nf a1 v3 f2  ) else (if p1 = 85 then (jn_vm_signAt_485 nf a1 v3 f2  ) else (if p1 = 86 then (jn_vm_signAt_485 nf a1 v3 f2  ) else (if p1 = 87 then (jn_vm_signAt_485 nf a1 v3 f2  ) else (if p1 = 88 then (jn_vm_signAt_485 nf a1 v3 f2  ) else (if p1 = 89 then (jn_vm_signAt_485 nf a1 v3 f2  ) else (if p1 = 90 then (jn_vm_signAt_485 nf a1 v3 f2  ) else (if p1 = 91 then (jn_vm_signAt_404 nf a1 v3 f2  ) else (if p1 = 92 then (jn_vm_signAt_485 nf a1 v3 f2  ) else (if p1 = 93 then (jn_vm_signAt_404 nf a1 v3 f2  ) else (if p1 = 94 then (jn_vm_signAt_404 nf a1 v3 f2  ) else (if p1 = 95 then (jn_vm_signAt_485 nf a1 v3 f2  ) else (if p1 = 96 then (jn_vm_signAt_485 nf a1 v3 f2  ) else (if p1 = 97 then (jn_vm_signAt_485 nf a1 v3 f2  ) else (if p1 = 98 then (jn_vm_signAt_485 nf a1 v3 f2  ) else (if p1 = 99 then (jn_vm_signAt_485 nf a1 v3 f2  ) else (if p1 = 100 then (jn_vm_signAt_485 nf a1 v3 f2  ) else (if p1 = 101 then (jn_vm_signAt_485 nf a1 v3 f2  ) else (if p1 = 102 then (jn_vm_signAt_485 nf a1 v3 f2  ) else (if p1 = 103 then (jn_vm_signAt_485 nf a1 v3 f2  ) else (if p1 = 104 then (jn_vm_signAt_485 nf a1 v3 f2  ) else (if p1 = 105 then (jn_vm_signAt_485 nf a1 v3 f2  ) else (if p1 = 106 then (jn_vm_signAt_485 nf a1 v3 f2  ) else (if p1 = 107 then (jn_vm_signAt_485 nf a1 v3 f2  ) else (if p1 = 108 then (jn_vm_signAt_485 nf a1 v3 f2  ) else (if p1 = 109 then (jn_vm_signAt_485 nf a1 v3 f2  ) else (if p1 = 110 then (jn_vm_signAt_485 nf a1 v3 f2  ) else (if p1 = 111 then (jn_vm_signAt_485 nf a1 v3 f2  ) else (if p1 = 112 then (jn_vm_signAt_485 nf a1 v3 f2  ) else (if p1 = 113 then (jn_vm_signAt_485 nf a1 v3 f2  ) else (if p1 = 114 then (jn_vm_signAt_485 nf a1 v3 f2  ) else (if p1 = 115 then (jn_vm_signAt_485 nf a1 v3 f2  ) else (if p1 = 116 then (jn_vm_signAt_485 nf a1 v3 f2  ) else (if p1 = 117 then (jn_vm_signAt_485 nf a1 v3 f2  ) else (if p1 = 118 then (jn_vm_signAt_485 nf a1 v3 f2  ) else (if p1 = 119 then (jn_vm_signAt_485 nf a1 v3 f2  ) else (if p1 = 120 then (jn_vm_signAt_485 nf a1 v3 f2  ) else (if p1 = 121 then (jn_vm_signAt_485 nf a1 v3 f2  ) else (if p1 = 122 then (jn_vm_signAt_485 nf a1 v3 f2  ) else (if p1 = 123 then (jn_vm_signAt_404 nf a1 v3 f2  ) else (if p1 = 124 then (jn_vm_signAt_474 nf a1 v3 f2  p1 p2) else (if p1 = 125 then (jn_vm_signAt_404 nf a1 v3 f2  ) else (if p1 = 126 then (jn_vm_signAt_404 nf a1 v3 f2  ) else (jn_vm_signAt_485 nf a1 v3 f2  )))))))))))))))))))))))))))))))))))))))))))))))))))))))))))))))))))))))))))))))))))))))))))))))))))
set_option maxHeartbeats 4000000 in
set_option maxRecDepth 100000 in
/-- ClassMillModel.signAt -/
theorem vm_signAt (l : Launch) (dC : Nat → ClassId) (dI : Nat → Nat → Nat) (sz : Nat) (h0 : Nat) (zs : (List Value)) (a1 : Int32) (qf2 : Nat) (v3 : Int32) (cf2 : ClassId) (f2 : (Nat → Int32)) (nf : Nat) (r0 : Int32) (hlen : zs.length = 155) (hf2 : zs[2]? = some (.ref qf2)) (hf3 : zs[3]? = some (.int v3)) (hsp : sp_vm_signAt nf a1 v3 f2 = some r0) : Met l yX13_signAt (.code yX13_signAt cX13_signAt 4 (some .int) :: VS_h9) ({ frames := 1, cells := 0, slots := 0, locals := 21 }) (va_Pc [.ref h0, .int a1] (fun U => U.heap.size = sz ∧ va_P (dC, dI) vwCl [(h0, .inr (13, zs)), (qf2, .inl (cf2, 3000, .inl f2))] U.heap ∧ va_K (dC, dI) vwCl [(cf2, .int)] U ∧ va_D (fun _ => True) [(h0, .inr (13, zs)), (qf2, .inl (cf2, 3000, .inl f2))])) (va_Qi (fun (r : Int32) (u : (List Value)) => match u with | (zo1) => r0 = r ∧ zo1.length = 155 ∧ (∀ j : Nat, zo1[j]? = zs[j]?)) (fun (u : (List Value)) (t : State) => match u with | (zo1) => va_P (dC, dI) vwCl [(h0, .inr (13, zo1)), (qf2, .inl (cf2, 3000, .inl f2))] t.heap ∧ va_K (dC, dI) vwCl [(cf2, .int)] t ∧ va_D (va_A [(h0, .inr (13, zs)), (qf2, .inl (cf2, 3000, .inl f2))] sz) [(h0, .inr (13, zo1)), (qf2, .inl (cf2, 3000, .inl f2))]) (va_A [(h0, .inr (13, zs)), (qf2, .inl (cf2, 3000, .inl f2))] sz)) 0 0 (va_A [(h0, .inr (13, zs)), (qf2, .inl (cf2, 3000, .inl f2))] sz) := by
  refine Met.ofW (cc := cX13_signAt) (maxL := 4) (ret := (some .int)) (by decide) rfl ?_
  intro p e s m args below meth c s₁ B hml hv
  obtain ⟨rfl, hsz, hP, hK, hD0⟩ := hv
  have hx := B.exec
  have hb := B.bytes
  have hr := B.returns
  have hts := atoms_spec (ws := (.code yX13_signAt cX13_signAt 4 (some .int) :: VS_h9)) B.pre
  replace hts := fun w (h : w ∈ VS_h9) => hts w (List.mem_cons_of_mem _ h)
  have hown : s.vm.findClass RX13 = some m.cls := findClass_of_methodNamed B.named
  have hlocks := B.notSynchronized
  subst hsz
  have hD := hD0.self (sz := s.heap.size)
  generalize hAe : va_A [(h0, .inr (13, zs)), (qf2, .inl (cf2, 3000, .inl f2))] s.heap.size = A at hD  ⊢
  have hA : ∀ q : Nat, s.heap.size ≤ q → A q := fun q h => by rw [← hAe]; exact Or.inr h
  have hP : va_P (dC, dI) vwCl [(h0, .inr (13, zs)), (qf2, .inl (cf2, 3000, .inl f2))] s.heap := hP
  have hl := lv_entry ([.ref h0, .int a1]) (n := 4) (Nat.le_of_ble_eq_true rfl)
  rw [lg_entry_eq]
  generalize (lg_sl ([.ref h0, .int a1]) ++ List.replicate (4 - (lg_sl ([.ref h0, .int a1])).length) Slot.unset).toArray = ls at hl ⊢
  have hl : lv_has ls 4 [(0, .ref h0), (1, .int a1)] := hl
  obtain ⟨H, hH⟩ : ∃ H : Heap, s.heap = H := ⟨_, rfl⟩
  rw [hH] at hP ⊢
  have hS : va_S A s.heap H [] := by rw [← hH]; exact va_S.rf
  obtain ⟨locs, hlo⟩ : ∃ locs : List Loc, locs = [] := ⟨_, rfl⟩
  rw [← hlo] at hS ⊢
  have hrs0 : ∀ j : Nat, zs[j]? = zs[j]? := fun _  => rfl
  unfold sp_vm_signAt at hsp
  refine jn_use (α := Heap × List Loc × Array Slot × List Value) (fun x9 => x9.1) (fun x9 => x9.2.1) (fun x9 => F0 m 485 x9.2.2.1 []) (fun x9 => match x9 with | (H, locs, ls, z485) => lv_has ls 4 [] ∧ va_S A s.heap H locs ∧ va_D A [(h0, .inr (13, z485)), (qf2, .inl (cf2, 3000, .inl f2))] ∧ va_P (dC, dI) vwCl [(h0, .inr (13, z485)), (qf2, .inl (cf2, 3000, .inl f2))] H ∧ z485[2]? = some (.ref qf2) ∧ z485[3]? = some (.int v3) ∧ z485.length = 155 ∧ (∀ j : Nat, z485[j]? = zs[j]?) ∧ jn_vm_signAt_485 nf a1 v3 f2  = some r0) ?_ ?_
  · intro x9 hJ9
    obtain ⟨H, locs, ls, z485⟩ := x9
    obtain ⟨hl, hS, hD, hP, hfh_485_2, hfh_485_3, hlh_485, hrh_485, hsp⟩ := hJ9
    replace hl : lv_has ls 4 [] := hl
    replace hS : va_S A s.heap H locs := hS
    replace hD : va_D A [(h0, .inr (13, z485)), (qf2, .inl (cf2, 3000, .inl f2))] := hD
    replace hP : va_P (dC, dI) vwCl [(h0, .inr (13, z485)), (qf2, .inl (cf2, 3000, .inl f2))] H := hP
    replace hsp : jn_vm_signAt_485 nf a1 v3 f2  = some r0 := hsp
    show W _ _ _ _ _ _ _ _ _ _ H locs _ _ _ (F0 m 485 ls [])
    unfold jn_vm_signAt_485 at hsp
    try dsimp only at hsp
    refine lv_iconst (v := 0) hx hb dX13_signAt_485 (by decide) ?_
    have hr0 := Option.some.inj hsp
    clear hsp
    subst hr0
    have hP9 := hP.sub (ws' := [(h0, .inr (13, z485)), (qf2, .inl (cf2, 3000, .inl f2))]) [0, 1] rfl
    have hD9 := hD.sub (ws' := [(h0, .inr (13, z485)), (qf2, .inl (cf2, 3000, .inl f2))]) [0, 1] (by decide) rfl
    have hK9 := hK.sub (tys' := [(cf2, .int)]) [0] rfl
    exact W.iret hx hb hr (fun t ht hW => ⟨⟨(0), (z485), rfl, ⟨rfl, hlh_485, hrh_485⟩, by rw [ht]; exact hP9, va_K.moved hW.alike hK9, hD9⟩, hS.F ht⟩) hS.2.2 dX13_signAt_486
  intro hj_485
  refine jn_use (α := Heap × List Loc × Array Slot × List Value × Int32 × Int32) (fun x9 => x9.1) (fun x9 => x9.2.1) (fun x9 => F0 m 474 x9.2.2.1 []) (fun x9 => match x9 with | (H, locs, ls, z474, l2_474, l3_474) => lv_has ls 4 [(2, .int l2_474), (3, .int l3_474)] ∧ va_S A s.heap H locs ∧ va_D A [(h0, .inr (13, z474)), (qf2, .inl (cf2, 3000, .inl f2))] ∧ va_P (dC, dI) vwCl [(h0, .inr (13, z474)), (qf2, .inl (cf2, 3000, .inl f2))] H ∧ z474[2]? = some (.ref qf2) ∧ z474[3]? = some (.int v3) ∧ z474.length = 155 ∧ (∀ j : Nat, z474[j]? = zs[j]?) ∧ jn_vm_signAt_474 nf a1 v3 f2 l2_474 l3_474 = some r0) ?_ ?_
  · intro x9 hJ9
    obtain ⟨H, locs, ls, z474, l2_474, l3_474⟩ := x9
    obtain ⟨hl, hS, hD, hP, hfh_474_2, hfh_474_3, hlh_474, hrh_474, hsp⟩ := hJ9
    replace hl : lv_has ls 4 [(2, .int l2_474), (3, .int l3_474)] := hl
    replace hS : va_S A s.heap H locs := hS
    replace hD : va_D A [(h0, .inr (13, z474)), (qf2, .inl (cf2, 3000, .inl f2))] := hD
    replace hP : va_P (dC, dI) vwCl [(h0, .inr (13, z474)), (qf2, .inl (cf2, 3000, .inl f2))] H := hP
    replace hsp : jn_vm_signAt_474 nf a1 v3 f2 l2_474 l3_474 = some r0 := hsp
    show W _ _ _ _ _ _ _ _ _ _ H locs _ _ _ (F0 m 474 ls [])
    unfold jn_vm_signAt_474 at hsp
    try dsimp only at hsp
    refine lv_iload_n hx hb dX13_signAt_474 rfl (lv_at hl 1 rfl) ?_
    refine lv_iload_n hx hb dX13_signAt_475 rfl (lv_at hl 0 rfl) ?_
    refine lv_icmp_ne (tgt := 483) hx hb dX13_signAt_476 (by decide) (fun c_104 => ?_) (fun c_104 => ?_)
    · rw [if_neg c_104] at hsp
      refine lv_iconst (v := 1) hx hb dX13_signAt_483 (by decide) ?_
      have hr0 := Option.some.inj hsp
      clear hsp
      subst hr0
      have hP9 := hP.sub (ws' := [(h0, .inr (13, z474)), (qf2, .inl (cf2, 3000, .inl f2))]) [0, 1] rfl
      have hD9 := hD.sub (ws' := [(h0, .inr (13, z474)), (qf2, .inl (cf2, 3000, .inl f2))]) [0, 1] (by decide) rfl
      have hK9 := hK.sub (tys' := [(cf2, .int)]) [0] rfl
      exact W.iret hx hb hr (fun t ht hW => ⟨⟨(1), (z474), rfl, ⟨rfl, hlh_474, hrh_474⟩, by rw [ht]; exact hP9, va_K.moved hW.alike hK9, hD9⟩, hS.F ht⟩) hS.2.2 dX13_signAt_484
    · rw [if_pos c_104] at hsp
      refine lv_iconst (v := 2) hx hb dX13_signAt_479 (by decide) ?_
      refine lv_goto (tgt := 484) hx hb dX13_signAt_480 (by decide) ?_
      have hr0 := Option.some.inj hsp
      clear hsp
      subst hr0
      have hP9 := hP.sub (ws' := [(h0, .inr (13, z474)), (qf2, .inl (cf2, 3000, .inl f2))]) [0, 1] rfl
      have hD9 := hD.sub (ws' := [(h0, .inr (13, z474)), (qf2, .inl (cf2, 3000, .inl f2))]) [0, 1] (by decide) rfl
      have hK9 := hK.sub (tys' := [(cf2, .int)]) [0] rfl
      exact W.iret hx hb hr (fun t ht hW => ⟨⟨(2), (z474), rfl, ⟨rfl, hlh_474, hrh_474⟩, by rw [ht]; exact hP9, va_K.moved hW.alike hK9, hD9⟩, hS.F ht⟩) hS.2.2 dX13_signAt_484
  intro hj_474
  refine jn_use (α := Heap × List Loc × Array Slot × List Value × Int32) (fun x9 => x9.1) (fun x9 => x9.2.1) (fun x9 => F0 m 406 x9.2.2.1 []) (fun x9 => match x9 with | (H, locs, ls, z406, l3_406) => lv_has ls 4 [(3, .int l3_406)] ∧ va_S A s.heap H locs ∧ va_D A [(h0, .inr (13, z406)), (qf2, .inl (cf2, 3000, .inl f2))] ∧ va_P (dC, dI) vwCl [(h0, .inr (13, z406)), (qf2, .inl (cf2, 3000, .inl f2))] H ∧ z406[2]? = some (.ref qf2) ∧ z406[3]? = some (.int v3) ∧ z406.length = 155 ∧ (∀ j : Nat, z406[j]? = zs[j]?) ∧ jn_vm_signAt_406 nf a1 v3 f2 l3_406 = some r0) ?_ ?_
  · intro x9 hJ9
    obtain ⟨H, locs, ls, z406, l3_406⟩ := x9
    obtain ⟨hl, hS, hD, hP, hfh_406_2, hfh_406_3, hlh_406, hrh_406, hsp⟩ := hJ9
    replace hl : lv_has ls 4 [(3, .int l3_406)] := hl
    replace hS : va_S A s.heap H locs := hS
    replace hD : va_D A [(h0, .inr (13, z406)), (qf2, .inl (cf2, 3000, .inl f2))] := hD
    replace hP : va_P (dC, dI) vwCl [(h0, .inr (13, z406)), (qf2, .inl (cf2, 3000, .inl f2))] H := hP
    replace hsp : jn_vm_signAt_406 nf a1 v3 f2 l3_406 = some r0 := hsp
    show W _ _ _ _ _ _ _ _ _ _ H locs _ _ _ (F0 m 406 ls [])
    unfold jn_vm_signAt_406 at hsp
    try dsimp only at hsp
    refine lv_iload_n hx hb dX13_signAt_406 rfl (lv_at hl 0 rfl) ?_
    refine lv_bipush (v := 61) hx hb dX13_signAt_407 (by decide) ?_
    refine lv_icmp_ne (tgt := 416) hx hb dX13_signAt_409 (by decide) (fun c_103 => ?_) (fun c_103 => ?_)
    · rw [if_neg c_103] at hsp
      refine lv_iconst (v := 1) hx hb dX13_signAt_416 (by decide) ?_
      have hr0 := Option.some.inj hsp
      clear hsp
      subst hr0
      have hP9 := hP.sub (ws' := [(h0, .inr (13, z406)), (qf2, .inl (cf2, 3000, .inl f2))]) [0, 1] rfl
      have hD9 := hD.sub (ws' := [(h0, .inr (13, z406)), (qf2, .inl (cf2, 3000, .inl f2))]) [0, 1] (by decide) rfl
      have hK9 := hK.sub (tys' := [(cf2, .int)]) [0] rfl
      exact W.iret hx hb hr (fun t ht hW => ⟨⟨(1), (z406), rfl, ⟨rfl, hlh_406, hrh_406⟩, by rw [ht]; exact hP9, va_K.moved hW.alike hK9, hD9⟩, hS.F ht⟩) hS.2.2 dX13_signAt_417
    · rw [if_pos c_103] at hsp
      refine lv_iconst (v := 2) hx hb dX13_signAt_412 (by decide) ?_
      refine lv_goto (tgt := 417) hx hb dX13_signAt_413 (by decide) ?_
      have hr0 := Option.some.inj hsp
      clear hsp
      subst hr0
      have hP9 := hP.sub (ws' := [(h0, .inr (13, z406)), (qf2, .inl (cf2, 3000, .inl f2))]) [0, 1] rfl
      have hD9 := hD.sub (ws' := [(h0, .inr (13, z406)), (qf2, .inl (cf2, 3000, .inl f2))]) [0, 1] (by decide) rfl
      have hK9 := hK.sub (tys' := [(cf2, .int)]) [0] rfl
      exact W.iret hx hb hr (fun t ht hW => ⟨⟨(2), (z406), rfl, ⟨rfl, hlh_406, hrh_406⟩, by rw [ht]; exact hP9, va_K.moved hW.alike hK9, hD9⟩, hS.F ht⟩) hS.2.2 dX13_signAt_417
  intro hj_406
  refine jn_use (α := Heap × List Loc × Array Slot × List Value) (fun x9 => x9.1) (fun x9 => x9.2.1) (fun x9 => F0 m 404 x9.2.2.1 []) (fun x9 => match x9 with | (H, locs, ls, z404) => lv_has ls 4 [] ∧ va_S A s.heap H locs ∧ va_D A [(h0, .inr (13, z404)), (qf2, .inl (cf2, 3000, .inl f2))] ∧ va_P (dC, dI) vwCl [(h0, .inr (13, z404)), (qf2, .inl (cf2, 3000, .inl f2))] H ∧ z404[2]? = some (.ref qf2) ∧ z404[3]? = some (.int v3) ∧ z404.length = 155 ∧ (∀ j : Nat, z404[j]? = zs[j]?) ∧ jn_vm_signAt_404 nf a1 v3 f2  = some r0) ?_ ?_
  · intro x9 hJ9
    obtain ⟨H, locs, ls, z404⟩ := x9
    obtain ⟨hl, hS, hD, hP, hfh_404_2, hfh_404_3, hlh_404, hrh_404, hsp⟩ := hJ9
    replace hl : lv_has ls 4 [] := hl
    replace hS : va_S A s.heap H locs := hS
    replace hD : va_D A [(h0, .inr (13, z404)), (qf2, .inl (cf2, 3000, .inl f2))] := hD
    replace hP : va_P (dC, dI) vwCl [(h0, .inr (13, z404)), (qf2, .inl (cf2, 3000, .inl f2))] H := hP
    replace hsp : jn_vm_signAt_404 nf a1 v3 f2  = some r0 := hsp
    show W _ _ _ _ _ _ _ _ _ _ H locs _ _ _ (F0 m 404 ls [])
    unfold jn_vm_signAt_404 at hsp
    try dsimp only at hsp
    refine lv_iconst (v := 1) hx hb dX13_signAt_404 (by decide) ?_
    have hr0 := Option.some.inj hsp
    clear hsp
    subst hr0
    have hP9 := hP.sub (ws' := [(h0, .inr (13, z404)), (qf2, .inl (cf2, 3000, .inl f2))]) [0, 1] rfl
    have hD9 := hD.sub (ws' := [(h0, .inr (13, z404)), (qf2, .inl (cf2, 3000, .inl f2))]) [0, 1] (by decide) rfl
    have hK9 := hK.sub (tys' := [(cf2, .int)]) [0] rfl
    exact W.iret hx hb hr (fun t ht hW => ⟨⟨(1), (z404), rfl, ⟨rfl, hlh_404, hrh_404⟩, by rw [ht]; exact hP9, va_K.moved hW.alike hK9, hD9⟩, hS.F ht⟩) hS.2.2 dX13_signAt_405
  intro hj_404
  refine lv_aload_n hx hb dX13_signAt_0 rfl (lv_at hl 0 rfl) ?_
  refine lv_iload_n hx hb dX13_signAt_1 rfl (lv_at hl 1 rfl) ?_
  obtain ⟨u1_0, hu_1, hsp⟩ := ox_bind hsp
  try dsimp only at hsp
  have hPc := hP.sub (ws' := [(h0, .inr (13, zs)), (qf2, .inl (cf2, 3000, .inl f2))]) [0, 1] rfl
  have hDc := hD.sub (ws' := [(h0, .inr (13, zs)), (qf2, .inl (cf2, 3000, .inl f2))]) [0, 1] (by decide) rfl
  have hKc := hK.sub (tys' := [(cf2, .int)]) [0] rfl
  have hFc := va_free (wc := [(h0, .inr (13, zs)), (qf2, .inl (cf2, 3000, .inl f2))]) hD hS hA [0, 1] rfl
  refine va_calli (va_runV (As := [.int a1]) (rest := []) ⟨hx, hb, hml, hown, hts⟩ (tm_at l dC dI H.size h0 zs a1 qf2 v3 cf2 f2 nf u1_0 hlen hf2 hf3 hu_1) (cwV 1 hts gv_h9_2 rfl rfl rfl (by decide +kernel) ⟨Nat.le_of_ble_eq_true rfl, Nat.le_of_ble_eq_true rfl⟩) ⟨fun a U g mk q => by obtain ⟨q0, q1, qP, qK, qD⟩ := q; exact ⟨q0, q1, qP, va_K.moved (u := U) (U := U.calling g mk a) (Vm.Alike.refl U.vm) qK, qD⟩, va_recv hKc hPc (ci := 13) (q0 := 0) rfl rfl, fun U hU hW => ⟨rfl, by rw [hU], by rw [hU]; exact hPc, va_K.moved hW.alike hKc, hDc.weaken (fun _ _ _ _ => trivial)⟩⟩ rfl rfl hl.1 rfl (lv_room (Nat.le_of_ble_eq_true rfl)) dX13_signAt_2 ⟨Nat.le_of_ble_eq_true rfl, Nat.le_of_ble_eq_true rfl⟩) hS (fun q _ h => hFc q h) hFc ?_
  clear hS
  intro r_1 u t H1 locs ht hvm hw hB hz1 hk1 hS
  obtain ⟨z_1, rfl⟩ : ∃ z, z = u := ⟨_, rfl⟩
  obtain ⟨hP1, hK1, hD1⟩ := hB
  rw [ht] at hP1
  have hK1 := va_K.moved hvm.symm hK1
  try dsimp only at hw
  have hPD := va_join (wr := []) (w1 := [(h0, .inr (13, z_1)), (qf2, .inl (cf2, 3000, .inl f2))]) hP hD [0, 1] [] rfl rfl (by decide) (by decide) hk1 hFc hP1 hD1
  clear hP hD
  obtain ⟨hP, hD⟩ := hPD
  replace hK := (hK.sub (tys' := []) [] rfl).app hK1
  clear hPc hDc hKc hFc hP1 hK1 hD1 hz1 hk1 ht hvm
  generalize H1 = H at hP hS ⊢
  replace hP : va_P (dC, dI) vwCl [(h0, .inr (13, z_1)), (qf2, .inl (cf2, 3000, .inl f2))] H := hP
  replace hD : va_D A [(h0, .inr (13, z_1)), (qf2, .inl (cf2, 3000, .inl f2))] := hD
  replace hK : va_K (dC, dI) vwCl [(cf2, .int)] s := hK
  obtain ⟨hwa_1, hln_1, hre_1⟩ := hw
  have hfk_1_2 : z_1[2]? = some (.ref qf2) := (hre_1 2 ).trans (hf2)
  have hfk_1_3 : z_1[3]? = some (.int v3) := (hre_1 3 ).trans (hf3)
  have hrq_1 : ∀ j : Nat, z_1[j]? = zs[j]? := fun j  => (hre_1 j ).trans (hrs0 j )
  obtain rfl := hwa_1
  refine lv_istore_n (lv' := [(2, .int u1_0), (0, .ref h0), (1, .int a1)]) hx hb dX13_signAt_5 rfl hl (by decide) rfl (fun ls hl => ?_)
  refine lv_aload_n hx hb dX13_signAt_6 rfl (lv_at hl 1 rfl) ?_
  refine lv_iload_n hx hb dX13_signAt_7 rfl (lv_at hl 2 rfl) ?_
  refine lv_iconst (v := 1) hx hb dX13_signAt_8 (by decide) ?_
  refine lv_iadd hx hb dX13_signAt_9 ?_
  obtain ⟨u2_0, hu_2, hsp⟩ := ox_bind hsp
  try dsimp only at hsp
  have hPc := hP.sub (ws' := [(h0, .inr (13, z_1)), (qf2, .inl (cf2, 3000, .inl f2))]) [0, 1] rfl
  have hDc := hD.sub (ws' := [(h0, .inr (13, z_1)), (qf2, .inl (cf2, 3000, .inl f2))]) [0, 1] (by decide) rfl
  have hKc := hK.sub (tys' := [(cf2, .int)]) [0] rfl
  have hFc := va_free (wc := [(h0, .inr (13, z_1)), (qf2, .inl (cf2, 3000, .inl f2))]) hD hS hA [0, 1] rfl
  refine va_calli (va_runV (As := [.int (a1 + 1)]) (rest := []) ⟨hx, hb, hml, hown, hts⟩ (tm_at l dC dI H.size h0 z_1 ((a1 + 1)) qf2 v3 cf2 f2 nf u2_0 hln_1 hfk_1_2 hfk_1_3 hu_2) (cwV 1 hts gv_h9_2 rfl rfl rfl (by decide +kernel) ⟨Nat.le_of_ble_eq_true rfl, Nat.le_of_ble_eq_true rfl⟩) ⟨fun a U g mk q => by obtain ⟨q0, q1, qP, qK, qD⟩ := q; exact ⟨q0, q1, qP, va_K.moved (u := U) (U := U.calling g mk a) (Vm.Alike.refl U.vm) qK, qD⟩, va_recv hKc hPc (ci := 13) (q0 := 0) rfl rfl, fun U hU hW => ⟨rfl, by rw [hU], by rw [hU]; exact hPc, va_K.moved hW.alike hKc, hDc.weaken (fun _ _ _ _ => trivial)⟩⟩ rfl rfl hl.1 rfl (lv_room (Nat.le_of_ble_eq_true rfl)) dX13_signAt_10 ⟨Nat.le_of_ble_eq_true rfl, Nat.le_of_ble_eq_true rfl⟩) hS (fun q _ h => hFc q h) hFc ?_
  clear hS
  intro r_2 u t H1 locs ht hvm hw hB hz1 hk1 hS
  obtain ⟨z_2, rfl⟩ : ∃ z, z = u := ⟨_, rfl⟩
  obtain ⟨hP1, hK1, hD1⟩ := hB
  rw [ht] at hP1
  have hK1 := va_K.moved hvm.symm hK1
  try dsimp only at hw
  have hPD := va_join (wr := []) (w1 := [(h0, .inr (13, z_2)), (qf2, .inl (cf2, 3000, .inl f2))]) hP hD [0, 1] [] rfl rfl (by decide) (by decide) hk1 hFc hP1 hD1
  clear hP hD
  obtain ⟨hP, hD⟩ := hPD
  replace hK := (hK.sub (tys' := []) [] rfl).app hK1
  clear hPc hDc hKc hFc hP1 hK1 hD1 hz1 hk1 ht hvm
  generalize H1 = H at hP hS ⊢
  replace hP : va_P (dC, dI) vwCl [(h0, .inr (13, z_2)), (qf2, .inl (cf2, 3000, .inl f2))] H := hP
  replace hD : va_D A [(h0, .inr (13, z_2)), (qf2, .inl (cf2, 3000, .inl f2))] := hD
  replace hK : va_K (dC, dI) vwCl [(cf2, .int)] s := hK
  obtain ⟨hwa_2, hln_2, hre_2⟩ := hw
  have hfk_2_2 : z_2[2]? = some (.ref qf2) := (hre_2 2 ).trans (hfk_1_2)
  have hfk_2_3 : z_2[3]? = some (.int v3) := (hre_2 3 ).trans (hfk_1_3)
  have hrq_2 : ∀ j : Nat, z_2[j]? = zs[j]? := fun j  => (hre_2 j ).trans (hrq_1 j )
  obtain rfl := hwa_2
  refine lv_istore_n (lv' := [(3, .int u2_0), (2, .int u1_0), (0, .ref h0), (1, .int a1)]) hx hb dX13_signAt_13 rfl hl (by decide) rfl (fun ls hl => ?_)
  refine lv_iload_n hx hb dX13_signAt_14 rfl (lv_at hl 1 rfl) ?_
  by_cases hs_3 : u1_0 = 33
  · rw [if_pos hs_3] at hsp
    refine lv_tableIn (tgt := 406) hx hb dX13_signAt_15 (by rw [hs_3]; decide) (by rw [hs_3]; decide) (off := 391) (by rw [hs_3]; rfl) (by decide) ?_
    exact hj_406 (H, locs, ls, z_2, u2_0) ⟨lv_sub hl [0] rfl, hS, hD.sub (ws' := [(h0, .inr (13, z_2)), (qf2, .inl (cf2, 3000, .inl f2))]) [0, 1] (by decide) rfl, hP.sub (ws' := [(h0, .inr (13, z_2)), (qf2, .inl (cf2, 3000, .inl f2))]) [0, 1] rfl, hfk_2_2, hfk_2_3, hln_2, hrq_2, hsp⟩
  rw [if_neg hs_3] at hsp
  by_cases hs_4 : u1_0 = 34
  · rw [if_pos hs_4] at hsp
    refine lv_tableIn (tgt := 485) hx hb dX13_signAt_15 (by rw [hs_4]; decide) (by rw [hs_4]; decide) (off := 470) (by rw [hs_4]; rfl) (by decide) ?_
    exact hj_485 (H, locs, ls, z_2) ⟨lv_sub hl [] rfl, hS, hD.sub (ws' := [(h0, .inr (13, z_2)), (qf2, .inl (cf2, 3000, .inl f2))]) [0, 1] (by decide) rfl, hP.sub (ws' := [(h0, .inr (13, z_2)), (qf2, .inl (cf2, 3000, .inl f2))]) [0, 1] rfl, hfk_2_2, hfk_2_3, hln_2, hrq_2, hsp⟩
  rw [if_neg hs_4] at hsp
  by_cases hs_5 : u1_0 = 35
  · rw [if_pos hs_5] at hsp
    refine lv_tableIn (tgt := 485) hx hb dX13_signAt_15 (by rw [hs_5]; decide) (by rw [hs_5]; decide) (off := 470) (by rw [hs_5]; rfl) (by decide) ?_
    exact hj_485 (H, locs, ls, z_2) ⟨lv_sub hl [] rfl, hS, hD.sub (ws' := [(h0, .inr (13, z_2)), (qf2, .inl (cf2, 3000, .inl f2))]) [0, 1] (by decide) rfl, hP.sub (ws' := [(h0, .inr (13, z_2)), (qf2, .inl (cf2, 3000, .inl f2))]) [0, 1] rfl, hfk_2_2, hfk_2_3, hln_2, hrq_2, hsp⟩
  rw [if_neg hs_5] at hsp
  by_cases hs_6 : u1_0 = 36
  · rw [if_pos hs_6] at hsp
    refine lv_tableIn (tgt := 485) hx hb dX13_signAt_15 (by rw [hs_6]; decide) (by rw [hs_6]; decide) (off := 470) (by rw [hs_6]; rfl) (by decide) ?_
    exact hj_485 (H, locs, ls, z_2) ⟨lv_sub hl [] rfl, hS, hD.sub (ws' := [(h0, .inr (13, z_2)), (qf2, .inl (cf2, 3000, .inl f2))]) [0, 1] (by decide) rfl, hP.sub (ws' := [(h0, .inr (13, z_2)), (qf2, .inl (cf2, 3000, .inl f2))]) [0, 1] rfl, hfk_2_2, hfk_2_3, hln_2, hrq_2, hsp⟩
  rw [if_neg hs_6] at hsp
  by_cases hs_7 : u1_0 = 37
  · rw [if_pos hs_7] at hsp
    refine lv_tableIn (tgt := 404) hx hb dX13_signAt_15 (by rw [hs_7]; decide) (by rw [hs_7]; decide) (off := 389) (by rw [hs_7]; rfl) (by decide) ?_
    exact hj_404 (H, locs, ls, z_2) ⟨lv_sub hl [] rfl, hS, hD.sub (ws' := [(h0, .inr (13, z_2)), (qf2, .inl (cf2, 3000, .inl f2))]) [0, 1] (by decide) rfl, hP.sub (ws' := [(h0, .inr (13, z_2)), (qf2, .inl (cf2, 3000, .inl f2))]) [0, 1] rfl, hfk_2_2, hfk_2_3, hln_2, hrq_2, hsp⟩
  rw [if_neg hs_7] at hsp
  by_cases hs_8 : u1_0 = 38
  · rw [if_pos hs_8] at hsp
    refine lv_tableIn (tgt := 474) hx hb dX13_signAt_15 (by rw [hs_8]; decide) (by rw [hs_8]; decide) (off := 459) (by rw [hs_8]; rfl) (by decide) ?_
    exact hj_474 (H, locs, ls, z_2, u1_0, u2_0) ⟨lv_sub hl [1, 0] rfl, hS, hD.sub (ws' := [(h0, .inr (13, z_2)), (qf2, .inl (cf2, 3000, .inl f2))]) [0, 1] (by decide) rfl, hP.sub (ws' := [(h0, .inr (13, z_2)), (qf2, .inl (cf2, 3000, .inl f2))]) [0, 1] rfl, hfk_2_2, hfk_2_3, hln_2, hrq_2, hsp⟩
  rw [if_neg hs_8] at hsp
  by_cases hs_9 : u1_0 = 39
  · rw [if_pos hs_9] at hsp
    refine lv_tableIn (tgt := 485) hx hb dX13_signAt_15 (by rw [hs_9]; decide) (by rw [hs_9]; decide) (off := 470) (by rw [hs_9]; rfl) (by decide) ?_
    exact hj_485 (H, locs, ls, z_2) ⟨lv_sub hl [] rfl, hS, hD.sub (ws' := [(h0, .inr (13, z_2)), (qf2, .inl (cf2, 3000, .inl f2))]) [0, 1] (by decide) rfl, hP.sub (ws' := [(h0, .inr (13, z_2)), (qf2, .inl (cf2, 3000, .inl f2))]) [0, 1] rfl, hfk_2_2, hfk_2_3, hln_2, hrq_2, hsp⟩
  rw [if_neg hs_9] at hsp
  by_cases hs_10 : u1_0 = 40
  · rw [if_pos hs_10] at hsp
    refine lv_tableIn (tgt := 404) hx hb dX13_signAt_15 (by rw [hs_10]; decide) (by rw [hs_10]; decide) (off := 389) (by rw [hs_10]; rfl) (by decide) ?_
    exact hj_404 (H, locs, ls, z_2) ⟨lv_sub hl [] rfl, hS, hD.sub (ws' := [(h0, .inr (13, z_2)), (qf2, .inl (cf2, 3000, .inl f2))]) [0, 1] (by decide) rfl, hP.sub (ws' := [(h0, .inr (13, z_2)), (qf2, .inl (cf2, 3000, .inl f2))]) [0, 1] rfl, hfk_2_2, hfk_2_3, hln_2, hrq_2, hsp⟩
  rw [if_neg hs_10] at hsp
  by_cases hs_11 : u1_0 = 41
  · rw [if_pos hs_11] at hsp
    refine lv_tableIn (tgt := 404) hx hb dX13_signAt_15 (by rw [hs_11]; decide) (by rw [hs_11]; decide) (off := 389) (by rw [hs_11]; rfl) (by decide) ?_
    exact hj_404 (H, locs, ls, z_2) ⟨lv_sub hl [] rfl, hS, hD.sub (ws' := [(h0, .inr (13, z_2)), (qf2, .inl (cf2, 3000, .inl f2))]) [0, 1] (by decide) rfl, hP.sub (ws' := [(h0, .inr (13, z_2)), (qf2, .inl (cf2, 3000, .inl f2))]) [0, 1] rfl, hfk_2_2, hfk_2_3, hln_2, hrq_2, hsp⟩
  rw [if_neg hs_11] at hsp
  by_cases hs_12 : u1_0 = 42
  · rw [if_pos hs_12] at hsp
    refine lv_tableIn (tgt := 404) hx hb dX13_signAt_15 (by rw [hs_12]; decide) (by rw [hs_12]; decide) (off := 389) (by rw [hs_12]; rfl) (by decide) ?_
    exact hj_404 (H, locs, ls, z_2) ⟨lv_sub hl [] rfl, hS, hD.sub (ws' := [(h0, .inr (13, z_2)), (qf2, .inl (cf2, 3000, .inl f2))]) [0, 1] (by decide) rfl, hP.sub (ws' := [(h0, .inr (13, z_2)), (qf2, .inl (cf2, 3000, .inl f2))]) [0, 1] rfl, hfk_2_2, hfk_2_3, hln_2, hrq_2, hsp⟩
  rw [if_neg hs_12] at hsp
  by_cases hs_13 : u1_0 = 43
  · rw [if_pos hs_13] at hsp
    refine lv_tableIn (tgt := 404) hx hb dX13_signAt_15 (by rw [hs_13]; decide) (by rw [hs_13]; decide) (off := 389) (by rw [hs_13]; rfl) (by decide) ?_
    exact hj_404 (H, locs, ls, z_2) ⟨lv_sub hl [] rfl, hS, hD.sub (ws' := [(h0, .inr (13, z_2)), (qf2, .inl (cf2, 3000, .inl f2))]) [0, 1] (by decide) rfl, hP.sub (ws' := [(h0, .inr (13, z_2)), (qf2, .inl (cf2, 3000, .inl f2))]) [0, 1] rfl, hfk_2_2, hfk_2_3, hln_2, hrq_2, hsp⟩
  rw [if_neg hs_13] at hsp
  by_cases hs_14 : u1_0 = 44
  · rw [if_pos hs_14] at hsp
    refine lv_tableIn (tgt := 404) hx hb dX13_signAt_15 (by rw [hs_14]; decide) (by rw [hs_14]; decide) (off := 389) (by rw [hs_14]; rfl) (by decide) ?_
    exact hj_404 (H, locs, ls, z_2) ⟨lv_sub hl [] rfl, hS, hD.sub (ws' := [(h0, .inr (13, z_2)), (qf2, .inl (cf2, 3000, .inl f2))]) [0, 1] (by decide) rfl, hP.sub (ws' := [(h0, .inr (13, z_2)), (qf2, .inl (cf2, 3000, .inl f2))]) [0, 1] rfl, hfk_2_2, hfk_2_3, hln_2, hrq_2, hsp⟩
  rw [if_neg hs_14] at hsp
  by_cases hs_15 : u1_0 = 45
  · rw [if_pos hs_15] at hsp
    refine lv_tableIn (tgt := 404) hx hb dX13_signAt_15 (by rw [hs_15]; decide) (by rw [hs_15]; decide) (off := 389) (by rw [hs_15]; rfl) (by decide) ?_
    exact hj_404 (H, locs, ls, z_2) ⟨lv_sub hl [] rfl, hS, hD.sub (ws' := [(h0, .inr (13, z_2)), (qf2, .inl (cf2, 3000, .inl f2))]) [0, 1] (by decide) rfl, hP.sub (ws' := [(h0, .inr (13, z_2)), (qf2, .inl (cf2, 3000, .inl f2))]) [0, 1] rfl, hfk_2_2, hfk_2_3, hln_2, hrq_2, hsp⟩
  rw [if_neg hs_15] at hsp
  by_cases hs_16 : u1_0 = 46
  · rw [if_pos hs_16] at hsp
    refine lv_tableIn (tgt := 404) hx hb dX13_signAt_15 (by rw [hs_16]; decide) (by rw [hs_16]; decide) (off := 389) (by rw [hs_16]; rfl) (by decide) ?_
    exact hj_404 (H, locs, ls, z_2) ⟨lv_sub hl [] rfl, hS, hD.sub (ws' := [(h0, .inr (13, z_2)), (qf2, .inl (cf2, 3000, .inl f2))]) [0, 1] (by decide) rfl, hP.sub (ws' := [(h0, .inr (13, z_2)), (qf2, .inl (cf2, 3000, .inl f2))]) [0, 1] rfl, hfk_2_2, hfk_2_3, hln_2, hrq_2, hsp⟩
  rw [if_neg hs_16] at hsp
  by_cases hs_17 : u1_0 = 47
  · rw [if_pos hs_17] at hsp
    refine lv_tableIn (tgt := 404) hx hb dX13_signAt_15 (by rw [hs_17]; decide) (by rw [hs_17]; decide) (off := 389) (by rw [hs_17]; rfl) (by decide) ?_
    exact hj_404 (H, locs, ls, z_2) ⟨lv_sub hl [] rfl, hS, hD.sub (ws' := [(h0, .inr (13, z_2)), (qf2, .inl (cf2, 3000, .inl f2))]) [0, 1] (by decide) rfl, hP.sub (ws' := [(h0, .inr (13, z_2)), (qf2, .inl (cf2, 3000, .inl f2))]) [0, 1] rfl, hfk_2_2, hfk_2_3, hln_2, hrq_2, hsp⟩
  rw [if_neg hs_17] at hsp
  by_cases hs_18 : u1_0 = 48
  · rw [if_pos hs_18] at hsp
    refine lv_tableIn (tgt := 485) hx hb dX13_signAt_15 (by rw [hs_18]; decide) (by rw [hs_18]; decide) (off := 470) (by rw [hs_18]; rfl) (by decide) ?_
    exact hj_485 (H, locs, ls, z_2) ⟨lv_sub hl [] rfl, hS, hD.sub (ws' := [(h0, .inr (13, z_2)), (qf2, .inl (cf2, 3000, .inl f2))]) [0, 1] (by decide) rfl, hP.sub (ws' := [(h0, .inr (13, z_2)), (qf2, .inl (cf2, 3000, .inl f2))]) [0, 1] rfl, hfk_2_2, hfk_2_3, hln_2, hrq_2, hsp⟩
  rw [if_neg hs_18] at hsp
  by_cases hs_19 : u1_0 = 49
  · rw [if_pos hs_19] at hsp
    refine lv_tableIn (tgt := 485) hx hb dX13_signAt_15 (by rw [hs_19]; decide) (by rw [hs_19]; decide) (off := 470) (by rw [hs_19]; rfl) (by decide) ?_
    exact hj_485 (H, locs, ls, z_2) ⟨lv_sub hl [] rfl, hS, hD.sub (ws' := [(h0, .inr (13, z_2)), (qf2, .inl (cf2, 3000, .inl f2))]) [0, 1] (by decide) rfl, hP.sub (ws' := [(h0, .inr (13, z_2)), (qf2, .inl (cf2, 3000, .inl f2))]) [0, 1] rfl, hfk_2_2, hfk_2_3, hln_2, hrq_2, hsp⟩
  rw [if_neg hs_19] at hsp
  by_cases hs_20 : u1_0 = 50
  · rw [if_pos hs_20] at hsp
    refine lv_tableIn (tgt := 485) hx hb dX13_signAt_15 (by rw [hs_20]; decide) (by rw [hs_20]; decide) (off := 470) (by rw [hs_20]; rfl) (by decide) ?_
    exact hj_485 (H, locs, ls, z_2) ⟨lv_sub hl [] rfl, hS, hD.sub (ws' := [(h0, .inr (13, z_2)), (qf2, .inl (cf2, 3000, .inl f2))]) [0, 1] (by decide) rfl, hP.sub (ws' := [(h0, .inr (13, z_2)), (qf2, .inl (cf2, 3000, .inl f2))]) [0, 1] rfl, hfk_2_2, hfk_2_3, hln_2, hrq_2, hsp⟩
  rw [if_neg hs_20] at hsp
  by_cases hs_21 : u1_0 = 51
  · rw [if_pos hs_21] at hsp
    refine lv_tableIn (tgt := 485) hx hb dX13_signAt_15 (by rw [hs_21]; decide) (by rw [hs_21]; decide) (off := 470) (by rw [hs_21]; rfl) (by decide) ?_
    exact hj_485 (H, locs, ls, z_2) ⟨lv_sub hl [] rfl, hS, hD.sub (ws' := [(h0, .inr (13, z_2)), (qf2, .inl (cf2, 3000, .inl f2))]) [0, 1] (by decide) rfl, hP.sub (ws' := [(h0, .inr (13, z_2)), (qf2, .inl (cf2, 3000, .inl f2))]) [0, 1] rfl, hfk_2_2, hfk_2_3, hln_2, hrq_2, hsp⟩
  rw [if_neg hs_21] at hsp
  by_cases hs_22 : u1_0 = 52
  · rw [if_pos hs_22] at hsp
    refine lv_tableIn (tgt := 485) hx hb dX13_signAt_15 (by rw [hs_22]; decide) (by rw [hs_22]; decide) (off := 470) (by rw [hs_22]; rfl) (by decide) ?_
    exact hj_485 (H, locs, ls, z_2) ⟨lv_sub hl [] rfl, hS, hD.sub (ws' := [(h0, .inr (13, z_2)), (qf2, .inl (cf2, 3000, .inl f2))]) [0, 1] (by decide) rfl, hP.sub (ws' := [(h0, .inr (13, z_2)), (qf2, .inl (cf2, 3000, .inl f2))]) [0, 1] rfl, hfk_2_2, hfk_2_3, hln_2, hrq_2, hsp⟩
  rw [if_neg hs_22] at hsp
  by_cases hs_23 : u1_0 = 53
  · rw [if_pos hs_23] at hsp
    refine lv_tableIn (tgt := 485) hx hb dX13_signAt_15 (by rw [hs_23]; decide) (by rw [hs_23]; decide) (off := 470) (by rw [hs_23]; rfl) (by decide) ?_
    exact hj_485 (H, locs, ls, z_2) ⟨lv_sub hl [] rfl, hS, hD.sub (ws' := [(h0, .inr (13, z_2)), (qf2, .inl (cf2, 3000, .inl f2))]) [0, 1] (by decide) rfl, hP.sub (ws' := [(h0, .inr (13, z_2)), (qf2, .inl (cf2, 3000, .inl f2))]) [0, 1] rfl, hfk_2_2, hfk_2_3, hln_2, hrq_2, hsp⟩
  rw [if_neg hs_23] at hsp
  by_cases hs_24 : u1_0 = 54
  · rw [if_pos hs_24] at hsp
    refine lv_tableIn (tgt := 485) hx hb dX13_signAt_15 (by rw [hs_24]; decide) (by rw [hs_24]; decide) (off := 470) (by rw [hs_24]; rfl) (by decide) ?_
    exact hj_485 (H, locs, ls, z_2) ⟨lv_sub hl [] rfl, hS, hD.sub (ws' := [(h0, .inr (13, z_2)), (qf2, .inl (cf2, 3000, .inl f2))]) [0, 1] (by decide) rfl, hP.sub (ws' := [(h0, .inr (13, z_2)), (qf2, .inl (cf2, 3000, .inl f2))]) [0, 1] rfl, hfk_2_2, hfk_2_3, hln_2, hrq_2, hsp⟩
  rw [if_neg hs_24] at hsp
  by_cases hs_25 : u1_0 = 55
  · rw [if_pos hs_25] at hsp
    refine lv_tableIn (tgt := 485) hx hb dX13_signAt_15 (by rw [hs_25]; decide) (by rw [hs_25]; decide) (off := 470) (by rw [hs_25]; rfl) (by decide) ?_
    exact hj_485 (H, locs, ls, z_2) ⟨lv_sub hl [] rfl, hS, hD.sub (ws' := [(h0, .inr (13, z_2)), (qf2, .inl (cf2, 3000, .inl f2))]) [0, 1] (by decide) rfl, hP.sub (ws' := [(h0, .inr (13, z_2)), (qf2, .inl (cf2, 3000, .inl f2))]) [0, 1] rfl, hfk_2_2, hfk_2_3, hln_2, hrq_2, hsp⟩
  rw [if_neg hs_25] at hsp
  by_cases hs_26 : u1_0 = 56
  · rw [if_pos hs_26] at hsp
    refine lv_tableIn (tgt := 485) hx hb dX13_signAt_15 (by rw [hs_26]; decide) (by rw [hs_26]; decide) (off := 470) (by rw [hs_26]; rfl) (by decide) ?_
    exact hj_485 (H, locs, ls, z_2) ⟨lv_sub hl [] rfl, hS, hD.sub (ws' := [(h0, .inr (13, z_2)), (qf2, .inl (cf2, 3000, .inl f2))]) [0, 1] (by decide) rfl, hP.sub (ws' := [(h0, .inr (13, z_2)), (qf2, .inl (cf2, 3000, .inl f2))]) [0, 1] rfl, hfk_2_2, hfk_2_3, hln_2, hrq_2, hsp⟩
  rw [if_neg hs_26] at hsp
  by_cases hs_27 : u1_0 = 57
  · rw [if_pos hs_27] at hsp
    refine lv_tableIn (tgt := 485) hx hb dX13_signAt_15 (by rw [hs_27]; decide) (by rw [hs_27]; decide) (off := 470) (by rw [hs_27]; rfl) (by decide) ?_
    exact hj_485 (H, locs, ls, z_2) ⟨lv_sub hl [] rfl, hS, hD.sub (ws' := [(h0, .inr (13, z_2)), (qf2, .inl (cf2, 3000, .inl f2))]) [0, 1] (by decide) rfl, hP.sub (ws' := [(h0, .inr (13, z_2)), (qf2, .inl (cf2, 3000, .inl f2))]) [0, 1] rfl, hfk_2_2, hfk_2_3, hln_2, hrq_2, hsp⟩
  rw [if_neg hs_27] at hsp
  by_cases hs_28 : u1_0 = 58
  · rw [if_pos hs_28] at hsp
    refine lv_tableIn (tgt := 404) hx hb dX13_signAt_15 (by rw [hs_28]; decide) (by rw [hs_28]; decide) (off := 389) (by rw [hs_28]; rfl) (by decide) ?_
    exact hj_404 (H, locs, ls, z_2) ⟨lv_sub hl [] rfl, hS, hD.sub (ws' := [(h0, .inr (13, z_2)), (qf2, .inl (cf2, 3000, .inl f2))]) [0, 1] (by decide) rfl, hP.sub (ws' := [(h0, .inr (13, z_2)), (qf2, .inl (cf2, 3000, .inl f2))]) [0, 1] rfl, hfk_2_2, hfk_2_3, hln_2, hrq_2, hsp⟩
  rw [if_neg hs_28] at hsp
  by_cases hs_29 : u1_0 = 59
  · rw [if_pos hs_29] at hsp
    refine lv_tableIn (tgt := 404) hx hb dX13_signAt_15 (by rw [hs_29]; decide) (by rw [hs_29]; decide) (off := 389) (by rw [hs_29]; rfl) (by decide) ?_
    exact hj_404 (H, locs, ls, z_2) ⟨lv_sub hl [] rfl, hS, hD.sub (ws' := [(h0, .inr (13, z_2)), (qf2, .inl (cf2, 3000, .inl f2))]) [0, 1] (by decide) rfl, hP.sub (ws' := [(h0, .inr (13, z_2)), (qf2, .inl (cf2, 3000, .inl f2))]) [0, 1] rfl, hfk_2_2, hfk_2_3, hln_2, hrq_2, hsp⟩
  rw [if_neg hs_29] at hsp
  by_cases hs_30 : u1_0 = 60
  · rw [if_pos hs_30] at hsp
    refine lv_tableIn (tgt := 418) hx hb dX13_signAt_15 (by rw [hs_30]; decide) (by rw [hs_30]; decide) (off := 403) (by rw [hs_30]; rfl) (by decide) ?_
    refine lv_iload_n hx hb dX13_signAt_418 rfl (lv_at hl 0 rfl) ?_
    refine lv_bipush (v := 61) hx hb dX13_signAt_419 (by decide) ?_
    refine lv_icmp_eq (tgt := 430) hx hb dX13_signAt_421 (by decide) (fun c_31 => ?_) (fun c_31 => ?_)
    · rw [if_pos c_31] at hsp
      refine lv_iconst (v := 2) hx hb dX13_signAt_430 (by decide) ?_
      refine lv_goto (tgt := 435) hx hb dX13_signAt_431 (by decide) ?_
      have hr0 := Option.some.inj hsp
      clear hsp
      subst hr0
      have hP9 := hP.sub (ws' := [(h0, .inr (13, z_2)), (qf2, .inl (cf2, 3000, .inl f2))]) [0, 1] rfl
      have hD9 := hD.sub (ws' := [(h0, .inr (13, z_2)), (qf2, .inl (cf2, 3000, .inl f2))]) [0, 1] (by decide) rfl
      have hK9 := hK.sub (tys' := [(cf2, .int)]) [0] rfl
      exact W.iret hx hb hr (fun t ht hW => ⟨⟨(2), (z_2), rfl, ⟨rfl, hln_2, hrq_2⟩, by rw [ht]; exact hP9, va_K.moved hW.alike hK9, hD9⟩, hS.F ht⟩) hS.2.2 dX13_signAt_435
    · rw [if_neg c_31] at hsp
      refine lv_iload_n hx hb dX13_signAt_424 rfl (lv_at hl 0 rfl) ?_
      refine lv_bipush (v := 60) hx hb dX13_signAt_425 (by decide) ?_
      refine lv_icmp_ne (tgt := 434) hx hb dX13_signAt_427 (by decide) (fun c_32 => ?_) (fun c_32 => ?_)
      · rw [if_neg c_32] at hsp
        refine lv_iconst (v := 1) hx hb dX13_signAt_434 (by decide) ?_
        have hr0 := Option.some.inj hsp
        clear hsp
        subst hr0
        have hP9 := hP.sub (ws' := [(h0, .inr (13, z_2)), (qf2, .inl (cf2, 3000, .inl f2))]) [0, 1] rfl
        have hD9 := hD.sub (ws' := [(h0, .inr (13, z_2)), (qf2, .inl (cf2, 3000, .inl f2))]) [0, 1] (by decide) rfl
        have hK9 := hK.sub (tys' := [(cf2, .int)]) [0] rfl
        exact W.iret hx hb hr (fun t ht hW => ⟨⟨(1), (z_2), rfl, ⟨rfl, hln_2, hrq_2⟩, by rw [ht]; exact hP9, va_K.moved hW.alike hK9, hD9⟩, hS.F ht⟩) hS.2.2 dX13_signAt_435
      · rw [if_pos c_32] at hsp
        refine lv_iconst (v := 2) hx hb dX13_signAt_430 (by decide) ?_
        refine lv_goto (tgt := 435) hx hb dX13_signAt_431 (by decide) ?_
        have hr0 := Option.some.inj hsp
        clear hsp
        subst hr0
        have hP9 := hP.sub (ws' := [(h0, .inr (13, z_2)), (qf2, .inl (cf2, 3000, .inl f2))]) [0, 1] rfl
        have hD9 := hD.sub (ws' := [(h0, .inr (13, z_2)), (qf2, .inl (cf2, 3000, .inl f2))]) [0, 1] (by decide) rfl
        have hK9 := hK.sub (tys' := [(cf2, .int)]) [0] rfl
        exact W.iret hx hb hr (fun t ht hW => ⟨⟨(2), (z_2), rfl, ⟨rfl, hln_2, hrq_2⟩, by rw [ht]; exact hP9, va_K.moved hW.alike hK9, hD9⟩, hS.F ht⟩) hS.2.2 dX13_signAt_435
  rw [if_neg hs_30] at hsp
  by_cases hs_33 : u1_0 = 61
  · rw [if_pos hs_33] at hsp
    refine lv_tableIn (tgt := 406) hx hb dX13_signAt_15 (by rw [hs_33]; decide) (by rw [hs_33]; decide) (off := 391) (by rw [hs_33]; rfl) (by decide) ?_
    exact hj_406 (H, locs, ls, z_2, u2_0) ⟨lv_sub hl [0] rfl, hS, hD.sub (ws' := [(h0, .inr (13, z_2)), (qf2, .inl (cf2, 3000, .inl f2))]) [0, 1] (by decide) rfl, hP.sub (ws' := [(h0, .inr (13, z_2)), (qf2, .inl (cf2, 3000, .inl f2))]) [0, 1] rfl, hfk_2_2, hfk_2_3, hln_2, hrq_2, hsp⟩
  rw [if_neg hs_33] at hsp
  by_cases hs_34 : u1_0 = 62
  · rw [if_pos hs_34] at hsp
    refine lv_tableIn (tgt := 436) hx hb dX13_signAt_15 (by rw [hs_34]; decide) (by rw [hs_34]; decide) (off := 421) (by rw [hs_34]; rfl) (by decide) ?_
    refine lv_iload_n hx hb dX13_signAt_436 rfl (lv_at hl 0 rfl) ?_
    refine lv_bipush (v := 62) hx hb dX13_signAt_437 (by decide) ?_
    refine lv_icmp_ne (tgt := 462) hx hb dX13_signAt_439 (by decide) (fun c_35 => ?_) (fun c_35 => ?_)
    · rw [if_neg c_35] at hsp
      refine lv_iload_n hx hb dX13_signAt_462 rfl (lv_at hl 0 rfl) ?_
      refine lv_bipush (v := 61) hx hb dX13_signAt_463 (by decide) ?_
      refine lv_icmp_ne (tgt := 472) hx hb dX13_signAt_465 (by decide) (fun c_36 => ?_) (fun c_36 => ?_)
      · rw [if_neg c_36] at hsp
        refine lv_iconst (v := 1) hx hb dX13_signAt_472 (by decide) ?_
        have hr0 := Option.some.inj hsp
        clear hsp
        subst hr0
        have hP9 := hP.sub (ws' := [(h0, .inr (13, z_2)), (qf2, .inl (cf2, 3000, .inl f2))]) [0, 1] rfl
        have hD9 := hD.sub (ws' := [(h0, .inr (13, z_2)), (qf2, .inl (cf2, 3000, .inl f2))]) [0, 1] (by decide) rfl
        have hK9 := hK.sub (tys' := [(cf2, .int)]) [0] rfl
        exact W.iret hx hb hr (fun t ht hW => ⟨⟨(1), (z_2), rfl, ⟨rfl, hln_2, hrq_2⟩, by rw [ht]; exact hP9, va_K.moved hW.alike hK9, hD9⟩, hS.F ht⟩) hS.2.2 dX13_signAt_473
      · rw [if_pos c_36] at hsp
        refine lv_iconst (v := 2) hx hb dX13_signAt_468 (by decide) ?_
        refine lv_goto (tgt := 473) hx hb dX13_signAt_469 (by decide) ?_
        have hr0 := Option.some.inj hsp
        clear hsp
        subst hr0
        have hP9 := hP.sub (ws' := [(h0, .inr (13, z_2)), (qf2, .inl (cf2, 3000, .inl f2))]) [0, 1] rfl
        have hD9 := hD.sub (ws' := [(h0, .inr (13, z_2)), (qf2, .inl (cf2, 3000, .inl f2))]) [0, 1] (by decide) rfl
        have hK9 := hK.sub (tys' := [(cf2, .int)]) [0] rfl
        exact W.iret hx hb hr (fun t ht hW => ⟨⟨(2), (z_2), rfl, ⟨rfl, hln_2, hrq_2⟩, by rw [ht]; exact hP9, va_K.moved hW.alike hK9, hD9⟩, hS.F ht⟩) hS.2.2 dX13_signAt_473
    · rw [if_pos c_35] at hsp
      refine lv_aload_n hx hb dX13_signAt_442 rfl (lv_at hl 2 rfl) ?_
      refine lv_iload_n hx hb dX13_signAt_443 rfl (lv_at hl 3 rfl) ?_
      refine lv_iconst (v := 2) hx hb dX13_signAt_444 (by decide) ?_
      refine lv_iadd hx hb dX13_signAt_445 ?_
      obtain ⟨u3_0, hu_3, hsp⟩ := ox_bind hsp
      try dsimp only at hsp
      have hPc := hP.sub (ws' := [(h0, .inr (13, z_2)), (qf2, .inl (cf2, 3000, .inl f2))]) [0, 1] rfl
      have hDc := hD.sub (ws' := [(h0, .inr (13, z_2)), (qf2, .inl (cf2, 3000, .inl f2))]) [0, 1] (by decide) rfl
      have hKc := hK.sub (tys' := [(cf2, .int)]) [0] rfl
      have hFc := va_free (wc := [(h0, .inr (13, z_2)), (qf2, .inl (cf2, 3000, .inl f2))]) hD hS hA [0, 1] rfl
      refine va_calli (va_runV (As := [.int (a1 + 2)]) (rest := []) ⟨hx, hb, hml, hown, hts⟩ (tm_at l dC dI H.size h0 z_2 ((a1 + 2)) qf2 v3 cf2 f2 nf u3_0 hln_2 hfk_2_2 hfk_2_3 hu_3) (cwV 1 hts gv_h9_2 rfl rfl rfl (by decide +kernel) ⟨Nat.le_of_ble_eq_true rfl, Nat.le_of_ble_eq_true rfl⟩) ⟨fun a U g mk q => by obtain ⟨q0, q1, qP, qK, qD⟩ := q; exact ⟨q0, q1, qP, va_K.moved (u := U) (U := U.calling g mk a) (Vm.Alike.refl U.vm) qK, qD⟩, va_recv hKc hPc (ci := 13) (q0 := 0) rfl rfl, fun U hU hW => ⟨rfl, by rw [hU], by rw [hU]; exact hPc, va_K.moved hW.alike hKc, hDc.weaken (fun _ _ _ _ => trivial)⟩⟩ rfl rfl hl.1 rfl (lv_room (Nat.le_of_ble_eq_true rfl)) dX13_signAt_446 ⟨Nat.le_of_ble_eq_true rfl, Nat.le_of_ble_eq_true rfl⟩) hS (fun q _ h => hFc q h) hFc ?_
      clear hS
      intro r_37 u t H1 locs ht hvm hw hB hz1 hk1 hS
      obtain ⟨z_3, rfl⟩ : ∃ z, z = u := ⟨_, rfl⟩
      obtain ⟨hP1, hK1, hD1⟩ := hB
      rw [ht] at hP1
      have hK1 := va_K.moved hvm.symm hK1
      try dsimp only at hw
      have hPD := va_join (wr := []) (w1 := [(h0, .inr (13, z_3)), (qf2, .inl (cf2, 3000, .inl f2))]) hP hD [0, 1] [] rfl rfl (by decide) (by decide) hk1 hFc hP1 hD1
      clear hP hD
      obtain ⟨hP, hD⟩ := hPD
      replace hK := (hK.sub (tys' := []) [] rfl).app hK1
      clear hPc hDc hKc hFc hP1 hK1 hD1 hz1 hk1 ht hvm
      generalize H1 = H at hP hS ⊢
      replace hP : va_P (dC, dI) vwCl [(h0, .inr (13, z_3)), (qf2, .inl (cf2, 3000, .inl f2))] H := hP
      replace hD : va_D A [(h0, .inr (13, z_3)), (qf2, .inl (cf2, 3000, .inl f2))] := hD
      replace hK : va_K (dC, dI) vwCl [(cf2, .int)] s := hK
      obtain ⟨hwa_3, hln_3, hre_3⟩ := hw
      have hfk_3_2 : z_3[2]? = some (.ref qf2) := (hre_3 2 ).trans (hfk_2_2)
      have hfk_3_3 : z_3[3]? = some (.int v3) := (hre_3 3 ).trans (hfk_2_3)
      have hrq_3 : ∀ j : Nat, z_3[j]? = zs[j]? := fun j  => (hre_3 j ).trans (hrq_2 j )
      obtain rfl := hwa_3
      refine lv_bipush (v := 62) hx hb dX13_signAt_449 (by decide) ?_
      refine lv_icmp_ne (tgt := 458) hx hb dX13_signAt_451 (by decide) (fun c_38 => ?_) (fun c_38 => ?_)
      · rw [if_neg c_38] at hsp
        refine lv_iconst (v := 2) hx hb dX13_signAt_458 (by decide) ?_
        refine lv_goto (tgt := 473) hx hb dX13_signAt_459 (by decide) ?_
        have hr0 := Option.some.inj hsp
        clear hsp
        subst hr0
        have hP9 := hP.sub (ws' := [(h0, .inr (13, z_3)), (qf2, .inl (cf2, 3000, .inl f2))]) [0, 1] rfl
        have hD9 := hD.sub (ws' := [(h0, .inr (13, z_3)), (qf2, .inl (cf2, 3000, .inl f2))]) [0, 1] (by decide) rfl
        have hK9 := hK.sub (tys' := [(cf2, .int)]) [0] rfl
        exact W.iret hx hb hr (fun t ht hW => ⟨⟨(2), (z_3), rfl, ⟨rfl, hln_3, hrq_3⟩, by rw [ht]; exact hP9, va_K.moved hW.alike hK9, hD9⟩, hS.F ht⟩) hS.2.2 dX13_signAt_473
      · rw [if_pos c_38] at hsp
        refine lv_iconst (v := 3) hx hb dX13_signAt_454 (by decide) ?_
        refine lv_goto (tgt := 473) hx hb dX13_signAt_455 (by decide) ?_
        have hr0 := Option.some.inj hsp
        clear hsp
        subst hr0
        have hP9 := hP.sub (ws' := [(h0, .inr (13, z_3)), (qf2, .inl (cf2, 3000, .inl f2))]) [0, 1] rfl
        have hD9 := hD.sub (ws' := [(h0, .inr (13, z_3)), (qf2, .inl (cf2, 3000, .inl f2))]) [0, 1] (by decide) rfl
        have hK9 := hK.sub (tys' := [(cf2, .int)]) [0] rfl
        exact W.iret hx hb hr (fun t ht hW => ⟨⟨(3), (z_3), rfl, ⟨rfl, hln_3, hrq_3⟩, by rw [ht]; exact hP9, va_K.moved hW.alike hK9, hD9⟩, hS.F ht⟩) hS.2.2 dX13_signAt_473
  rw [if_neg hs_34] at hsp
  by_cases hs_39 : u1_0 = 63
  · rw [if_pos hs_39] at hsp
    refine lv_tableIn (tgt := 404) hx hb dX13_signAt_15 (by rw [hs_39]; decide) (by rw [hs_39]; decide) (off := 389) (by rw [hs_39]; rfl) (by decide) ?_
    exact hj_404 (H, locs, ls, z_2) ⟨lv_sub hl [] rfl, hS, hD.sub (ws' := [(h0, .inr (13, z_2)), (qf2, .inl (cf2, 3000, .inl f2))]) [0, 1] (by decide) rfl, hP.sub (ws' := [(h0, .inr (13, z_2)), (qf2, .inl (cf2, 3000, .inl f2))]) [0, 1] rfl, hfk_2_2, hfk_2_3, hln_2, hrq_2, hsp⟩
  rw [if_neg hs_39] at hsp
  by_cases hs_40 : u1_0 = 64
  · rw [if_pos hs_40] at hsp
    refine lv_tableIn (tgt := 485) hx hb dX13_signAt_15 (by rw [hs_40]; decide) (by rw [hs_40]; decide) (off := 470) (by rw [hs_40]; rfl) (by decide) ?_
    exact hj_485 (H, locs, ls, z_2) ⟨lv_sub hl [] rfl, hS, hD.sub (ws' := [(h0, .inr (13, z_2)), (qf2, .inl (cf2, 3000, .inl f2))]) [0, 1] (by decide) rfl, hP.sub (ws' := [(h0, .inr (13, z_2)), (qf2, .inl (cf2, 3000, .inl f2))]) [0, 1] rfl, hfk_2_2, hfk_2_3, hln_2, hrq_2, hsp⟩
  rw [if_neg hs_40] at hsp
  by_cases hs_41 : u1_0 = 65
  · rw [if_pos hs_41] at hsp
    refine lv_tableIn (tgt := 485) hx hb dX13_signAt_15 (by rw [hs_41]; decide) (by rw [hs_41]; decide) (off := 470) (by rw [hs_41]; rfl) (by decide) ?_
    exact hj_485 (H, locs, ls, z_2) ⟨lv_sub hl [] rfl, hS, hD.sub (ws' := [(h0, .inr (13, z_2)), (qf2, .inl (cf2, 3000, .inl f2))]) [0, 1] (by decide) rfl, hP.sub (ws' := [(h0, .inr (13, z_2)), (qf2, .inl (cf2, 3000, .inl f2))]) [0, 1] rfl, hfk_2_2, hfk_2_3, hln_2, hrq_2, hsp⟩
  rw [if_neg hs_41] at hsp
  by_cases hs_42 : u1_0 = 66
  · rw [if_pos hs_42] at hsp
    refine lv_tableIn (tgt := 485) hx hb dX13_signAt_15 (by rw [hs_42]; decide) (by rw [hs_42]; decide) (off := 470) (by rw [hs_42]; rfl) (by decide) ?_
    exact hj_485 (H, locs, ls, z_2) ⟨lv_sub hl [] rfl, hS, hD.sub (ws' := [(h0, .inr (13, z_2)), (qf2, .inl (cf2, 3000, .inl f2))]) [0, 1] (by decide) rfl, hP.sub (ws' := [(h0, .inr (13, z_2)), (qf2, .inl (cf2, 3000, .inl f2))]) [0, 1] rfl, hfk_2_2, hfk_2_3, hln_2, hrq_2, hsp⟩
  rw [if_neg hs_42] at hsp
  by_cases hs_43 : u1_0 = 67
  · rw [if_pos hs_43] at hsp
    refine lv_tableIn (tgt := 485) hx hb dX13_signAt_15 (by rw [hs_43]; decide) (by rw [hs_43]; decide) (off := 470) (by rw [hs_43]; rfl) (by decide) ?_
    exact hj_485 (H, locs, ls, z_2) ⟨lv_sub hl [] rfl, hS, hD.sub (ws' := [(h0, .inr (13, z_2)), (qf2, .inl (cf2, 3000, .inl f2))]) [0, 1] (by decide) rfl, hP.sub (ws' := [(h0, .inr (13, z_2)), (qf2, .inl (cf2, 3000, .inl f2))]) [0, 1] rfl, hfk_2_2, hfk_2_3, hln_2, hrq_2, hsp⟩
  rw [if_neg hs_43] at hsp
  by_cases hs_44 : u1_0 = 68
  · rw [if_pos hs_44] at hsp
    refine lv_tableIn (tgt := 485) hx hb dX13_signAt_15 (by rw [hs_44]; decide) (by rw [hs_44]; decide) (off := 470) (by rw [hs_44]; rfl) (by decide) ?_
    exact hj_485 (H, locs, ls, z_2) ⟨lv_sub hl [] rfl, hS, hD.sub (ws' := [(h0, .inr (13, z_2)), (qf2, .inl (cf2, 3000, .inl f2))]) [0, 1] (by decide) rfl, hP.sub (ws' := [(h0, .inr (13, z_2)), (qf2, .inl (cf2, 3000, .inl f2))]) [0, 1] rfl, hfk_2_2, hfk_2_3, hln_2, hrq_2, hsp⟩
  rw [if_neg hs_44] at hsp
  by_cases hs_45 : u1_0 = 69
  · rw [if_pos hs_45] at hsp
    refine lv_tableIn (tgt := 485) hx hb dX13_signAt_15 (by rw [hs_45]; decide) (by rw [hs_45]; decide) (off := 470) (by rw [hs_45]; rfl) (by decide) ?_
    exact hj_485 (H, locs, ls, z_2) ⟨lv_sub hl [] rfl, hS, hD.sub (ws' := [(h0, .inr (13, z_2)), (qf2, .inl (cf2, 3000, .inl f2))]) [0, 1] (by decide) rfl, hP.sub (ws' := [(h0, .inr (13, z_2)), (qf2, .inl (cf2, 3000, .inl f2))]) [0, 1] rfl, hfk_2_2, hfk_2_3, hln_2, hrq_2, hsp⟩
  rw [if_neg hs_45] at hsp
  by_cases hs_46 : u1_0 = 70
  · rw [if_pos hs_46] at hsp
    refine lv_tableIn (tgt := 485) hx hb dX13_signAt_15 (by rw [hs_46]; decide) (by rw [hs_46]; decide) (off := 470) (by rw [hs_46]; rfl) (by decide) ?_
    exact hj_485 (H, locs, ls, z_2) ⟨lv_sub hl [] rfl, hS, hD.sub (ws' := [(h0, .inr (13, z_2)), (qf2, .inl (cf2, 3000, .inl f2))]) [0, 1] (by decide) rfl, hP.sub (ws' := [(h0, .inr (13, z_2)), (qf2, .inl (cf2, 3000, .inl f2))]) [0, 1] rfl, hfk_2_2, hfk_2_3, hln_2, hrq_2, hsp⟩
  rw [if_neg hs_46] at hsp
  by_cases hs_47 : u1_0 = 71
  · rw [if_pos hs_47] at hsp
    refine lv_tableIn (tgt := 485) hx hb dX13_signAt_15 (by rw [hs_47]; decide) (by rw [hs_47]; decide) (off := 470) (by rw [hs_47]; rfl) (by decide) ?_
    exact hj_485 (H, locs, ls, z_2) ⟨lv_sub hl [] rfl, hS, hD.sub (ws' := [(h0, .inr (13, z_2)), (qf2, .inl (cf2, 3000, .inl f2))]) [0, 1] (by decide) rfl, hP.sub (ws' := [(h0, .inr (13, z_2)), (qf2, .inl (cf2, 3000, .inl f2))]) [0, 1] rfl, hfk_2_2, hfk_2_3, hln_2, hrq_2, hsp⟩
  rw [if_neg hs_47] at hsp
  by_cases hs_48 : u1_0 = 72
  · rw [if_pos hs_48] at hsp
    refine lv_tableIn (tgt := 485) hx hb dX13_signAt_15 (by rw [hs_48]; decide) (by rw [hs_48]; decide) (off := 470) (by rw [hs_48]; rfl) (by decide) ?_
    exact hj_485 (H, locs, ls, z_2) ⟨lv_sub hl [] rfl, hS, hD.sub (ws' := [(h0, .inr (13, z_2)), (qf2, .inl (cf2, 3000, .inl f2))]) [0, 1] (by decide) rfl, hP.sub (ws' := [(h0, .inr (13, z_2)), (qf2, .inl (cf2, 3000, .inl f2))]) [0, 1] rfl, hfk_2_2, hfk_2_3, hln_2, hrq_2, hsp⟩
  rw [if_neg hs_48] at hsp
  by_cases hs_49 : u1_0 = 73
  · rw [if_pos hs_49] at hsp
    refine lv_tableIn (tgt := 485) hx hb dX13_signAt_15 (by rw [hs_49]; decide) (by rw [hs_49]; decide) (off := 470) (by rw [hs_49]; rfl) (by decide) ?_
    exact hj_485 (H, locs, ls, z_2) ⟨lv_sub hl [] rfl, hS, hD.sub (ws' := [(h0, .inr (13, z_2)), (qf2, .inl (cf2, 3000, .inl f2))]) [0, 1] (by decide) rfl, hP.sub (ws' := [(h0, .inr (13, z_2)), (qf2, .inl (cf2, 3000, .inl f2))]) [0, 1] rfl, hfk_2_2, hfk_2_3, hln_2, hrq_2, hsp⟩
  rw [if_neg hs_49] at hsp
  by_cases hs_50 : u1_0 = 74
  · rw [if_pos hs_50] at hsp
    refine lv_tableIn (tgt := 485) hx hb dX13_signAt_15 (by rw [hs_50]; decide) (by rw [hs_50]; decide) (off := 470) (by rw [hs_50]; rfl) (by decide) ?_
    exact hj_485 (H, locs, ls, z_2) ⟨lv_sub hl [] rfl, hS, hD.sub (ws' := [(h0, .inr (13, z_2)), (qf2, .inl (cf2, 3000, .inl f2))]) [0, 1] (by decide) rfl, hP.sub (ws' := [(h0, .inr (13, z_2)), (qf2, .inl (cf2, 3000, .inl f2))]) [0, 1] rfl, hfk_2_2, hfk_2_3, hln_2, hrq_2, hsp⟩
  rw [if_neg hs_50] at hsp
  by_cases hs_51 : u1_0 = 75
  · rw [if_pos hs_51] at hsp
    refine lv_tableIn (tgt := 485) hx hb dX13_signAt_15 (by rw [hs_51]; decide) (by rw [hs_51]; decide) (off := 470) (by rw [hs_51]; rfl) (by decide) ?_
    exact hj_485 (H, locs, ls, z_2) ⟨lv_sub hl [] rfl, hS, hD.sub (ws' := [(h0, .inr (13, z_2)), (qf2, .inl (cf2, 3000, .inl f2))]) [0, 1] (by decide) rfl, hP.sub (ws' := [(h0, .inr (13, z_2)), (qf2, .inl (cf2, 3000, .inl f2))]) [0, 1] rfl, hfk_2_2, hfk_2_3, hln_2, hrq_2, hsp⟩
  rw [if_neg hs_51] at hsp
  by_cases hs_52 : u1_0 = 76
  · rw [if_pos hs_52] at hsp
    refine lv_tableIn (tgt := 485) hx hb dX13_signAt_15 (by rw [hs_52]; decide) (by rw [hs_52]; decide) (off := 470) (by rw [hs_52]; rfl) (by decide) ?_
    exact hj_485 (H, locs, ls, z_2) ⟨lv_sub hl [] rfl, hS, hD.sub (ws' := [(h0, .inr (13, z_2)), (qf2, .inl (cf2, 3000, .inl f2))]) [0, 1] (by decide) rfl, hP.sub (ws' := [(h0, .inr (13, z_2)), (qf2, .inl (cf2, 3000, .inl f2))]) [0, 1] rfl, hfk_2_2, hfk_2_3, hln_2, hrq_2, hsp⟩
  rw [if_neg hs_52] at hsp
  by_cases hs_53 : u1_0 = 77
  · rw [if_pos hs_53] at hsp
    refine lv_tableIn (tgt := 485) hx hb dX13_signAt_15 (by rw [hs_53]; decide) (by rw [hs_53]; decide) (off := 470) (by rw [hs_53]; rfl) (by decide) ?_
    exact hj_485 (H, locs, ls, z_2) ⟨lv_sub hl [] rfl, hS, hD.sub (ws' := [(h0, .inr (13, z_2)), (qf2, .inl (cf2, 3000, .inl f2))]) [0, 1] (by decide) rfl, hP.sub (ws' := [(h0, .inr (13, z_2)), (qf2, .inl (cf2, 3000, .inl f2))]) [0, 1] rfl, hfk_2_2, hfk_2_3, hln_2, hrq_2, hsp⟩
  rw [if_neg hs_53] at hsp
  by_cases hs_54 : u1_0 = 78
  · rw [if_pos hs_54] at hsp
    refine lv_tableIn (tgt := 485) hx hb dX13_signAt_15 (by rw [hs_54]; decide) (by rw [hs_54]; decide) (off := 470) (by rw [hs_54]; rfl) (by decide) ?_
    exact hj_485 (H, locs, ls, z_2) ⟨lv_sub hl [] rfl, hS, hD.sub (ws' := [(h0, .inr (13, z_2)), (qf2, .inl (cf2, 3000, .inl f2))]) [0, 1] (by decide) rfl, hP.sub (ws' := [(h0, .inr (13, z_2)), (qf2, .inl (cf2, 3000, .inl f2))]) [0, 1] rfl, hfk_2_2, hfk_2_3, hln_2, hrq_2, hsp⟩
  rw [if_neg hs_54] at hsp
  by_cases hs_55 : u1_0 = 79
  · rw [if_pos hs_55] at hsp
    refine lv_tableIn (tgt := 485) hx hb dX13_signAt_15 (by rw [hs_55]; decide) (by rw [hs_55]; decide) (off := 470) (by rw [hs_55]; rfl) (by decide) ?_
    exact hj_485 (H, locs, ls, z_2) ⟨lv_sub hl [] rfl, hS, hD.sub (ws' := [(h0, .inr (13, z_2)), (qf2, .inl (cf2, 3000, .inl f2))]) [0, 1] (by decide) rfl, hP.sub (ws' := [(h0, .inr (13, z_2)), (qf2, .inl (cf2, 3000, .inl f2))]) [0, 1] rfl, hfk_2_2, hfk_2_3, hln_2, hrq_2, hsp⟩
  rw [if_neg hs_55] at hsp
  by_cases hs_56 : u1_0 = 80
  · rw [if_pos hs_56] at hsp
    refine lv_tableIn (tgt := 485) hx hb dX13_signAt_15 (by rw [hs_56]; decide) (by rw [hs_56]; decide) (off := 470) (by rw [hs_56]; rfl) (by decide) ?_
    exact hj_485 (H, locs, ls, z_2) ⟨lv_sub hl [] rfl, hS, hD.sub (ws' := [(h0, .inr (13, z_2)), (qf2, .inl (cf2, 3000, .inl f2))]) [0, 1] (by decide) rfl, hP.sub (ws' := [(h0, .inr (13, z_2)), (qf2, .inl (cf2, 3000, .inl f2))]) [0, 1] rfl, hfk_2_2, hfk_2_3, hln_2, hrq_2, hsp⟩
  rw [if_neg hs_56] at hsp
  by_cases hs_57 : u1_0 = 81
  · rw [if_pos hs_57] at hsp
    refine lv_tableIn (tgt := 485) hx hb dX13_signAt_15 (by rw [hs_57]; decide) (by rw [hs_57]; decide) (off := 470) (by rw [hs_57]; rfl) (by decide) ?_
    exact hj_485 (H, locs, ls, z_2) ⟨lv_sub hl [] rfl, hS, hD.sub (ws' := [(h0, .inr (13, z_2)), (qf2, .inl (cf2, 3000, .inl f2))]) [0, 1] (by decide) rfl, hP.sub (ws' := [(h0, .inr (13, z_2)), (qf2, .inl (cf2, 3000, .inl f2))]) [0, 1] rfl, hfk_2_2, hfk_2_3, hln_2, hrq_2, hsp⟩
  rw [if_neg hs_57] at hsp
  by_cases hs_58 : u1_0 = 82
  · rw [if_pos hs_58] at hsp
    refine lv_tableIn (tgt := 485) hx hb dX13_signAt_15 (by rw [hs_58]; decide) (by rw [hs_58]; decide) (off := 470) (by rw [hs_58]; rfl) (by decide) ?_
    exact hj_485 (H, locs, ls, z_2) ⟨lv_sub hl [] rfl, hS, hD.sub (ws' := [(h0, .inr (13, z_2)), (qf2, .inl (cf2, 3000, .inl f2))]) [0, 1] (by decide) rfl, hP.sub (ws' := [(h0, .inr (13, z_2)), (qf2, .inl (cf2, 3000, .inl f2))]) [0, 1] rfl, hfk_2_2, hfk_2_3, hln_2, hrq_2, hsp⟩
  rw [if_neg hs_58] at hsp
  by_cases hs_59 : u1_0 = 83
  · rw [if_pos hs_59] at hsp
    refine lv_tableIn (tgt := 485) hx hb dX13_signAt_15 (by rw [hs_59]; decide) (by rw [hs_59]; decide) (off := 470) (by rw [hs_59]; rfl) (by decide) ?_
    exact hj_485 (H, locs, ls, z_2) ⟨lv_sub hl [] rfl, hS, hD.sub (ws' := [(h0, .inr (13, z_2)), (qf2, .inl (cf2, 3000, .inl f2))]) [0, 1] (by decide) rfl, hP.sub (ws' := [(h0, .inr (13, z_2)), (qf2, .inl (cf2, 3000, .inl f2))]) [0, 1] rfl, hfk_2_2, hfk_2_3, hln_2, hrq_2, hsp⟩
  rw [if_neg hs_59] at hsp
  by_cases hs_60 : u1_0 = 84
  · rw [if_pos hs_60] at hsp
    refine lv_tableIn (tgt := 485) hx hb dX13_signAt_15 (by rw [hs_60]; decide) (by rw [hs_60]; decide) (off := 470) (by rw [hs_60]; rfl) (by decide) ?_
    exact hj_485 (H, locs, ls, z_2) ⟨lv_sub hl [] rfl, hS, hD.sub (ws' := [(h0, .inr (13, z_2)), (qf2, .inl (cf2, 3000, .inl f2))]) [0, 1] (by decide) rfl, hP.sub (ws' := [(h0, .inr (13, z_2)), (qf2, .inl (cf2, 3000, .inl f2))]) [0, 1] rfl, hfk_2_2, hfk_2_3, hln_2, hrq_2, hsp⟩
  rw [if_neg hs_60] at hsp
  by_cases hs_61 : u1_0 = 85
  · rw [if_pos hs_61] at hsp
    refine lv_tableIn (tgt := 485) hx hb dX13_signAt_15 (by rw [hs_61]; decide) (by rw [hs_61]; decide) (off := 470) (by rw [hs_61]; rfl) (by decide) ?_
    exact hj_485 (H, locs, ls, z_2) ⟨lv_sub hl [] rfl, hS, hD.sub (ws' := [(h0, .inr (13, z_2)), (qf2, .inl (cf2, 3000, .inl f2))]) [0, 1] (by decide) rfl, hP.sub (ws' := [(h0, .inr (13, z_2)), (qf2, .inl (cf2, 3000, .inl f2))]) [0, 1] rfl, hfk_2_2, hfk_2_3, hln_2, hrq_2, hsp⟩
  rw [if_neg hs_61] at hsp
  by_cases hs_62 : u1_0 = 86
  · rw [if_pos hs_62] at hsp
    refine lv_tableIn (tgt := 485) hx hb dX13_signAt_15 (by rw [hs_62]; decide) (by rw [hs_62]; decide) (off := 470) (by rw [hs_62]; rfl) (by decide) ?_
    exact hj_485 (H, locs, ls, z_2) ⟨lv_sub hl [] rfl, hS, hD.sub (ws' := [(h0, .inr (13, z_2)), (qf2, .inl (cf2, 3000, .inl f2))]) [0, 1] (by decide) rfl, hP.sub (ws' := [(h0, .inr (13, z_2)), (qf2, .inl (cf2, 3000, .inl f2))]) [0, 1] rfl, hfk_2_2, hfk_2_3, hln_2, hrq_2, hsp⟩
  rw [if_neg hs_62] at hsp
  by_cases hs_63 : u1_0 = 87
  · rw [if_pos hs_63] at hsp
    refine lv_tableIn (tgt := 485) hx hb dX13_signAt_15 (by rw [hs_63]; decide) (by rw [hs_63]; decide) (off := 470) (by rw [hs_63]; rfl) (by decide) ?_
    exact hj_485 (H, locs, ls, z_2) ⟨lv_sub hl [] rfl, hS, hD.sub (ws' := [(h0, .inr (13, z_2)), (qf2, .inl (cf2, 3000, .inl f2))]) [0, 1] (by decide) rfl, hP.sub (ws' := [(h0, .inr (13, z_2)), (qf2, .inl (cf2, 3000, .inl f2))]) [0, 1] rfl, hfk_2_2, hfk_2_3, hln_2, hrq_2, hsp⟩
  rw [if_neg hs_63] at hsp
  by_cases hs_64 : u1_0 = 88
  · rw [if_pos hs_64] at hsp
    refine lv_tableIn (tgt := 485) hx hb dX13_signAt_15 (by rw [hs_64]; decide) (by rw [hs_64]; decide) (off := 470) (by rw [hs_64]; rfl) (by decide) ?_
    exact hj_485 (H, locs, ls, z_2) ⟨lv_sub hl [] rfl, hS, hD.sub (ws' := [(h0, .inr (13, z_2)), (qf2, .inl (cf2, 3000, .inl f2))]) [0, 1] (by decide) rfl, hP.sub (ws' := [(h0, .inr (13, z_2)), (qf2, .inl (cf2, 3000, .inl f2))]) [0, 1] rfl, hfk_2_2, hfk_2_3, hln_2, hrq_2, hsp⟩
  rw [if_neg hs_64] at hsp
  by_cases hs_65 : u1_0 = 89
  · rw [if_pos hs_65] at hsp
    refine lv_tableIn (tgt := 485) hx hb dX13_signAt_15 (by rw [hs_65]; decide) (by rw [hs_65]; decide) (off := 470) (by rw [hs_65]; rfl) (by decide) ?_
    exact hj_485 (H, locs, ls, z_2) ⟨lv_sub hl [] rfl, hS, hD.sub (ws' := [(h0, .inr (13, z_2)), (qf2, .inl (cf2, 3000, .inl f2))]) [0, 1] (by decide) rfl, hP.sub (ws' := [(h0, .inr (13, z_2)), (qf2, .inl (cf2, 3000, .inl f2))]) [0, 1] rfl, hfk_2_2, hfk_2_3, hln_2, hrq_2, hsp⟩
  rw [if_neg hs_65] at hsp
  by_cases hs_66 : u1_0 = 90
  · rw [if_pos hs_66] at hsp
    refine lv_tableIn (tgt := 485) hx hb dX13_signAt_15 (by rw [hs_66]; decide) (by rw [hs_66]; decide) (off := 470) (by rw [hs_66]; rfl) (by decide) ?_
    exact hj_485 (H, locs, ls, z_2) ⟨lv_sub hl [] rfl, hS, hD.sub (ws' := [(h0, .inr (13, z_2)), (qf2, .inl (cf2, 3000, .inl f2))]) [0, 1] (by decide) rfl, hP.sub (ws' := [(h0, .inr (13, z_2)), (qf2, .inl (cf2, 3000, .inl f2))]) [0, 1] rfl, hfk_2_2, hfk_2_3, hln_2, hrq_2, hsp⟩
  rw [if_neg hs_66] at hsp
  by_cases hs_67 : u1_0 = 91
  · rw [if_pos hs_67] at hsp
    refine lv_tableIn (tgt := 404) hx hb dX13_signAt_15 (by rw [hs_67]; decide) (by rw [hs_67]; decide) (off := 389) (by rw [hs_67]; rfl) (by decide) ?_
    exact hj_404 (H, locs, ls, z_2) ⟨lv_sub hl [] rfl, hS, hD.sub (ws' := [(h0, .inr (13, z_2)), (qf2, .inl (cf2, 3000, .inl f2))]) [0, 1] (by decide) rfl, hP.sub (ws' := [(h0, .inr (13, z_2)), (qf2, .inl (cf2, 3000, .inl f2))]) [0, 1] rfl, hfk_2_2, hfk_2_3, hln_2, hrq_2, hsp⟩
  rw [if_neg hs_67] at hsp
  by_cases hs_68 : u1_0 = 92
  · rw [if_pos hs_68] at hsp
    refine lv_tableIn (tgt := 485) hx hb dX13_signAt_15 (by rw [hs_68]; decide) (by rw [hs_68]; decide) (off := 470) (by rw [hs_68]; rfl) (by decide) ?_
    exact hj_485 (H, locs, ls, z_2) ⟨lv_sub hl [] rfl, hS, hD.sub (ws' := [(h0, .inr (13, z_2)), (qf2, .inl (cf2, 3000, .inl f2))]) [0, 1] (by decide) rfl, hP.sub (ws' := [(h0, .inr (13, z_2)), (qf2, .inl (cf2, 3000, .inl f2))]) [0, 1] rfl, hfk_2_2, hfk_2_3, hln_2, hrq_2, hsp⟩
  rw [if_neg hs_68] at hsp
  by_cases hs_69 : u1_0 = 93
  · rw [if_pos hs_69] at hsp
    refine lv_tableIn (tgt := 404) hx hb dX13_signAt_15 (by rw [hs_69]; decide) (by rw [hs_69]; decide) (off := 389) (by rw [hs_69]; rfl) (by decide) ?_
    exact hj_404 (H, locs, ls, z_2) ⟨lv_sub hl [] rfl, hS, hD.sub (ws' := [(h0, .inr (13, z_2)), (qf2, .inl (cf2, 3000, .inl f2))]) [0, 1] (by decide) rfl, hP.sub (ws' := [(h0, .inr (13, z_2)), (qf2, .inl (cf2, 3000, .inl f2))]) [0, 1] rfl, hfk_2_2, hfk_2_3, hln_2, hrq_2, hsp⟩
  rw [if_neg hs_69] at hsp
  by_cases hs_70 : u1_0 = 94
  · rw [if_pos hs_70] at hsp
    refine lv_tableIn (tgt := 404) hx hb dX13_signAt_15 (by rw [hs_70]; decide) (by rw [hs_70]; decide) (off := 389) (by rw [hs_70]; rfl) (by decide) ?_
    exact hj_404 (H, locs, ls, z_2) ⟨lv_sub hl [] rfl, hS, hD.sub (ws' := [(h0, .inr (13, z_2)), (qf2, .inl (cf2, 3000, .inl f2))]) [0, 1] (by decide) rfl, hP.sub (ws' := [(h0, .inr (13, z_2)), (qf2, .inl (cf2, 3000, .inl f2))]) [0, 1] rfl, hfk_2_2, hfk_2_3, hln_2, hrq_2, hsp⟩
  rw [if_neg hs_70] at hsp
  by_cases hs_71 : u1_0 = 95
  · rw [if_pos hs_71] at hsp
    refine lv_tableIn (tgt := 485) hx hb dX13_signAt_15 (by rw [hs_71]; decide) (by rw [hs_71]; decide) (off := 470) (by rw [hs_71]; rfl) (by decide) ?_
    exact hj_485 (H, locs, ls, z_2) ⟨lv_sub hl [] rfl, hS, hD.sub (ws' := [(h0, .inr (13, z_2)), (qf2, .inl (cf2, 3000, .inl f2))]) [0, 1] (by decide) rfl, hP.sub (ws' := [(h0, .inr (13, z_2)), (qf2, .inl (cf2, 3000, .inl f2))]) [0, 1] rfl, hfk_2_2, hfk_2_3, hln_2, hrq_2, hsp⟩
  rw [if_neg hs_71] at hsp
  by_cases hs_72 : u1_0 = 96
  · rw [if_pos hs_72] at hsp
    refine lv_tableIn (tgt := 485) hx hb dX13_signAt_15 (by rw [hs_72]; decide) (by rw [hs_72]; decide) (off := 470) (by rw [hs_72]; rfl) (by decide) ?_
    exact hj_485 (H, locs, ls, z_2) ⟨lv_sub hl [] rfl, hS, hD.sub (ws' := [(h0, .inr (13, z_2)), (qf2, .inl (cf2, 3000, .inl f2))]) [0, 1] (by decide) rfl, hP.sub (ws' := [(h0, .inr (13, z_2)), (qf2, .inl (cf2, 3000, .inl f2))]) [0, 1] rfl, hfk_2_2, hfk_2_3, hln_2, hrq_2, hsp⟩
  rw [if_neg hs_72] at hsp
  by_cases hs_73 : u1_0 = 97
  · rw [if_pos hs_73] at hsp
    refine lv_tableIn (tgt := 485) hx hb dX13_signAt_15 (by rw [hs_73]; decide) (by rw [hs_73]; decide) (off := 470) (by rw [hs_73]; rfl) (by decide) ?_
    exact hj_485 (H, locs, ls, z_2) ⟨lv_sub hl [] rfl, hS, hD.sub (ws' := [(h0, .inr (13, z_2)), (qf2, .inl (cf2, 3000, .inl f2))]) [0, 1] (by decide) rfl, hP.sub (ws' := [(h0, .inr (13, z_2)), (qf2, .inl (cf2, 3000, .inl f2))]) [0, 1] rfl, hfk_2_2, hfk_2_3, hln_2, hrq_2, hsp⟩
  rw [if_neg hs_73] at hsp
  by_cases hs_74 : u1_0 = 98
  · rw [if_pos hs_74] at hsp
    refine lv_tableIn (tgt := 485) hx hb dX13_signAt_15 (by rw [hs_74]; decide) (by rw [hs_74]; decide) (off := 470) (by rw [hs_74]; rfl) (by decide) ?_
    exact hj_485 (H, locs, ls, z_2) ⟨lv_sub hl [] rfl, hS, hD.sub (ws' := [(h0, .inr (13, z_2)), (qf2, .inl (cf2, 3000, .inl f2))]) [0, 1] (by decide) rfl, hP.sub (ws' := [(h0, .inr (13, z_2)), (qf2, .inl (cf2, 3000, .inl f2))]) [0, 1] rfl, hfk_2_2, hfk_2_3, hln_2, hrq_2, hsp⟩
  rw [if_neg hs_74] at hsp
  by_cases hs_75 : u1_0 = 99
  · rw [if_pos hs_75] at hsp
    refine lv_tableIn (tgt := 485) hx hb dX13_signAt_15 (by rw [hs_75]; decide) (by rw [hs_75]; decide) (off := 470) (by rw [hs_75]; rfl) (by decide) ?_
    exact hj_485 (H, locs, ls, z_2) ⟨lv_sub hl [] rfl, hS, hD.sub (ws' := [(h0, .inr (13, z_2)), (qf2, .inl (cf2, 3000, .inl f2))]) [0, 1] (by decide) rfl, hP.sub (ws' := [(h0, .inr (13, z_2)), (qf2, .inl (cf2, 3000, .inl f2))]) [0, 1] rfl, hfk_2_2, hfk_2_3, hln_2, hrq_2, hsp⟩
  rw [if_neg hs_75] at hsp
  by_cases hs_76 : u1_0 = 100
  · rw [if_pos hs_76] at hsp
    refine lv_tableIn (tgt := 485) hx hb dX13_signAt_15 (by rw [hs_76]; decide) (by rw [hs_76]; decide) (off := 470) (by rw [hs_76]; rfl) (by decide) ?_
    exact hj_485 (H, locs, ls, z_2) ⟨lv_sub hl [] rfl, hS, hD.sub (ws' := [(h0, .inr (13, z_2)), (qf2, .inl (cf2, 3000, .inl f2))]) [0, 1] (by decide) rfl, hP.sub (ws' := [(h0, .inr (13, z_2)), (qf2, .inl (cf2, 3000, .inl f2))]) [0, 1] rfl, hfk_2_2, hfk_2_3, hln_2, hrq_2, hsp⟩
  rw [if_neg hs_76] at hsp
  by_cases hs_77 : u1_0 = 101
  · rw [if_pos hs_77] at hsp
    refine lv_tableIn (tgt := 485) hx hb dX13_signAt_15 (by rw [hs_77]; decide) (by rw [hs_77]; decide) (off := 470) (by rw [hs_77]; rfl) (by decide) ?_
    exact hj_485 (H, locs, ls, z_2) ⟨lv_sub hl [] rfl, hS, hD.sub (ws' := [(h0, .inr (13, z_2)), (qf2, .inl (cf2, 3000, .inl f2))]) [0, 1] (by decide) rfl, hP.sub (ws' := [(h0, .inr (13, z_2)), (qf2, .inl (cf2, 3000, .inl f2))]) [0, 1] rfl, hfk_2_2, hfk_2_3, hln_2, hrq_2, hsp⟩
  rw [if_neg hs_77] at hsp
  by_cases hs_78 : u1_0 = 102
  · rw [if_pos hs_78] at hsp
    refine lv_tableIn (tgt := 485) hx hb dX13_signAt_15 (by rw [hs_78]; decide) (by rw [hs_78]; decide) (off := 470) (by rw [hs_78]; rfl) (by decide) ?_
    exact hj_485 (H, locs, ls, z_2) ⟨lv_sub hl [] rfl, hS, hD.sub (ws' := [(h0, .inr (13, z_2)), (qf2, .inl (cf2, 3000, .inl f2))]) [0, 1] (by decide) rfl, hP.sub (ws' := [(h0, .inr (13, z_2)), (qf2, .inl (cf2, 3000, .inl f2))]) [0, 1] rfl, hfk_2_2, hfk_2_3, hln_2, hrq_2, hsp⟩
  rw [if_neg hs_78] at hsp
  by_cases hs_79 : u1_0 = 103
  · rw [if_pos hs_79] at hsp
    refine lv_tableIn (tgt := 485) hx hb dX13_signAt_15 (by rw [hs_79]; decide) (by rw [hs_79]; decide) (off := 470) (by rw [hs_79]; rfl) (by decide) ?_
    exact hj_485 (H, locs, ls, z_2) ⟨lv_sub hl [] rfl, hS, hD.sub (ws' := [(h0, .inr (13, z_2)), (qf2, .inl (cf2, 3000, .inl f2))]) [0, 1] (by decide) rfl, hP.sub (ws' := [(h0, .inr (13, z_2)), (qf2, .inl (cf2, 3000, .inl f2))]) [0, 1] rfl, hfk_2_2, hfk_2_3, hln_2, hrq_2, hsp⟩
  rw [if_neg hs_79] at hsp
  by_cases hs_80 : u1_0 = 104
  · rw [if_pos hs_80] at hsp
    refine lv_tableIn (tgt := 485) hx hb dX13_signAt_15 (by rw [hs_80]; decide) (by rw [hs_80]; decide) (off := 470) (by rw [hs_80]; rfl) (by decide) ?_
    exact hj_485 (H, locs, ls, z_2) ⟨lv_sub hl [] rfl, hS, hD.sub (ws' := [(h0, .inr (13, z_2)), (qf2, .inl (cf2, 3000, .inl f2))]) [0, 1] (by decide) rfl, hP.sub (ws' := [(h0, .inr (13, z_2)), (qf2, .inl (cf2, 3000, .inl f2))]) [0, 1] rfl, hfk_2_2, hfk_2_3, hln_2, hrq_2, hsp⟩
  rw [if_neg hs_80] at hsp
  by_cases hs_81 : u1_0 = 105
  · rw [if_pos hs_81] at hsp
    refine lv_tableIn (tgt := 485) hx hb dX13_signAt_15 (by rw [hs_81]; decide) (by rw [hs_81]; decide) (off := 470) (by rw [hs_81]; rfl) (by decide) ?_
    exact hj_485 (H, locs, ls, z_2) ⟨lv_sub hl [] rfl, hS, hD.sub (ws' := [(h0, .inr (13, z_2)), (qf2, .inl (cf2, 3000, .inl f2))]) [0, 1] (by decide) rfl, hP.sub (ws' := [(h0, .inr (13, z_2)), (qf2, .inl (cf2, 3000, .inl f2))]) [0, 1] rfl, hfk_2_2, hfk_2_3, hln_2, hrq_2, hsp⟩
  rw [if_neg hs_81] at hsp
  by_cases hs_82 : u1_0 = 106
  · rw [if_pos hs_82] at hsp
    refine lv_tableIn (tgt := 485) hx hb dX13_signAt_15 (by rw [hs_82]; decide) (by rw [hs_82]; decide) (off := 470) (by rw [hs_82]; rfl) (by decide) ?_
    exact hj_485 (H, locs, ls, z_2) ⟨lv_sub hl [] rfl, hS, hD.sub (ws' := [(h0, .inr (13, z_2)), (qf2, .inl (cf2, 3000, .inl f2))]) [0, 1] (by decide) rfl, hP.sub (ws' := [(h0, .inr (13, z_2)), (qf2, .inl (cf2, 3000, .inl f2))]) [0, 1] rfl, hfk_2_2, hfk_2_3, hln_2, hrq_2, hsp⟩
  rw [if_neg hs_82] at hsp
  by_cases hs_83 : u1_0 = 107
  · rw [if_pos hs_83] at hsp
    refine lv_tableIn (tgt := 485) hx hb dX13_signAt_15 (by rw [hs_83]; decide) (by rw [hs_83]; decide) (off := 470) (by rw [hs_83]; rfl) (by decide) ?_
    exact hj_485 (H, locs, ls, z_2) ⟨lv_sub hl [] rfl, hS, hD.sub (ws' := [(h0, .inr (13, z_2)), (qf2, .inl (cf2, 3000, .inl f2))]) [0, 1] (by decide) rfl, hP.sub (ws' := [(h0, .inr (13, z_2)), (qf2, .inl (cf2, 3000, .inl f2))]) [0, 1] rfl, hfk_2_2, hfk_2_3, hln_2, hrq_2, hsp⟩
  rw [if_neg hs_83] at hsp
  by_cases hs_84 : u1_0 = 108
  · rw [if_pos hs_84] at hsp
    refine lv_tableIn (tgt := 485) hx hb dX13_signAt_15 (by rw [hs_84]; decide) (by rw [hs_84]; decide) (off := 470) (by rw [hs_84]; rfl) (by decide) ?_
    exact hj_485 (H, locs, ls, z_2) ⟨lv_sub hl [] rfl, hS, hD.sub (ws' := [(h0, .inr (13, z_2)), (qf2, .inl (cf2, 3000, .inl f2))]) [0, 1] (by decide) rfl, hP.sub (ws' := [(h0, .inr (13, z_2)), (qf2, .inl (cf2, 3000, .inl f2))]) [0, 1] rfl, hfk_2_2, hfk_2_3, hln_2, hrq_2, hsp⟩
  rw [if_neg hs_84] at hsp
  by_cases hs_85 : u1_0 = 109
  · rw [if_pos hs_85] at hsp
    refine lv_tableIn (tgt := 485) hx hb dX13_signAt_15 (by rw [hs_85]; decide) (by rw [hs_85]; decide) (off := 470) (by rw [hs_85]; rfl) (by decide) ?_
    exact hj_485 (H, locs, ls, z_2) ⟨lv_sub hl [] rfl, hS, hD.sub (ws' := [(h0, .inr (13, z_2)), (qf2, .inl (cf2, 3000, .inl f2))]) [0, 1] (by decide) rfl, hP.sub (ws' := [(h0, .inr (13, z_2)), (qf2, .inl (cf2, 3000, .inl f2))]) [0, 1] rfl, hfk_2_2, hfk_2_3, hln_2, hrq_2, hsp⟩
  rw [if_neg hs_85] at hsp
  by_cases hs_86 : u1_0 = 110
  · rw [if_pos hs_86] at hsp
    refine lv_tableIn (tgt := 485) hx hb dX13_signAt_15 (by rw [hs_86]; decide) (by rw [hs_86]; decide) (off := 470) (by rw [hs_86]; rfl) (by decide) ?_
    exact hj_485 (H, locs, ls, z_2) ⟨lv_sub hl [] rfl, hS, hD.sub (ws' := [(h0, .inr (13, z_2)), (qf2, .inl (cf2, 3000, .inl f2))]) [0, 1] (by decide) rfl, hP.sub (ws' := [(h0, .inr (13, z_2)), (qf2, .inl (cf2, 3000, .inl f2))]) [0, 1] rfl, hfk_2_2, hfk_2_3, hln_2, hrq_2, hsp⟩
  rw [if_neg hs_86] at hsp
  by_cases hs_87 : u1_0 = 111
  · rw [if_pos hs_87] at hsp
    refine lv_tableIn (tgt := 485) hx hb dX13_signAt_15 (by rw [hs_87]; decide) (by rw [hs_87]; decide) (off := 470) (by rw [hs_87]; rfl) (by decide) ?_
    exact hj_485 (H, locs, ls, z_2) ⟨lv_sub hl [] rfl, hS, hD.sub (ws' := [(h0, .inr (13, z_2)), (qf2, .inl (cf2, 3000, .inl f2))]) [0, 1] (by decide) rfl, hP.sub (ws' := [(h0, .inr (13, z_2)), (qf2, .inl (cf2, 3000, .inl f2))]) [0, 1] rfl, hfk_2_2, hfk_2_3, hln_2, hrq_2, hsp⟩
  rw [if_neg hs_87] at hsp
  by_cases hs_88 : u1_0 = 112
  · rw [if_pos hs_88] at hsp
    refine lv_tableIn (tgt := 485) hx hb dX13_signAt_15 (by rw [hs_88]; decide) (by rw [hs_88]; decide) (off := 470) (by rw [hs_88]; rfl) (by decide) ?_
    exact hj_485 (H, locs, ls, z_2) ⟨lv_sub hl [] rfl, hS, hD.sub (ws' := [(h0, .inr (13, z_2)), (qf2, .inl (cf2, 3000, .inl f2))]) [0, 1] (by decide) rfl, hP.sub (ws' := [(h0, .inr (13, z_2)), (qf2, .inl (cf2, 3000, .inl f2))]) [0, 1] rfl, hfk_2_2, hfk_2_3, hln_2, hrq_2, hsp⟩
  rw [if_neg hs_88] at hsp
  by_cases hs_89 : u1_0 = 113
  · rw [if_pos hs_89] at hsp
    refine lv_tableIn (tgt := 485) hx hb dX13_signAt_15 (by rw [hs_89]; decide) (by rw [hs_89]; decide) (off := 470) (by rw [hs_89]; rfl) (by decide) ?_
    exact hj_485 (H, locs, ls, z_2) ⟨lv_sub hl [] rfl, hS, hD.sub (ws' := [(h0, .inr (13, z_2)), (qf2, .inl (cf2, 3000, .inl f2))]) [0, 1] (by decide) rfl, hP.sub (ws' := [(h0, .inr (13, z_2)), (qf2, .inl (cf2, 3000, .inl f2))]) [0, 1] rfl, hfk_2_2, hfk_2_3, hln_2, hrq_2, hsp⟩
  rw [if_neg hs_89] at hsp
  by_cases hs_90 : u1_0 = 114
  · rw [if_pos hs_90] at hsp
    refine lv_tableIn (tgt := 485) hx hb dX13_signAt_15 (by rw [hs_90]; decide) (by rw [hs_90]; decide) (off := 470) (by rw [hs_90]; rfl) (by decide) ?_
    exact hj_485 (H, locs, ls, z_2) ⟨lv_sub hl [] rfl, hS, hD.sub (ws' := [(h0, .inr (13, z_2)), (qf2, .inl (cf2, 3000, .inl f2))]) [0, 1] (by decide) rfl, hP.sub (ws' := [(h0, .inr (13, z_2)), (qf2, .inl (cf2, 3000, .inl f2))]) [0, 1] rfl, hfk_2_2, hfk_2_3, hln_2, hrq_2, hsp⟩
  rw [if_neg hs_90] at hsp
  by_cases hs_91 : u1_0 = 115
  · rw [if_pos hs_91] at hsp
    refine lv_tableIn (tgt := 485) hx hb dX13_signAt_15 (by rw [hs_91]; decide) (by rw [hs_91]; decide) (off := 470) (by rw [hs_91]; rfl) (by decide) ?_
    exact hj_485 (H, locs, ls, z_2) ⟨lv_sub hl [] rfl, hS, hD.sub (ws' := [(h0, .inr (13, z_2)), (qf2, .inl (cf2, 3000, .inl f2))]) [0, 1] (by decide) rfl, hP.sub (ws' := [(h0, .inr (13, z_2)), (qf2, .inl (cf2, 3000, .inl f2))]) [0, 1] rfl, hfk_2_2, hfk_2_3, hln_2, hrq_2, hsp⟩
  rw [if_neg hs_91] at hsp
  by_cases hs_92 : u1_0 = 116
  · rw [if_pos hs_92] at hsp
    refine lv_tableIn (tgt := 485) hx hb dX13_signAt_15 (by rw [hs_92]; decide) (by rw [hs_92]; decide) (off := 470) (by rw [hs_92]; rfl) (by decide) ?_
    exact hj_485 (H, locs, ls, z_2) ⟨lv_sub hl [] rfl, hS, hD.sub (ws' := [(h0, .inr (13, z_2)), (qf2, .inl (cf2, 3000, .inl f2))]) [0, 1] (by decide) rfl, hP.sub (ws' := [(h0, .inr (13, z_2)), (qf2, .inl (cf2, 3000, .inl f2))]) [0, 1] rfl, hfk_2_2, hfk_2_3, hln_2, hrq_2, hsp⟩
  rw [if_neg hs_92] at hsp
  by_cases hs_93 : u1_0 = 117
  · rw [if_pos hs_93] at hsp
    refine lv_tableIn (tgt := 485) hx hb dX13_signAt_15 (by rw [hs_93]; decide) (by rw [hs_93]; decide) (off := 470) (by rw [hs_93]; rfl) (by decide) ?_
    exact hj_485 (H, locs, ls, z_2) ⟨lv_sub hl [] rfl, hS, hD.sub (ws' := [(h0, .inr (13, z_2)), (qf2, .inl (cf2, 3000, .inl f2))]) [0, 1] (by decide) rfl, hP.sub (ws' := [(h0, .inr (13, z_2)), (qf2, .inl (cf2, 3000, .inl f2))]) [0, 1] rfl, hfk_2_2, hfk_2_3, hln_2, hrq_2, hsp⟩
  rw [if_neg hs_93] at hsp
  by_cases hs_94 : u1_0 = 118
  · rw [if_pos hs_94] at hsp
    refine lv_tableIn (tgt := 485) hx hb dX13_signAt_15 (by rw [hs_94]; decide) (by rw [hs_94]; decide) (off := 470) (by rw [hs_94]; rfl) (by decide) ?_
    exact hj_485 (H, locs, ls, z_2) ⟨lv_sub hl [] rfl, hS, hD.sub (ws' := [(h0, .inr (13, z_2)), (qf2, .inl (cf2, 3000, .inl f2))]) [0, 1] (by decide) rfl, hP.sub (ws' := [(h0, .inr (13, z_2)), (qf2, .inl (cf2, 3000, .inl f2))]) [0, 1] rfl, hfk_2_2, hfk_2_3, hln_2, hrq_2, hsp⟩
  rw [if_neg hs_94] at hsp
  by_cases hs_95 : u1_0 = 119
  · rw [if_pos hs_95] at hsp
    refine lv_tableIn (tgt := 485) hx hb dX13_signAt_15 (by rw [hs_95]; decide) (by rw [hs_95]; decide) (off := 470) (by rw [hs_95]; rfl) (by decide) ?_
    exact hj_485 (H, locs, ls, z_2) ⟨lv_sub hl [] rfl, hS, hD.sub (ws' := [(h0, .inr (13, z_2)), (qf2, .inl (cf2, 3000, .inl f2))]) [0, 1] (by decide) rfl, hP.sub (ws' := [(h0, .inr (13, z_2)), (qf2, .inl (cf2, 3000, .inl f2))]) [0, 1] rfl, hfk_2_2, hfk_2_3, hln_2, hrq_2, hsp⟩
  rw [if_neg hs_95] at hsp
  by_cases hs_96 : u1_0 = 120
  · rw [if_pos hs_96] at hsp
    refine lv_tableIn (tgt := 485) hx hb dX13_signAt_15 (by rw [hs_96]; decide) (by rw [hs_96]; decide) (off := 470) (by rw [hs_96]; rfl) (by decide) ?_
    exact hj_485 (H, locs, ls, z_2) ⟨lv_sub hl [] rfl, hS, hD.sub (ws' := [(h0, .inr (13, z_2)), (qf2, .inl (cf2, 3000, .inl f2))]) [0, 1] (by decide) rfl, hP.sub (ws' := [(h0, .inr (13, z_2)), (qf2, .inl (cf2, 3000, .inl f2))]) [0, 1] rfl, hfk_2_2, hfk_2_3, hln_2, hrq_2, hsp⟩
  rw [if_neg hs_96] at hsp
  by_cases hs_97 : u1_0 = 121
  · rw [if_pos hs_97] at hsp
    refine lv_tableIn (tgt := 485) hx hb dX13_signAt_15 (by rw [hs_97]; decide) (by rw [hs_97]; decide) (off := 470) (by rw [hs_97]; rfl) (by decide) ?_
    exact hj_485 (H, locs, ls, z_2) ⟨lv_sub hl [] rfl, hS, hD.sub (ws' := [(h0, .inr (13, z_2)), (qf2, .inl (cf2, 3000, .inl f2))]) [0, 1] (by decide) rfl, hP.sub (ws' := [(h0, .inr (13, z_2)), (qf2, .inl (cf2, 3000, .inl f2))]) [0, 1] rfl, hfk_2_2, hfk_2_3, hln_2, hrq_2, hsp⟩
  rw [if_neg hs_97] at hsp
  by_cases hs_98 : u1_0 = 122
  · rw [if_pos hs_98] at hsp
    refine lv_tableIn (tgt := 485) hx hb dX13_signAt_15 (by rw [hs_98]; decide) (by rw [hs_98]; decide) (off := 470) (by rw [hs_98]; rfl) (by decide) ?_
    exact hj_485 (H, locs, ls, z_2) ⟨lv_sub hl [] rfl, hS, hD.sub (ws' := [(h0, .inr (13, z_2)), (qf2, .inl (cf2, 3000, .inl f2))]) [0, 1] (by decide) rfl, hP.sub (ws' := [(h0, .inr (13, z_2)), (qf2, .inl (cf2, 3000, .inl f2))]) [0, 1] rfl, hfk_2_2, hfk_2_3, hln_2, hrq_2, hsp⟩
  rw [if_neg hs_98] at hsp
  by_cases hs_99 : u1_0 = 123
  · rw [if_pos hs_99] at hsp
    refine lv_tableIn (tgt := 404) hx hb dX13_signAt_15 (by rw [hs_99]; decide) (by rw [hs_99]; decide) (off := 389) (by rw [hs_99]; rfl) (by decide) ?_
    exact hj_404 (H, locs, ls, z_2) ⟨lv_sub hl [] rfl, hS, hD.sub (ws' := [(h0, .inr (13, z_2)), (qf2, .inl (cf2, 3000, .inl f2))]) [0, 1] (by decide) rfl, hP.sub (ws' := [(h0, .inr (13, z_2)), (qf2, .inl (cf2, 3000, .inl f2))]) [0, 1] rfl, hfk_2_2, hfk_2_3, hln_2, hrq_2, hsp⟩
  rw [if_neg hs_99] at hsp
  by_cases hs_100 : u1_0 = 124
  · rw [if_pos hs_100] at hsp
    refine lv_tableIn (tgt := 474) hx hb dX13_signAt_15 (by rw [hs_100]; decide) (by rw [hs_100]; decide) (off := 459) (by rw [hs_100]; rfl) (by decide) ?_
    exact hj_474 (H, locs, ls, z_2, u1_0, u2_0) ⟨lv_sub hl [1, 0] rfl, hS, hD.sub (ws' := [(h0, .inr (13, z_2)), (qf2, .inl (cf2, 3000, .inl f2))]) [0, 1] (by decide) rfl, hP.sub (ws' := [(h0, .inr (13, z_2)), (qf2, .inl (cf2, 3000, .inl f2))]) [0, 1] rfl, hfk_2_2, hfk_2_3, hln_2, hrq_2, hsp⟩
  rw [if_neg hs_100] at hsp
  by_cases hs_101 : u1_0 = 125
  · rw [if_pos hs_101] at hsp
    refine lv_tableIn (tgt := 404) hx hb dX13_signAt_15 (by rw [hs_101]; decide) (by rw [hs_101]; decide) (off := 389) (by rw [hs_101]; rfl) (by decide) ?_
    exact hj_404 (H, locs, ls, z_2) ⟨lv_sub hl [] rfl, hS, hD.sub (ws' := [(h0, .inr (13, z_2)), (qf2, .inl (cf2, 3000, .inl f2))]) [0, 1] (by decide) rfl, hP.sub (ws' := [(h0, .inr (13, z_2)), (qf2, .inl (cf2, 3000, .inl f2))]) [0, 1] rfl, hfk_2_2, hfk_2_3, hln_2, hrq_2, hsp⟩
  rw [if_neg hs_101] at hsp
  by_cases hs_102 : u1_0 = 126
  · rw [if_pos hs_102] at hsp
    refine lv_tableIn (tgt := 404) hx hb dX13_signAt_15 (by rw [hs_102]; decide) (by rw [hs_102]; decide) (off := 389) (by rw [hs_102]; rfl) (by decide) ?_
    exact hj_404 (H, locs, ls, z_2) ⟨lv_sub hl [] rfl, hS, hD.sub (ws' := [(h0, .inr (13, z_2)), (qf2, .inl (cf2, 3000, .inl f2))]) [0, 1] (by decide) rfl, hP.sub (ws' := [(h0, .inr (13, z_2)), (qf2, .inl (cf2, 3000, .inl f2))]) [0, 1] rfl, hfk_2_2, hfk_2_3, hln_2, hrq_2, hsp⟩
  rw [if_neg hs_102] at hsp
  refine lv_tableOut (tgt := 485) hx hb dX13_signAt_15 (by have a0 := lv_neT hs_3 (a := 33) rfl; have a1 := lv_neT hs_4 (a := 34) rfl; have a2 := lv_neT hs_5 (a := 35) rfl; have a3 := lv_neT hs_6 (a := 36) rfl; have a4 := lv_neT hs_7 (a := 37) rfl; have a5 := lv_neT hs_8 (a := 38) rfl; have a6 := lv_neT hs_9 (a := 39) rfl; have a7 := lv_neT hs_10 (a := 40) rfl; have a8 := lv_neT hs_11 (a := 41) rfl; have a9 := lv_neT hs_12 (a := 42) rfl; have a10 := lv_neT hs_13 (a := 43) rfl; have a11 := lv_neT hs_14 (a := 44) rfl; have a12 := lv_neT hs_15 (a := 45) rfl; have a13 := lv_neT hs_16 (a := 46) rfl; have a14 := lv_neT hs_17 (a := 47) rfl; have a15 := lv_neT hs_18 (a := 48) rfl; have a16 := lv_neT hs_19 (a := 49) rfl; have a17 := lv_neT hs_20 (a := 50) rfl; have a18 := lv_neT hs_21 (a := 51) rfl; have a19 := lv_neT hs_22 (a := 52) rfl; have a20 := lv_neT hs_23 (a := 53) rfl; have a21 := lv_neT hs_24 (a := 54) rfl; have a22 := lv_neT hs_25 (a := 55) rfl; have a23 := lv_neT hs_26 (a := 56) rfl; have a24 := lv_neT hs_27 (a := 57) rfl; have a25 := lv_neT hs_28 (a := 58) rfl; have a26 := lv_neT hs_29 (a := 59) rfl; have a27 := lv_neT hs_30 (a := 60) rfl; have a28 := lv_neT hs_33 (a := 61) rfl; have a29 := lv_neT hs_34 (a := 62) rfl; have a30 := lv_neT hs_39 (a := 63) rfl; have a31 := lv_neT hs_40 (a := 64) rfl; have a32 := lv_neT hs_41 (a := 65) rfl; have a33 := lv_neT hs_42 (a := 66) rfl; have a34 := lv_neT hs_43 (a := 67) rfl; have a35 := lv_neT hs_44 (a := 68) rfl; have a36 := lv_neT hs_45 (a := 69) rfl; have a37 := lv_neT hs_46 (a := 70) rfl; have a38 := lv_neT hs_47 (a := 71) rfl; have a39 := lv_neT hs_48 (a := 72) rfl; have a40 := lv_neT hs_49 (a := 73) rfl; have a41 := lv_neT hs_50 (a := 74) rfl; have a42 := lv_neT hs_51 (a := 75) rfl; have a43 := lv_neT hs_52 (a := 76) rfl; have a44 := lv_neT hs_53 (a := 77) rfl; have a45 := lv_neT hs_54 (a := 78) rfl; have a46 := lv_neT hs_55 (a := 79) rfl; have a47 := lv_neT hs_56 (a := 80) rfl; have a48 := lv_neT hs_57 (a := 81) rfl; have a49 := lv_neT hs_58 (a := 82) rfl; have a50 := lv_neT hs_59 (a := 83) rfl; have a51 := lv_neT hs_60 (a := 84) rfl; have a52 := lv_neT hs_61 (a := 85) rfl; have a53 := lv_neT hs_62 (a := 86) rfl; have a54 := lv_neT hs_63 (a := 87) rfl; have a55 := lv_neT hs_64 (a := 88) rfl; have a56 := lv_neT hs_65 (a := 89) rfl; have a57 := lv_neT hs_66 (a := 90) rfl; have a58 := lv_neT hs_67 (a := 91) rfl; have a59 := lv_neT hs_68 (a := 92) rfl; have a60 := lv_neT hs_69 (a := 93) rfl; have a61 := lv_neT hs_70 (a := 94) rfl; have a62 := lv_neT hs_71 (a := 95) rfl; have a63 := lv_neT hs_72 (a := 96) rfl; have a64 := lv_neT hs_73 (a := 97) rfl; have a65 := lv_neT hs_74 (a := 98) rfl; have a66 := lv_neT hs_75 (a := 99) rfl; have a67 := lv_neT hs_76 (a := 100) rfl; have a68 := lv_neT hs_77 (a := 101) rfl; have a69 := lv_neT hs_78 (a := 102) rfl; have a70 := lv_neT hs_79 (a := 103) rfl; have a71 := lv_neT hs_80 (a := 104) rfl; have a72 := lv_neT hs_81 (a := 105) rfl; have a73 := lv_neT hs_82 (a := 106) rfl; have a74 := lv_neT hs_83 (a := 107) rfl; have a75 := lv_neT hs_84 (a := 108) rfl; have a76 := lv_neT hs_85 (a := 109) rfl; have a77 := lv_neT hs_86 (a := 110) rfl; have a78 := lv_neT hs_87 (a := 111) rfl; have a79 := lv_neT hs_88 (a := 112) rfl; have a80 := lv_neT hs_89 (a := 113) rfl; have a81 := lv_neT hs_90 (a := 114) rfl; have a82 := lv_neT hs_91 (a := 115) rfl; have a83 := lv_neT hs_92 (a := 116) rfl; have a84 := lv_neT hs_93 (a := 117) rfl; have a85 := lv_neT hs_94 (a := 118) rfl; have a86 := lv_neT hs_95 (a := 119) rfl; have a87 := lv_neT hs_96 (a := 120) rfl; have a88 := lv_neT hs_97 (a := 121) rfl; have a89 := lv_neT hs_98 (a := 122) rfl; have a90 := lv_neT hs_99 (a := 123) rfl; have a91 := lv_neT hs_100 (a := 124) rfl; have a92 := lv_neT hs_101 (a := 125) rfl; have a93 := lv_neT hs_102 (a := 126) rfl; omega) (by decide) ?_
  exact hj_485 (H, locs, ls, z_2) ⟨lv_sub hl [] rfl, hS, hD.sub (ws' := [(h0, .inr (13, z_2)), (qf2, .inl (cf2, 3000, .inl f2))]) [0, 1] (by decide) rfl, hP.sub (ws' := [(h0, .inr (13, z_2)), (qf2, .inl (cf2, 3000, .inl f2))]) [0, 1] rfl, hfk_2_2, hfk_2_3, hln_2, hrq_2, hsp⟩
def lp_vm_tokenize_449 (nf n : Nat) (v3 : Int32) (f4 : Nat → Int32) (f5 : Nat → Int32) (f6 : Nat → Int32) (f7 : Nat → Int32) (f2 : Nat → Int32) (nS352 : Nat) (fS352 : Nat → Int32)  (l2_449 : Int32) (g4_449 : Nat → Int32) (g5_449 : Nat → Int32) (g6_449 : Nat → Int32) (g7_449 : Nat → Int32) (x8_449 : Int32) : Option ((Nat → Int32) × (Nat → Int32) × (Nat → Int32) × (Nat → Int32) × Int32) := match n with
  | 0 => none
  | n + 1 => (if (x8_449 + 4) ≤ l2_449 then (some (g4_449, g5_449, g6_449, g7_449, x8_449)) else (if l2_449 < 0 then none else if 3008 ≤ (l2_449 : Int32).toNatClampNeg then none else (lp_vm_tokenize_449 nf n v3 f4 f5 f6 f7 f2 nS352 fS352 (l2_449 + 1) (upd g4_449 (l2_449 : Int32).toNatClampNeg 5) g5_449 g6_449 g7_449 x8_449)))
def lp_vm_tokenize_58 (nf n : Nat) (v3 : Int32) (f4 : Nat → Int32) (f5 : Nat → Int32) (f6 : Nat → Int32) (f7 : Nat → Int32) (f2 : Nat → Int32) (nS352 : Nat) (fS352 : Nat → Int32) (kk_7 : Int32 → (Nat → Int32) → (Nat → Int32) → (Nat → Int32) → (Nat → Int32) → Int32 → Option ((Nat → Int32) × (Nat → Int32) × (Nat → Int32) × (Nat → Int32) × Int32)) (l1_58 : Int32) (g4_58 : Nat → Int32) (g5_58 : Nat → Int32) (g6_58 : Nat → Int32) (g7_58 : Nat → Int32) (x8_58 : Int32) : Option ((Nat → Int32) × (Nat → Int32) × (Nat → Int32) × (Nat → Int32) × Int32) := match n with
  | 0 => none
  | n + 1 => (if v3 ≤ l1_58 then (kk_7 l1_58 g4_58 g5_58 g6_58 g7_58 x8_58) else (if l1_58 < 0 then none else if 3000 ≤ (l1_58 : Int32).toNatClampNeg then none else (if (f2 (l1_58 : Int32).toNatClampNeg) = 10 then (kk_7 l1_58 g4_58 g5_58 g6_58 g7_58 x8_58) else (lp_vm_tokenize_58 nf n v3 f4 f5 f6 f7 f2 nS352 fS352 kk_7 (l1_58 + 1) g4_58 g5_58 g6_58 g7_58 x8_58))))
def lp_vm_tokenize_400 (nf n : Nat) (v3 : Int32) (f4 : Nat → Int32) (f5 : Nat → Int32) (f6 : Nat → Int32) (f7 : Nat → Int32) (f2 : Nat → Int32) (nS352 : Nat) (fS352 : Nat → Int32)  (l4_400 : Int32) (g4_400 : Nat → Int32) (g5_400 : Nat → Int32) (g6_400 : Nat → Int32) (g7_400 : Nat → Int32) (x8_400 : Int32) : Option ((Nat → Int32) × (Nat → Int32) × (Nat → Int32) × (Nat → Int32) × Int32) := match n with
  | 0 => none
  | n + 1 => (if (x8_400 + 4) ≤ l4_400 then (some (g4_400, g5_400, g6_400, g7_400, x8_400)) else (if l4_400 < 0 then none else if 3008 ≤ (l4_400 : Int32).toNatClampNeg then none else (lp_vm_tokenize_400 nf n v3 f4 f5 f6 f7 f2 nS352 fS352 (l4_400 + 1) (upd g4_400 (l4_400 : Int32).toNatClampNeg 5) g5_400 g6_400 g7_400 x8_400)))
def jn_vm_tokenize_378 (nf : Nat) (v3 : Int32) (f4 : Nat → Int32) (f5 : Nat → Int32) (f6 : Nat → Int32) (f7 : Nat → Int32) (f2 : Nat → Int32) (nS352 : Nat) (fS352 : Nat → Int32) (kk_7 : Int32 → (Nat → Int32) → (Nat → Int32) → (Nat → Int32) → (Nat → Int32) → Int32 → Option ((Nat → Int32) × (Nat → Int32) × (Nat → Int32) × (Nat → Int32) × Int32)) (l1_378 : Int32) (l3_378 : Int32) (g4_378 : Nat → Int32) (g5_378 : Nat → Int32) (g6_378 : Nat → Int32) (g7_378 : Nat → Int32) (x8_378 : Int32) : Option ((Nat → Int32) × (Nat → Int32) × (Nat → Int32) × (Nat → Int32) × Int32) := (if (x8_378 - 1) < 0 then none else if 3008 ≤ ((x8_378 - 1) : Int32).toNatClampNeg then none else (if (g4_378 ((x8_378 - 1) : Int32).toNatClampNeg) = 6 then (lp_vm_tokenize_400 nf nf v3 f4 f5 f6 f7 f2 nS352 fS352  x8_378 g4_378 g5_378 g6_378 g7_378 x8_378) else (kk_7 (l1_378 + l3_378) g4_378 g5_378 g6_378 g7_378 x8_378)))
def jn_vm_tokenize_371 (nf : Nat) (v3 : Int32) (f4 : Nat → Int32) (f5 : Nat → Int32) (f6 : Nat → Int32) (f7 : Nat → Int32) (f2 : Nat → Int32) (nS352 : Nat) (fS352 : Nat → Int32) (kk_7 : Int32 → (Nat → Int32) → (Nat → Int32) → (Nat → Int32) → (Nat → Int32) → Int32 → Option ((Nat → Int32) × (Nat → Int32) × (Nat → Int32) × (Nat → Int32) × Int32)) (l1_371 : Int32) (l3_371 : Int32) (l4_371 : Int32) (s0_371 : Int32) (g4_371 : Nat → Int32) (g5_371 : Nat → Int32) (g6_371 : Nat → Int32) (g7_371 : Nat → Int32) (x8_371 : Int32) : Option ((Nat → Int32) × (Nat → Int32) × (Nat → Int32) × (Nat → Int32) × Int32) := ((sp_tm_token nf s0_371 l1_371 l3_371 l4_371 x8_371 g4_371 g5_371 g6_371 g7_371).bind (fun p1 => (jn_vm_tokenize_378 nf v3 f4 f5 f6 f7 f2 nS352 fS352 kk_7 l1_371 l3_371 p1.1 p1.2.1 p1.2.2.1 p1.2.2.2.1 p1.2.2.2.2)))
def lp_vm_tokenize_330 (nf n : Nat) (v3 : Int32) (f4 : Nat → Int32) (f5 : Nat → Int32) (f6 : Nat → Int32) (f7 : Nat → Int32) (f2 : Nat → Int32) (nS352 : Nat) (fS352 : Nat → Int32) (kk_7 : Int32 → (Nat → Int32) → (Nat → Int32) → (Nat → Int32) → (Nat → Int32) → Int32 → Option ((Nat → Int32) × (Nat → Int32) × (Nat → Int32) × (Nat → Int32) × Int32)) (l1_330 : Int32) (l3_330 : Int32) (l4_330 : Int32) (l5_330 : Int32) (g4_330 : Nat → Int32) (g5_330 : Nat → Int32) (g6_330 : Nat → Int32) (g7_330 : Nat → Int32) (x8_330 : Int32) : Option ((Nat → Int32) × (Nat → Int32) × (Nat → Int32) × (Nat → Int32) × Int32) := match n with
  | 0 => none
  | n + 1 => (if l3_330 ≤ l5_330 then (if l3_330 ≤ 0 then (jn_vm_tokenize_371 nf v3 f4 f5 f6 f7 f2 nS352 fS352 kk_7 l1_330 l3_330 l4_330 6 g4_330 g5_330 g6_330 g7_330 x8_330) else (jn_vm_tokenize_371 nf v3 f4 f5 f6 f7 f2 nS352 fS352 kk_7 l1_330 l3_330 l4_330 4 g4_330 g5_330 g6_330 g7_330 x8_330)) else (if (l1_330 + l5_330) < 0 then none else if 3000 ≤ ((l1_330 + l5_330) : Int32).toNatClampNeg then none else (lp_vm_tokenize_330 nf n v3 f4 f5 f6 f7 f2 nS352 fS352 kk_7 l1_330 l3_330 ((128 * l4_330) + (f2 ((l1_330 + l5_330) : Int32).toNatClampNeg)) (l5_330 + 1) g4_330 g5_330 g6_330 g7_330 x8_330)))
def jn_vm_tokenize_307 (nf : Nat) (v3 : Int32) (f4 : Nat → Int32) (f5 : Nat → Int32) (f6 : Nat → Int32) (f7 : Nat → Int32) (f2 : Nat → Int32) (nS352 : Nat) (fS352 : Nat → Int32) (kk_7 : Int32 → (Nat → Int32) → (Nat → Int32) → (Nat → Int32) → (Nat → Int32) → Int32 → Option ((Nat → Int32) × (Nat → Int32) × (Nat → Int32) × (Nat → Int32) × Int32)) (l1_307 : Int32) (l3_307 : Int32) (j4_307 : Int64) (s0_307 : Int32) (g4_307 : Nat → Int32) (g5_307 : Nat → Int32) (g6_307 : Nat → Int32) (g7_307 : Nat → Int32) (x8_307 : Int32) : Option ((Nat → Int32) × (Nat → Int32) × (Nat → Int32) × (Nat → Int32) × Int32) := ((sp_tm_token nf s0_307 l1_307 l3_307 ((j4_307 : Int64).toInt32) x8_307 g4_307 g5_307 g6_307 g7_307).bind (fun p1 => (jn_vm_tokenize_378 nf v3 f4 f5 f6 f7 f2 nS352 fS352 kk_7 l1_307 l3_307 p1.1 p1.2.1 p1.2.2.1 p1.2.2.2.1 p1.2.2.2.2)))
def jn_vm_tokenize_293 (nf : Nat) (v3 : Int32) (f4 : Nat → Int32) (f5 : Nat → Int32) (f6 : Nat → Int32) (f7 : Nat → Int32) (f2 : Nat → Int32) (nS352 : Nat) (fS352 : Nat → Int32) (kk_7 : Int32 → (Nat → Int32) → (Nat → Int32) → (Nat → Int32) → (Nat → Int32) → Int32 → Option ((Nat → Int32) × (Nat → Int32) × (Nat → Int32) × (Nat → Int32) × Int32)) (l1_293 : Int32) (l3_293 : Int32) (j4_293 : Int64) (s0_293 : Int32) (g4_293 : Nat → Int32) (g5_293 : Nat → Int32) (g6_293 : Nat → Int32) (g7_293 : Nat → Int32) (x8_293 : Int32) : Option ((Nat → Int32) × (Nat → Int32) × (Nat → Int32) × (Nat → Int32) × Int32) := (if s0_293 = 0 then (jn_vm_tokenize_307 nf v3 f4 f5 f6 f7 f2 nS352 fS352 kk_7 l1_293 l3_293 j4_293 6 g4_293 g5_293 g6_293 g7_293 x8_293) else (jn_vm_tokenize_307 nf v3 f4 f5 f6 f7 f2 nS352 fS352 kk_7 l1_293 l3_293 j4_293 2 g4_293 g5_293 g6_293 g7_293 x8_293))
def jn_vm_tokenize_292 (nf : Nat) (v3 : Int32) (f4 : Nat → Int32) (f5 : Nat → Int32) (f6 : Nat → Int32) (f7 : Nat → Int32) (f2 : Nat → Int32) (nS352 : Nat) (fS352 : Nat → Int32) (kk_7 : Int32 → (Nat → Int32) → (Nat → Int32) → (Nat → Int32) → (Nat → Int32) → Int32 → Option ((Nat → Int32) × (Nat → Int32) × (Nat → Int32) × (Nat → Int32) × Int32)) (l1_292 : Int32) (l3_292 : Int32) (j4_292 : Int64) (g4_292 : Nat → Int32) (g5_292 : Nat → Int32) (g6_292 : Nat → Int32) (g7_292 : Nat → Int32) (x8_292 : Int32) : Option ((Nat → Int32) × (Nat → Int32) × (Nat → Int32) × (Nat → Int32) × Int32) := (jn_vm_tokenize_293 nf v3 f4 f5 f6 f7 f2 nS352 fS352 kk_7 l1_292 l3_292 j4_292 0 g4_292 g5_292 g6_292 g7_292 x8_292)
def jn_vm_tokenize_263 (nf : Nat) (v3 : Int32) (f4 : Nat → Int32) (f5 : Nat → Int32) (f6 : Nat → Int32) (f7 : Nat → Int32) (f2 : Nat → Int32) (nS352 : Nat) (fS352 : Nat → Int32) (kk_7 : Int32 → (Nat → Int32) → (Nat → Int32) → (Nat → Int32) → (Nat → Int32) → Int32 → Option ((Nat → Int32) × (Nat → Int32) × (Nat → Int32) × (Nat → Int32) × Int32)) (l1_263 : Int32) (l3_263 : Int32) (j4_263 : Int64) (g4_263 : Nat → Int32) (g5_263 : Nat → Int32) (g6_263 : Nat → Int32) (g7_263 : Nat → Int32) (x8_263 : Int32) : Option ((Nat → Int32) × (Nat → Int32) × (Nat → Int32) × (Nat → Int32) × Int32) := ((sp_tm_at nf (l1_263 + l3_263) v3 f2).bind (fun p1 => ((sp_tm_isLetter nf p1).bind (fun p2 => (if p2 = 0 then ((sp_tm_at nf (l1_263 + l3_263) v3 f2).bind (fun p3 => (if p3 = 95 then (jn_vm_tokenize_292 nf v3 f4 f5 f6 f7 f2 nS352 fS352 kk_7 l1_263 l3_263 j4_263 g4_263 g5_263 g6_263 g7_263 x8_263) else (jn_vm_tokenize_293 nf v3 f4 f5 f6 f7 f2 nS352 fS352 kk_7 l1_263 l3_263 j4_263 1 g4_263 g5_263 g6_263 g7_263 x8_263)))) else (jn_vm_tokenize_292 nf v3 f4 f5 f6 f7 f2 nS352 fS352 kk_7 l1_263 l3_263 j4_263 g4_263 g5_263 g6_263 g7_263 x8_263))))))
def lp_vm_tokenize_189 (nf n : Nat) (v3 : Int32) (f4 : Nat → Int32) (f5 : Nat → Int32) (f6 : Nat → Int32) (f7 : Nat → Int32) (f2 : Nat → Int32) (nS352 : Nat) (fS352 : Nat → Int32) (kk_7 : Int32 → (Nat → Int32) → (Nat → Int32) → (Nat → Int32) → (Nat → Int32) → Int32 → Option ((Nat → Int32) × (Nat → Int32) × (Nat → Int32) × (Nat → Int32) × Int32)) (l1_189 : Int32) (l2_189 : Int32) (l3_189 : Int32) (j4_189 : Int64) (g4_189 : Nat → Int32) (g5_189 : Nat → Int32) (g6_189 : Nat → Int32) (g7_189 : Nat → Int32) (x8_189 : Int32) : Option ((Nat → Int32) × (Nat → Int32) × (Nat → Int32) × (Nat → Int32) × Int32) := match n with
  | 0 => none
  | n + 1 => ((sp_tm_at nf (l1_189 + l3_189) v3 f2).bind (fun p1 => ((sp_tm_isDigit nf p1).bind (fun p2 => (if p2 = 0 then (if 0 < ((if 2147483647 < j4_189 then 1 else if j4_189 = 2147483647 then 0 else -1 : Int32)) then (jn_vm_tokenize_292 nf v3 f4 f5 f6 f7 f2 nS352 fS352 kk_7 l1_189 l3_189 j4_189 g4_189 g5_189 g6_189 g7_189 x8_189) else (if l3_189 = 1 then (jn_vm_tokenize_263 nf v3 f4 f5 f6 f7 f2 nS352 fS352 kk_7 l1_189 l3_189 j4_189 g4_189 g5_189 g6_189 g7_189 x8_189) else (if l2_189 = 48 then (jn_vm_tokenize_292 nf v3 f4 f5 f6 f7 f2 nS352 fS352 kk_7 l1_189 l3_189 j4_189 g4_189 g5_189 g6_189 g7_189 x8_189) else (jn_vm_tokenize_263 nf v3 f4 f5 f6 f7 f2 nS352 fS352 kk_7 l1_189 l3_189 j4_189 g4_189 g5_189 g6_189 g7_189 x8_189)))) else (if ((if 3000000000 < j4_189 then 1 else if j4_189 = 3000000000 then 0 else -1 : Int32)) ≤ 0 then ((sp_tm_at nf (l1_189 + l3_189) v3 f2).bind (fun p3 => (lp_vm_tokenize_189 nf n v3 f4 f5 f6 f7 f2 nS352 fS352 kk_7 l1_189 l2_189 (l3_189 + 1) (((10 * j4_189) + ((p3 : Int32).toInt64)) - 48) g4_189 g5_189 g6_189 g7_189 x8_189))) else (lp_vm_tokenize_189 nf n v3 f4 f5 f6 f7 f2 nS352 fS352 kk_7 l1_189 l2_189 (l3_189 + 1) j4_189 g4_189 g5_189 g6_189 g7_189 x8_189)))))))
def jn_vm_tokenize_169 (nf : Nat) (v3 : Int32) (f4 : Nat → Int32) (f5 : Nat → Int32) (f6 : Nat → Int32) (f7 : Nat → Int32) (f2 : Nat → Int32) (nS352 : Nat) (fS352 : Nat → Int32) (kk_7 : Int32 → (Nat → Int32) → (Nat → Int32) → (Nat → Int32) → (Nat → Int32) → Int32 → Option ((Nat → Int32) × (Nat → Int32) × (Nat → Int32) × (Nat → Int32) × Int32)) (l1_169 : Int32) (l3_169 : Int32) (l4_169 : Int32) (s0_169 : Int32) (g4_169 : Nat → Int32) (g5_169 : Nat → Int32) (g6_169 : Nat → Int32) (g7_169 : Nat → Int32) (x8_169 : Int32) : Option ((Nat → Int32) × (Nat → Int32) × (Nat → Int32) × (Nat → Int32) × Int32) := ((sp_tm_token nf s0_169 l1_169 l3_169 l4_169 x8_169 g4_169 g5_169 g6_169 g7_169).bind (fun p1 => (jn_vm_tokenize_378 nf v3 f4 f5 f6 f7 f2 nS352 fS352 kk_7 l1_169 l3_169 p1.1 p1.2.1 p1.2.2.1 p1.2.2.2.1 p1.2.2.2.2)))
def lp_vm_tokenize_92 (nf n : Nat) (v3 : Int32) (f4 : Nat → Int32) (f5 : Nat → Int32) (f6 : Nat → Int32) (f7 : Nat → Int32) (f2 : Nat → Int32) (nS352 : Nat) (fS352 : Nat → Int32) (kk_7 : Int32 → (Nat → Int32) → (Nat → Int32) → (Nat → Int32) → (Nat → Int32) → Int32 → Option ((Nat → Int32) × (Nat → Int32) × (Nat → Int32) × (Nat → Int32) × Int32)) (l1_92 : Int32) (l3_92 : Int32) (g4_92 : Nat → Int32) (g5_92 : Nat → Int32) (g6_92 : Nat → Int32) (g7_92 : Nat → Int32) (x8_92 : Int32) : Option ((Nat → Int32) × (Nat → Int32) × (Nat → Int32) × (Nat → Int32) × Int32) := match n with
  | 0 => none
  | n + 1 => ((sp_tm_at nf (l1_92 + l3_92) v3 f2).bind (fun p1 => ((sp_tm_isLetter nf p1).bind (fun p2 => (if p2 = 0 then ((sp_tm_at nf (l1_92 + l3_92) v3 f2).bind (fun p3 => ((sp_tm_isDigit nf p3).bind (fun p4 => (if p4 = 0 then ((sp_tm_at nf (l1_92 + l3_92) v3 f2).bind (fun p5 => (if p5 = 95 then (lp_vm_tokenize_92 nf n v3 f4 f5 f6 f7 f2 nS352 fS352 kk_7 l1_92 (l3_92 + 1) g4_92 g5_92 g6_92 g7_92 x8_92) else ((sp_vm_among nf l1_92 l3_92 f2 nS352 fS352).bind (fun p6 => (if p6 < 0 then (if 12 < l3_92 then (jn_vm_tokenize_169 nf v3 f4 f5 f6 f7 f2 nS352 fS352 kk_7 l1_92 l3_92 p6 6 g4_92 g5_92 g6_92 g7_92 x8_92) else (jn_vm_tokenize_169 nf v3 f4 f5 f6 f7 f2 nS352 fS352 kk_7 l1_92 l3_92 p6 1 g4_92 g5_92 g6_92 g7_92 x8_92)) else (jn_vm_tokenize_169 nf v3 f4 f5 f6 f7 f2 nS352 fS352 kk_7 l1_92 l3_92 p6 3 g4_92 g5_92 g6_92 g7_92 x8_92))))))) else (lp_vm_tokenize_92 nf n v3 f4 f5 f6 f7 f2 nS352 fS352 kk_7 l1_92 (l3_92 + 1) g4_92 g5_92 g6_92 g7_92 x8_92)))))) else (lp_vm_tokenize_92 nf n v3 f4 f5 f6 f7 f2 nS352 fS352 kk_7 l1_92 (l3_92 + 1) g4_92 g5_92 g6_92 g7_92 x8_92))))))
def jn_vm_tokenize_83 (nf : Nat) (v3 : Int32) (f4 : Nat → Int32) (f5 : Nat → Int32) (f6 : Nat → Int32) (f7 : Nat → Int32) (f2 : Nat → Int32) (nS352 : Nat) (fS352 : Nat → Int32) (kk_7 : Int32 → (Nat → Int32) → (Nat → Int32) → (Nat → Int32) → (Nat → Int32) → Int32 → Option ((Nat → Int32) × (Nat → Int32) × (Nat → Int32) × (Nat → Int32) × Int32)) (l1_83 : Int32) (l2_83 : Int32) (g4_83 : Nat → Int32) (g5_83 : Nat → Int32) (g6_83 : Nat → Int32) (g7_83 : Nat → Int32) (x8_83 : Int32) : Option ((Nat → Int32) × (Nat → Int32) × (Nat → Int32) × (Nat → Int32) × Int32) := ((sp_tm_isLetter nf l2_83).bind (fun p1 => (if p1 = 0 then ((sp_tm_isDigit nf l2_83).bind (fun p2 => (if p2 = 0 then ((sp_vm_signAt nf l1_83 v3 f2).bind (fun p3 => (lp_vm_tokenize_330 nf nf v3 f4 f5 f6 f7 f2 nS352 fS352 kk_7 l1_83 p3 0 0 g4_83 g5_83 g6_83 g7_83 x8_83))) else (lp_vm_tokenize_189 nf nf v3 f4 f5 f6 f7 f2 nS352 fS352 kk_7 l1_83 l2_83 0 0 g4_83 g5_83 g6_83 g7_83 x8_83)))) else (lp_vm_tokenize_92 nf nf v3 f4 f5 f6 f7 f2 nS352 fS352 kk_7 l1_83 0 g4_83 g5_83 g6_83 g7_83 x8_83))))
def lp_vm_tokenize_7 (nf n : Nat) (v3 : Int32) (f4 : Nat → Int32) (f5 : Nat → Int32) (f6 : Nat → Int32) (f7 : Nat → Int32) (f2 : Nat → Int32) (nS352 : Nat) (fS352 : Nat → Int32)  (l1_7 : Int32) (g4_7 : Nat → Int32) (g5_7 : Nat → Int32) (g6_7 : Nat → Int32) (g7_7 : Nat → Int32) (x8_7 : Int32) : Option ((Nat → Int32) × (Nat → Int32) × (Nat → Int32) × (Nat → Int32) × Int32) := match n with
  | 0 => none
  | n + 1 => (if v3 ≤ l1_7 then ((sp_tm_token nf 5 v3 0 0 x8_7 g4_7 g5_7 g6_7 g7_7).bind (fun p1 => (lp_vm_tokenize_449 nf nf v3 f4 f5 f6 f7 f2 nS352 fS352  p1.2.2.2.2 p1.1 p1.2.1 p1.2.2.1 p1.2.2.2.1 p1.2.2.2.2))) else (if l1_7 < 0 then none else if 3000 ≤ (l1_7 : Int32).toNatClampNeg then none else (if (f2 (l1_7 : Int32).toNatClampNeg) = 32 then (lp_vm_tokenize_7 nf n v3 f4 f5 f6 f7 f2 nS352 fS352 (l1_7 + 1) g4_7 g5_7 g6_7 g7_7 x8_7) else (if (f2 (l1_7 : Int32).toNatClampNeg) = 10 then (lp_vm_tokenize_7 nf n v3 f4 f5 f6 f7 f2 nS352 fS352 (l1_7 + 1) g4_7 g5_7 g6_7 g7_7 x8_7) else (if (f2 (l1_7 : Int32).toNatClampNeg) = 47 then ((sp_tm_at nf (l1_7 + 1) v3 f2).bind (fun p2 => (if p2 = 47 then (lp_vm_tokenize_58 nf nf v3 f4 f5 f6 f7 f2 nS352 fS352 (lp_vm_tokenize_7 nf n v3 f4 f5 f6 f7 f2 nS352 fS352) l1_7 g4_7 g5_7 g6_7 g7_7 x8_7) else (jn_vm_tokenize_83 nf v3 f4 f5 f6 f7 f2 nS352 fS352 (lp_vm_tokenize_7 nf n v3 f4 f5 f6 f7 f2 nS352 fS352) l1_7 (f2 (l1_7 : Int32).toNatClampNeg) g4_7 g5_7 g6_7 g7_7 x8_7)))) else (jn_vm_tokenize_83 nf v3 f4 f5 f6 f7 f2 nS352 fS352 (lp_vm_tokenize_7 nf n v3 f4 f5 f6 f7 f2 nS352 fS352) l1_7 (f2 (l1_7 : Int32).toNatClampNeg) g4_7 g5_7 g6_7 g7_7 x8_7))))))
def sp_vm_tokenize (nf : Nat) (v3 : Int32) (f4 : Nat → Int32) (f5 : Nat → Int32) (f6 : Nat → Int32) (f7 : Nat → Int32) (f2 : Nat → Int32) (nS352 : Nat) (fS352 : Nat → Int32) : Option ((Nat → Int32) × (Nat → Int32) × (Nat → Int32) × (Nat → Int32) × Int32) := (lp_vm_tokenize_7 nf nf v3 f4 f5 f6 f7 f2 nS352 fS352  0 f4 f5 f6 f7 0)

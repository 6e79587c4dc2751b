def lp_t4_settle_38 (nf n : Nat) (f1 : Nat → Int32) (f0 : Nat → Int32) (kk_2 : Int32 → (Nat → Int32) → Option ((Nat → Int32))) (kk_10 : Int32 → Int32 → (Nat → Int32) → Option ((Nat → Int32))) (l1_38 : Int32) (l2_38 : Int32) (l3_38 : Int32) (g1_38 : Nat → Int32) : Option ((Nat → Int32)) := match n with
  | 0 => none
  | n + 1 => (if 16 ≤ l3_38 then (kk_2 (l1_38 + 1) g1_38) else (if l2_38 < 0 then (kk_2 (l1_38 + 1) g1_38) else (if 16 ≤ l2_38 then (kk_2 (l1_38 + 1) g1_38) else (if ((l1_38 * 16) + l2_38) < 0 then none else if 256 ≤ (((l1_38 * 16) + l2_38) : Int32).toNatClampNeg then none else (if l2_38 < 0 then none else if 16 ≤ (l2_38 : Int32).toNatClampNeg then none else (lp_t4_settle_38 nf n f1 f0 kk_2 kk_10 l1_38 (f0 (l2_38 : Int32).toNatClampNeg) (l3_38 + 1) (upd g1_38 (((l1_38 * 16) + l2_38) : Int32).toNatClampNeg (vp_nar .boolean 1))))))))
def lp_t4_settle_10 (nf n : Nat) (f1 : Nat → Int32) (f0 : Nat → Int32) (kk_2 : Int32 → (Nat → Int32) → Option ((Nat → Int32))) (l1_10 : Int32) (l2_10 : Int32) (g1_10 : Nat → Int32) : Option ((Nat → Int32)) := match n with
  | 0 => none
  | n + 1 => (if 16 ≤ l2_10 then (lp_t4_settle_38 nf nf f1 f0 kk_2 (lp_t4_settle_10 nf n f1 f0 kk_2) l1_10 l1_10 0 g1_10) else (if ((l1_10 * 16) + l2_10) < 0 then none else if 256 ≤ (((l1_10 * 16) + l2_10) : Int32).toNatClampNeg then none else (lp_t4_settle_10 nf n f1 f0 kk_2 l1_10 (l2_10 + 1) (upd g1_10 (((l1_10 * 16) + l2_10) : Int32).toNatClampNeg (vp_nar .boolean 0)))))
def lp_t4_settle_2 (nf n : Nat) (f1 : Nat → Int32) (f0 : Nat → Int32)  (l1_2 : Int32) (g1_2 : Nat → Int32) : Option ((Nat → Int32)) := match n with
  | 0 => none
  | n + 1 => (if 16 ≤ l1_2 then (some g1_2) else (lp_t4_settle_10 nf nf f1 f0 (lp_t4_settle_2 nf n f1 f0) l1_2 0 g1_2))
def sp_t4_settle (nf : Nat) (f1 : Nat → Int32) (f0 : Nat → Int32) : Option ((Nat → Int32)) := (lp_t4_settle_2 nf nf f1 f0 0 f1)
set_option maxHeartbeats 4000000 in
set_option maxRecDepth 100000 in
/-- ClassMill$Kin.settle -/
theorem t4_settle (l : Launch) (dC : Nat → ClassId) (dI : Nat → Nat → Nat) (sz : Nat) (h0 : Nat) (qf0 : Nat) (qf1 : Nat) (cf1 : ClassId) (f1 : (Nat → Int32)) (cf0 : ClassId) (f0 : (Nat → Int32)) (nf : Nat) (o1 : (Nat → Int32)) (hsp : sp_t4_settle nf f1 f0 = some o1) : Met l yX4_settle (.code yX4_settle cX4_settle 4 none :: VS_h3) ({ frames := 0, cells := 0, slots := 0, locals := 0 }) (va_Pc [.ref h0] (fun U => U.heap.size = sz ∧ va_P (dC, dI) vwCl [(h0, .inr (4, [.ref qf0, .ref qf1])), (qf1, .inl (cf1, 256, .inl f1)), (qf0, .inl (cf0, 16, .inl f0))] U.heap ∧ va_K (dC, dI) vwCl [(cf1, .boolean), (cf0, .int)] U ∧ va_D (fun _ => True) [(h0, .inr (4, [.ref qf0, .ref qf1])), (qf1, .inl (cf1, 256, .inl f1)), (qf0, .inl (cf0, 16, .inl f0))])) (va_Qv (fun (u : Unit) => match u with | () => True) (fun (u : Unit) (t : State) => match u with | () => va_P (dC, dI) vwCl [(h0, .inr (4, [.ref qf0, .ref qf1])), (qf1, .inl (cf1, 256, .inl o1)), (qf0, .inl (cf0, 16, .inl f0))] t.heap ∧ va_K (dC, dI) vwCl [(cf1, .boolean), (cf0, .int)] t ∧ va_D (va_A [(h0, .inr (4, [.ref qf0, .ref qf1])), (qf1, .inl (cf1, 256, .inl f1)), (qf0, .inl (cf0, 16, .inl f0))] sz) [(h0, .inr (4, [.ref qf0, .ref qf1])), (qf1, .inl (cf1, 256, .inl o1)), (qf0, .inl (cf0, 16, .inl f0))]) (va_A [(h0, .inr (4, [.ref qf0, .ref qf1])), (qf1, .inl (cf1, 256, .inl f1)), (qf0, .inl (cf0, 16, .inl f0))] sz)) 0 0 (va_A [(h0, .inr (4, [.ref qf0, .ref qf1])), (qf1, .inl (cf1, 256, .inl f1)), (qf0, .inl (cf0, 16, .inl f0))] sz) := by
  refine Met.ofW (cc := cX4_settle) (maxL := 4) (ret := none) (by decide) rfl ?_
  intro p e s m args below meth c s₁ B hml hv
  obtain ⟨rfl, hsz, hP, hK, hD0⟩ := hv
  have hx := B.exec
  have hb := B.bytes
  have hr := B.returns
  have hts := atoms_spec (ws := (.code yX4_settle cX4_settle 4 none :: VS_h3)) B.pre
  replace hts := fun w (h : w ∈ VS_h3) => hts w (List.mem_cons_of_mem _ h)
  have hown : s.vm.findClass RX4 = some m.cls := findClass_of_methodNamed B.named
  have hlocks := B.notSynchronized
  subst hsz
  have hD := hD0.self (sz := s.heap.size)
  generalize hAe : va_A [(h0, .inr (4, [.ref qf0, .ref qf1])), (qf1, .inl (cf1, 256, .inl f1)), (qf0, .inl (cf0, 16, .inl f0))] s.heap.size = A at hD  ⊢
  have hA : ∀ q : Nat, s.heap.size ≤ q → A q := fun q h => by rw [← hAe]; exact Or.inr h
  have hP : va_P (dC, dI) vwCl [(h0, .inr (4, [.ref qf0, .ref qf1])), (qf1, .inl (cf1, 256, .inl f1)), (qf0, .inl (cf0, 16, .inl f0))] s.heap := hP
  have hl := lv_entry ([.ref h0]) (n := 4) (Nat.le_of_ble_eq_true rfl)
  rw [lg_entry_eq]
  generalize (lg_sl ([.ref h0]) ++ List.replicate (4 - (lg_sl ([.ref h0])).length) Slot.unset).toArray = ls at hl ⊢
  have hl : lv_has ls 4 [(0, .ref h0)] := hl
  obtain ⟨H, hH⟩ : ∃ H : Heap, s.heap = H := ⟨_, rfl⟩
  rw [hH] at hP ⊢
  have hS : va_S A s.heap H [] := by rw [← hH]; exact va_S.rf
  obtain ⟨locs, hlo⟩ : ∃ locs : List Loc, locs = [] := ⟨_, rfl⟩
  rw [← hlo] at hS ⊢
  unfold sp_t4_settle at hsp
  refine lv_iconst (v := 0) hx hb dX4_settle_0 (by decide) ?_
  refine lv_istore_n (lv' := [(1, .int 0), (0, .ref h0)]) hx hb dX4_settle_1 rfl hl (by decide) rfl (fun ls hl => ?_)
  replace hP := hP.sub (ws' := [(h0, .inr (4, [.ref qf0, .ref qf1])), (qf1, .inl (cf1, 256, .inl f1)), (qf0, .inl (cf0, 16, .inl f0))]) [0, 1, 2] rfl
  replace hD := hD.sub (ws' := [(h0, .inr (4, [.ref qf0, .ref qf1])), (qf1, .inl (cf1, 256, .inl f1)), (qf0, .inl (cf0, 16, .inl f0))]) [0, 1, 2] (by decide) rfl
  replace hK := hK.sub (tys' := [(cf1, .boolean), (cf0, .int)]) [0, 1] rfl
  obtain ⟨n_2, hn_2⟩ : ∃ z : Nat, z = nf := ⟨_, rfl⟩
  obtain ⟨l1_2, el1_2⟩ : ∃ z : Int32, z = 0 := ⟨_, rfl⟩
  obtain ⟨g1_2, eg1_2⟩ : ∃ z : Nat → Int32, z = f1 := ⟨_, rfl⟩
  replace hsp : lp_t4_settle_2 nf n_2 f1 f0 l1_2 g1_2 = some o1 := by rw [hn_2, el1_2, eg1_2]; exact hsp
  replace hl : lv_has ls 4 [(1, .int l1_2), (0, .ref h0)] := by rw [el1_2]; exact hl
  replace hP : va_P (dC, dI) vwCl [(h0, .inr (4, [.ref qf0, .ref qf1])), (qf1, .inl (cf1, 256, .inl g1_2)), (qf0, .inl (cf0, 16, .inl f0))] H := by rw [eg1_2]; exact hP
  replace hD : va_D A [(h0, .inr (4, [.ref qf0, .ref qf1])), (qf1, .inl (cf1, 256, .inl g1_2)), (qf0, .inl (cf0, 16, .inl f0))] := by rw [eg1_2]; exact hD
  clear hn_2 el1_2 eg1_2
  try clear hlo
  try clear hH
  revert hsp
  revert hP
  revert hD
  revert hS
  revert hl
  revert g1_2
  revert l1_2
  revert ls
  revert locs
  revert H
  induction n_2 with
  | zero => intro H locs ls l1_2 g1_2 hl hS hD hP hsp; unfold lp_t4_settle_2 at hsp; cases hsp
  | succ n_2 ih_2 =>
    intro H locs ls l1_2 g1_2 hl hS hD hP hsp
    unfold lp_t4_settle_2 at hsp
    try dsimp only at hsp
    refine lv_iload_n hx hb dX4_settle_2 rfl (lv_at hl 0 rfl) ?_
    refine lv_bipush (v := 16) hx hb dX4_settle_3 (by decide) ?_
    refine lv_icmp_ge (tgt := 85) hx hb dX4_settle_5 (by decide) (fun c_1 => ?_) (fun c_1 => ?_)
    · rw [if_pos c_1] at hsp
      have hr0 := Option.some.inj hsp
      clear hsp
      subst hr0
      have hP9 := hP.sub (ws' := [(h0, .inr (4, [.ref qf0, .ref qf1])), (qf1, .inl (cf1, 256, .inl g1_2)), (qf0, .inl (cf0, 16, .inl f0))]) [0, 1, 2] rfl
      have hD9 := hD.sub (ws' := [(h0, .inr (4, [.ref qf0, .ref qf1])), (qf1, .inl (cf1, 256, .inl g1_2)), (qf0, .inl (cf0, 16, .inl f0))]) [0, 1, 2] (by decide) rfl
      have hK9 := hK.sub (tys' := [(cf1, .boolean), (cf0, .int)]) [0, 1] rfl
      exact W.vret hx hb hr (fun t ht hW => ⟨⟨(), rfl, trivial, by rw [ht]; exact hP9, va_K.moved hW.alike hK9, hD9⟩, hS.F ht⟩) hS.2.2 dX4_settle_85
    · rw [if_neg c_1] at hsp
      refine lv_iconst (v := 0) hx hb dX4_settle_8 (by decide) ?_
      refine lv_istore_n (lv' := [(2, .int 0), (1, .int l1_2), (0, .ref h0)]) hx hb dX4_settle_9 rfl hl (by decide) rfl (fun ls hl => ?_)
      replace hP := hP.sub (ws' := [(h0, .inr (4, [.ref qf0, .ref qf1])), (qf1, .inl (cf1, 256, .inl g1_2)), (qf0, .inl (cf0, 16, .inl f0))]) [0, 1, 2] rfl
      replace hD := hD.sub (ws' := [(h0, .inr (4, [.ref qf0, .ref qf1])), (qf1, .inl (cf1, 256, .inl g1_2)), (qf0, .inl (cf0, 16, .inl f0))]) [0, 1, 2] (by decide) rfl
      replace hK := hK.sub (tys' := [(cf1, .boolean), (cf0, .int)]) [0, 1] rfl
      obtain ⟨n_10, hn_10⟩ : ∃ z : Nat, z = nf := ⟨_, rfl⟩
      obtain ⟨l1_10, el1_10⟩ : ∃ z : Int32, z = l1_2 := ⟨_, rfl⟩
      obtain ⟨l2_10, el2_10⟩ : ∃ z : Int32, z = 0 := ⟨_, rfl⟩
      obtain ⟨g1_10, eg1_10⟩ : ∃ z : Nat → Int32, z = g1_2 := ⟨_, rfl⟩
      replace hsp : lp_t4_settle_10 nf n_10 f1 f0 (lp_t4_settle_2 nf n_2 f1 f0) l1_10 l2_10 g1_10 = some o1 := by rw [hn_10, el1_10, el2_10, eg1_10]; exact hsp
      replace hl : lv_has ls 4 [(2, .int l2_10), (1, .int l1_10), (0, .ref h0)] := by rw [el1_10, el2_10]; exact hl
      replace hP : va_P (dC, dI) vwCl [(h0, .inr (4, [.ref qf0, .ref qf1])), (qf1, .inl (cf1, 256, .inl g1_10)), (qf0, .inl (cf0, 16, .inl f0))] H := by rw [eg1_10]; exact hP
      replace hD : va_D A [(h0, .inr (4, [.ref qf0, .ref qf1])), (qf1, .inl (cf1, 256, .inl g1_10)), (qf0, .inl (cf0, 16, .inl f0))] := by rw [eg1_10]; exact hD
      clear hn_10 el1_10 el2_10 eg1_10
      try clear hlo
      try clear hH
      revert hsp
      revert hP
      revert hD
      revert hS
      revert hl
      revert g1_10
      revert l2_10
      revert l1_10
      revert ls
      revert locs
      revert H
      induction n_10 with
      | zero => intro H locs ls l1_10 l2_10 g1_10 hl hS hD hP hsp; unfold lp_t4_settle_10 at hsp; cases hsp
      | succ n_10 ih_10 =>
        intro H locs ls l1_10 l2_10 g1_10 hl hS hD hP hsp
        unfold lp_t4_settle_10 at hsp
        try dsimp only at hsp
        refine lv_iload_n hx hb dX4_settle_10 rfl (lv_at hl 0 rfl) ?_
        refine lv_bipush (v := 16) hx hb dX4_settle_11 (by decide) ?_
        refine lv_icmp_ge (tgt := 34) hx hb dX4_settle_13 (by decide) (fun c_2 => ?_) (fun c_2 => ?_)
        · rw [if_pos c_2] at hsp
          refine lv_iload_n hx hb dX4_settle_34 rfl (lv_at hl 1 rfl) ?_
          refine lv_istore_n (lv' := [(2, .int l1_10), (1, .int l1_10), (0, .ref h0)]) hx hb dX4_settle_35 rfl hl (by decide) rfl (fun ls hl => ?_)
          refine lv_iconst (v := 0) hx hb dX4_settle_36 (by decide) ?_
          refine lv_istore_n (lv' := [(3, .int 0), (2, .int l1_10), (1, .int l1_10), (0, .ref h0)]) hx hb dX4_settle_37 rfl hl (by decide) rfl (fun ls hl => ?_)
          replace hP := hP.sub (ws' := [(h0, .inr (4, [.ref qf0, .ref qf1])), (qf1, .inl (cf1, 256, .inl g1_10)), (qf0, .inl (cf0, 16, .inl f0))]) [0, 1, 2] rfl
          replace hD := hD.sub (ws' := [(h0, .inr (4, [.ref qf0, .ref qf1])), (qf1, .inl (cf1, 256, .inl g1_10)), (qf0, .inl (cf0, 16, .inl f0))]) [0, 1, 2] (by decide) rfl
          replace hK := hK.sub (tys' := [(cf1, .boolean), (cf0, .int)]) [0, 1] rfl
          obtain ⟨n_38, hn_38⟩ : ∃ z : Nat, z = nf := ⟨_, rfl⟩
          obtain ⟨l1_38, el1_38⟩ : ∃ z : Int32, z = l1_10 := ⟨_, rfl⟩
          obtain ⟨l2_38, el2_38⟩ : ∃ z : Int32, z = l1_10 := ⟨_, rfl⟩
          obtain ⟨l3_38, el3_38⟩ : ∃ z : Int32, z = 0 := ⟨_, rfl⟩
          obtain ⟨g1_38, eg1_38⟩ : ∃ z : Nat → Int32, z = g1_10 := ⟨_, rfl⟩
          replace hsp : lp_t4_settle_38 nf n_38 f1 f0 (lp_t4_settle_2 nf n_2 f1 f0) (lp_t4_settle_10 nf n_10 f1 f0 (lp_t4_settle_2 nf n_2 f1 f0)) l1_38 l2_38 l3_38 g1_38 = some o1 := by rw [hn_38, el1_38, el2_38, el3_38, eg1_38]; exact hsp
          replace hl : lv_has ls 4 [(3, .int l3_38), (2, .int l2_38), (1, .int l1_38), (0, .ref h0)] := by rw [el1_38, el2_38, el3_38]; exact hl
          replace hP : va_P (dC, dI) vwCl [(h0, .inr (4, [.ref qf0, .ref qf1])), (qf1, .inl (cf1, 256, .inl g1_38)), (qf0, .inl (cf0, 16, .inl f0))] H := by rw [eg1_38]; exact hP
          replace hD : va_D A [(h0, .inr (4, [.ref qf0, .ref qf1])), (qf1, .inl (cf1, 256, .inl g1_38)), (qf0, .inl (cf0, 16, .inl f0))] := by rw [eg1_38]; exact hD
          clear hn_38 el1_38 el2_38 el3_38 eg1_38
          try clear hlo
          try clear hH
          revert hsp
          revert hP
          revert hD
          revert hS
          revert hl
          revert g1_38
          revert l3_38
          revert l2_38
          revert l1_38
          revert ls
          revert locs
          revert H
          induction n_38 with
          | zero => intro H locs ls l1_38 l2_38 l3_38 g1_38 hl hS hD hP hsp; unfold lp_t4_settle_38 at hsp; cases hsp
          | succ n_38 ih_38 =>
            intro H locs ls l1_38 l2_38 l3_38 g1_38 hl hS hD hP hsp
            unfold lp_t4_settle_38 at hsp
            try dsimp only at hsp
            refine lv_iload_n hx hb dX4_settle_38 rfl (lv_at hl 0 rfl) ?_
            refine lv_bipush (v := 16) hx hb dX4_settle_39 (by decide) ?_
            refine lv_icmp_ge (tgt := 79) hx hb dX4_settle_41 (by decide) (fun c_3 => ?_) (fun c_3 => ?_)
            · rw [if_pos c_3] at hsp
              refine lv_iinc (v := (l1_38 + 1)) (lv' := [(1, .int (l1_38 + 1)), (3, .int l3_38), (2, .int l2_38), (0, .ref h0)]) hx hb dX4_settle_79 hl (k := 2) rfl rfl (by decide) rfl (fun ls hl => ?_)
              refine lv_goto (tgt := 2) hx hb dX4_settle_82 (by decide) ?_
              exact ih_2 H locs ls (l1_38 + 1) g1_38 (lv_sub hl [0, 3] rfl) hS (hD.sub (ws' := [(h0, .inr (4, [.ref qf0, .ref qf1])), (qf1, .inl (cf1, 256, .inl g1_38)), (qf0, .inl (cf0, 16, .inl f0))]) [0, 1, 2] (by decide) rfl) (hP.sub (ws' := [(h0, .inr (4, [.ref qf0, .ref qf1])), (qf1, .inl (cf1, 256, .inl g1_38)), (qf0, .inl (cf0, 16, .inl f0))]) [0, 1, 2] rfl) hsp
            · rw [if_neg c_3] at hsp
              refine lv_iload_n hx hb dX4_settle_44 rfl (lv_at hl 1 rfl) ?_
              refine lv_if_lt (tgt := 79) hx hb dX4_settle_45 (by decide) (fun c_4 => ?_) (fun c_4 => ?_)
              · rw [if_pos c_4] at hsp
                refine lv_iinc (v := (l1_38 + 1)) (lv' := [(1, .int (l1_38 + 1)), (3, .int l3_38), (2, .int l2_38), (0, .ref h0)]) hx hb dX4_settle_79 hl (k := 2) rfl rfl (by decide) rfl (fun ls hl => ?_)
                refine lv_goto (tgt := 2) hx hb dX4_settle_82 (by decide) ?_
                exact ih_2 H locs ls (l1_38 + 1) g1_38 (lv_sub hl [0, 3] rfl) hS (hD.sub (ws' := [(h0, .inr (4, [.ref qf0, .ref qf1])), (qf1, .inl (cf1, 256, .inl g1_38)), (qf0, .inl (cf0, 16, .inl f0))]) [0, 1, 2] (by decide) rfl) (hP.sub (ws' := [(h0, .inr (4, [.ref qf0, .ref qf1])), (qf1, .inl (cf1, 256, .inl g1_38)), (qf0, .inl (cf0, 16, .inl f0))]) [0, 1, 2] rfl) hsp
              · rw [if_neg c_4] at hsp
                refine lv_iload_n hx hb dX4_settle_48 rfl (lv_at hl 1 rfl) ?_
                refine lv_bipush (v := 16) hx hb dX4_settle_49 (by decide) ?_
                refine lv_icmp_ge (tgt := 79) hx hb dX4_settle_51 (by decide) (fun c_5 => ?_) (fun c_5 => ?_)
                · rw [if_pos c_5] at hsp
                  refine lv_iinc (v := (l1_38 + 1)) (lv' := [(1, .int (l1_38 + 1)), (3, .int l3_38), (2, .int l2_38), (0, .ref h0)]) hx hb dX4_settle_79 hl (k := 2) rfl rfl (by decide) rfl (fun ls hl => ?_)
                  refine lv_goto (tgt := 2) hx hb dX4_settle_82 (by decide) ?_
                  exact ih_2 H locs ls (l1_38 + 1) g1_38 (lv_sub hl [0, 3] rfl) hS (hD.sub (ws' := [(h0, .inr (4, [.ref qf0, .ref qf1])), (qf1, .inl (cf1, 256, .inl g1_38)), (qf0, .inl (cf0, 16, .inl f0))]) [0, 1, 2] (by decide) rfl) (hP.sub (ws' := [(h0, .inr (4, [.ref qf0, .ref qf1])), (qf1, .inl (cf1, 256, .inl g1_38)), (qf0, .inl (cf0, 16, .inl f0))]) [0, 1, 2] rfl) hsp
                · rw [if_neg c_5] at hsp
                  refine lv_aload_n hx hb dX4_settle_54 rfl (lv_at hl 3 rfl) ?_
                  refine va_get (D := (dC, dI)) (ci := 4) (v := .ref qf1) (C := RX4) (T := TX4) (N := 2) hx hb hts uV_h3_X4 hown hK hP 0 rfl rfl 1 (by decide) (hts (.fieldLink RX4 15 "ClassMill$Kin" "under" "[Z") mw_h3_0) (fun _ h9 => h9) rfl dX4_settle_55 ?_
                  refine lv_iload_n hx hb dX4_settle_58 rfl (lv_at hl 2 rfl) ?_
                  refine lv_bipush (v := 16) hx hb dX4_settle_59 (by decide) ?_
                  refine lv_imul hx hb dX4_settle_61 ?_
                  refine lv_iload_n hx hb dX4_settle_62 rfl (lv_at hl 1 rfl) ?_
                  refine lv_iadd hx hb dX4_settle_63 ?_
                  refine lv_iconst (v := 1) hx hb dX4_settle_64 (by decide) ?_
                  obtain ⟨hi_6, hsp⟩ := ox_in hsp
                  refine va_zast hx hb hK hP hD hS 1 0 rfl rfl (i := ((l1_38 * 16) + l2_38)) (x := 1) hi_6 dX4_settle_65 ?_
                  clear hP hD hS
                  intro H locs hP hD hS
                  replace hP : va_P (dC, dI) vwCl [(h0, .inr (4, [.ref qf0, .ref qf1])), (qf1, .inl (cf1, 256, .inl (upd g1_38 (((l1_38 * 16) + l2_38) : Int32).toNatClampNeg (vp_nar .boolean 1)))), (qf0, .inl (cf0, 16, .inl f0))] H := hP
                  replace hD : va_D A [(h0, .inr (4, [.ref qf0, .ref qf1])), (qf1, .inl (cf1, 256, .inl (upd g1_38 (((l1_38 * 16) + l2_38) : Int32).toNatClampNeg (vp_nar .boolean 1)))), (qf0, .inl (cf0, 16, .inl f0))] := hD
                  refine lv_aload_n hx hb dX4_settle_66 rfl (lv_at hl 3 rfl) ?_
                  refine va_get (D := (dC, dI)) (ci := 4) (v := .ref qf0) (C := RX4) (T := TX4) (N := 2) hx hb hts uV_h3_X4 hown hK hP 0 rfl rfl 0 (by decide) (hts (.fieldLink RX4 11 "ClassMill$Kin" "above" "[I") mw_h3_1) (fun _ h9 => h9) rfl dX4_settle_67 ?_
                  refine lv_iload_n hx hb dX4_settle_70 rfl (lv_at hl 1 rfl) ?_
                  obtain ⟨hi_7, hsp⟩ := ox_in hsp
                  refine va_iald hx hb hK hP 2 1 rfl rfl (i := l2_38) hi_7 dX4_settle_71 ?_
                  refine lv_istore_n (lv' := [(2, .int (f0 (l2_38 : Int32).toNatClampNeg)), (3, .int l3_38), (1, .int l1_38), (0, .ref h0)]) hx hb dX4_settle_72 rfl hl (by decide) rfl (fun ls hl => ?_)
                  refine lv_iinc (v := (l3_38 + 1)) (lv' := [(3, .int (l3_38 + 1)), (2, .int (f0 (l2_38 : Int32).toNatClampNeg)), (1, .int l1_38), (0, .ref h0)]) hx hb dX4_settle_73 hl (k := 1) rfl rfl (by decide) rfl (fun ls hl => ?_)
                  refine lv_goto (tgt := 38) hx hb dX4_settle_76 (by decide) ?_
                  exact ih_38 H locs ls l1_38 (f0 (l2_38 : Int32).toNatClampNeg) (l3_38 + 1) (upd g1_38 (((l1_38 * 16) + l2_38) : Int32).toNatClampNeg (vp_nar .boolean 1)) (lv_sub hl [0, 1, 2, 3] rfl) hS (hD.sub (ws' := [(h0, .inr (4, [.ref qf0, .ref qf1])), (qf1, .inl (cf1, 256, .inl (upd g1_38 (((l1_38 * 16) + l2_38) : Int32).toNatClampNeg (vp_nar .boolean 1)))), (qf0, .inl (cf0, 16, .inl f0))]) [0, 1, 2] (by decide) rfl) (hP.sub (ws' := [(h0, .inr (4, [.ref qf0, .ref qf1])), (qf1, .inl (cf1, 256, .inl (upd g1_38 (((l1_38 * 16) + l2_38) : Int32).toNatClampNeg (vp_nar .boolean 1)))), (qf0, .inl (cf0, 16, .inl f0))]) [0, 1, 2] rfl) hsp
        · rw [if_neg c_2] at hsp
          refine lv_aload_n hx hb dX4_settle_16 rfl (lv_at hl 2 rfl) ?_
          refine va_get (D := (dC, dI)) (ci := 4) (v := .ref qf1) (C := RX4) (T := TX4) (N := 2) hx hb hts uV_h3_X4 hown hK hP 0 rfl rfl 1 (by decide) (hts (.fieldLink RX4 15 "ClassMill$Kin" "under" "[Z") mw_h3_0) (fun _ h9 => h9) rfl dX4_settle_17 ?_
          refine lv_iload_n hx hb dX4_settle_20 rfl (lv_at hl 1 rfl) ?_
          refine lv_bipush (v := 16) hx hb dX4_settle_21 (by decide) ?_
          refine lv_imul hx hb dX4_settle_23 ?_
          refine lv_iload_n hx hb dX4_settle_24 rfl (lv_at hl 0 rfl) ?_
          refine lv_iadd hx hb dX4_settle_25 ?_
          refine lv_iconst (v := 0) hx hb dX4_settle_26 (by decide) ?_
          obtain ⟨hi_8, hsp⟩ := ox_in hsp
          refine va_zast hx hb hK hP hD hS 1 0 rfl rfl (i := ((l1_10 * 16) + l2_10)) (x := 0) hi_8 dX4_settle_27 ?_
          clear hP hD hS
          intro H locs hP hD hS
          replace hP : va_P (dC, dI) vwCl [(h0, .inr (4, [.ref qf0, .ref qf1])), (qf1, .inl (cf1, 256, .inl (upd g1_10 (((l1_10 * 16) + l2_10) : Int32).toNatClampNeg (vp_nar .boolean 0)))), (qf0, .inl (cf0, 16, .inl f0))] H := hP
          replace hD : va_D A [(h0, .inr (4, [.ref qf0, .ref qf1])), (qf1, .inl (cf1, 256, .inl (upd g1_10 (((l1_10 * 16) + l2_10) : Int32).toNatClampNeg (vp_nar .boolean 0)))), (qf0, .inl (cf0, 16, .inl f0))] := hD
          refine lv_iinc (v := (l2_10 + 1)) (lv' := [(2, .int (l2_10 + 1)), (1, .int l1_10), (0, .ref h0)]) hx hb dX4_settle_28 hl (k := 0) rfl rfl (by decide) rfl (fun ls hl => ?_)
          refine lv_goto (tgt := 10) hx hb dX4_settle_31 (by decide) ?_
          exact ih_10 H locs ls l1_10 (l2_10 + 1) (upd g1_10 (((l1_10 * 16) + l2_10) : Int32).toNatClampNeg (vp_nar .boolean 0)) (lv_sub hl [0, 1, 2] rfl) hS (hD.sub (ws' := [(h0, .inr (4, [.ref qf0, .ref qf1])), (qf1, .inl (cf1, 256, .inl (upd g1_10 (((l1_10 * 16) + l2_10) : Int32).toNatClampNeg (vp_nar .boolean 0)))), (qf0, .inl (cf0, 16, .inl f0))]) [0, 1, 2] (by decide) rfl) (hP.sub (ws' := [(h0, .inr (4, [.ref qf0, .ref qf1])), (qf1, .inl (cf1, 256, .inl (upd g1_10 (((l1_10 * 16) + l2_10) : Int32).toNatClampNeg (vp_nar .boolean 0)))), (qf0, .inl (cf0, 16, .inl f0))]) [0, 1, 2] rfl) hsp
def sp_t4_isArray (nf : Nat) (a1 : Int32) : Option (Int32) := (if a1 < 100 then (some 0) else (if 200 < a1 then (some 0) else (some 1)))
set_option maxHeartbeats 4000000 in
set_option maxRecDepth 100000 in
/-- ClassMill$Kin.isArray -/
theorem t4_isArray (l : Launch) (dC : Nat → ClassId) (dI : Nat → Nat → Nat) (sz : Nat) (a1 : Int32) (nf : Nat) (r0 : Int32) (hsp : sp_t4_isArray nf a1 = some r0) : Met l yX4_isArray (.code yX4_isArray cX4_isArray 1 (some .boolean) :: VS_h3) ({ frames := 0, cells := 0, slots := 0, locals := 0 }) (va_Pc [.int a1] (fun U => U.heap.size = sz ∧ va_P (dC, dI) vwCl [] U.heap ∧ va_K (dC, dI) vwCl [] U ∧ va_D (fun _ => True) [])) (va_Qi (fun (r : Int32) (u : Unit) => match u with | () => r0 = r ∧ (r0 = 0 ∨ r0 = 1)) (fun (u : Unit) (t : State) => match u with | () => va_P (dC, dI) vwCl [] t.heap ∧ va_K (dC, dI) vwCl [] t ∧ va_D (va_A [] sz) []) (va_A [] sz)) 0 0 (va_A [] sz) := by
  refine Met.ofW (cc := cX4_isArray) (maxL := 1) (ret := (some .boolean)) (by decide) rfl ?_
  intro p e s m args below meth c s₁ B hml hv
  obtain ⟨rfl, hsz, hP, hK, hD0⟩ := hv
  have hx := B.exec
  have hb := B.bytes
  have hr := B.returns
  have hts := atoms_spec (ws := (.code yX4_isArray cX4_isArray 1 (some .boolean) :: VS_h3)) B.pre
  replace hts := fun w (h : w ∈ VS_h3) => hts w (List.mem_cons_of_mem _ h)
  have hown : s.vm.findClass RX4 = some m.cls := findClass_of_methodNamed B.named
  have hlocks := B.notSynchronized
  subst hsz
  have hD := hD0.self (sz := s.heap.size)
  generalize hAe : va_A [] s.heap.size = A at hD  ⊢
  have hA : ∀ q : Nat, s.heap.size ≤ q → A q := fun q h => by rw [← hAe]; exact Or.inr h
  have hP : va_P (dC, dI) vwCl [] s.heap := hP
  have hl := lv_entry ([.int a1]) (n := 1) (Nat.le_of_ble_eq_true rfl)
  rw [lg_entry_eq]
  generalize (lg_sl ([.int a1]) ++ List.replicate (1 - (lg_sl ([.int a1])).length) Slot.unset).toArray = ls at hl ⊢
  have hl : lv_has ls 1 [(0, .int a1)] := hl
  obtain ⟨H, hH⟩ : ∃ H : Heap, s.heap = H := ⟨_, rfl⟩
  rw [hH] at hP ⊢
  have hS : va_S A s.heap H [] := by rw [← hH]; exact va_S.rf
  obtain ⟨locs, hlo⟩ : ∃ locs : List Loc, locs = [] := ⟨_, rfl⟩
  rw [← hlo] at hS ⊢
  unfold sp_t4_isArray at hsp
  refine lv_iload_n hx hb dX4_isArray_0 rfl (lv_at hl 0 rfl) ?_
  refine lv_bipush (v := 100) hx hb dX4_isArray_1 (by decide) ?_
  refine lv_icmp_lt (tgt := 17) hx hb dX4_isArray_3 (by decide) (fun c_1 => ?_) (fun c_1 => ?_)
  · rw [if_pos c_1] at hsp
    refine lv_iconst (v := 0) hx hb dX4_isArray_17 (by decide) ?_
    have hr0 := Option.some.inj hsp
    clear hsp
    subst hr0
    have hP9 := hP.sub (ws' := []) [] rfl
    have hD9 := hD.sub (ws' := []) [] (by decide) rfl
    have hK9 := hK.sub (tys' := []) [] rfl
    exact W.zret hx hb hr (by decide) (fun t ht hW => ⟨⟨(0), (), rfl, ⟨rfl, Or.inl rfl⟩, by rw [ht]; exact hP9, va_K.moved hW.alike hK9, hD9⟩, hS.F ht⟩) hS.2.2 dX4_isArray_18
  · rw [if_neg c_1] at hsp
    refine lv_iload_n hx hb dX4_isArray_6 rfl (lv_at hl 0 rfl) ?_
    refine lv_sipush (v := 200) hx hb dX4_isArray_7 (by decide) ?_
    refine lv_icmp_gt (tgt := 17) hx hb dX4_isArray_10 (by decide) (fun c_2 => ?_) (fun c_2 => ?_)
    · rw [if_pos c_2] at hsp
      refine lv_iconst (v := 0) hx hb dX4_isArray_17 (by decide) ?_
      have hr0 := Option.some.inj hsp
      clear hsp
      subst hr0
      have hP9 := hP.sub (ws' := []) [] rfl
      have hD9 := hD.sub (ws' := []) [] (by decide) rfl
      have hK9 := hK.sub (tys' := []) [] rfl
      exact W.zret hx hb hr (by decide) (fun t ht hW => ⟨⟨(0), (), rfl, ⟨rfl, Or.inl rfl⟩, by rw [ht]; exact hP9, va_K.moved hW.alike hK9, hD9⟩, hS.F ht⟩) hS.2.2 dX4_isArray_18
    · rw [if_neg c_2] at hsp
      refine lv_iconst (v := 1) hx hb dX4_isArray_13 (by decide) ?_
      refine lv_goto (tgt := 18) hx hb dX4_isArray_14 (by decide) ?_
      have hr0 := Option.some.inj hsp
      clear hsp
      subst hr0
      have hP9 := hP.sub (ws' := []) [] rfl
      have hD9 := hD.sub (ws' := []) [] (by decide) rfl
      have hK9 := hK.sub (tys' := []) [] rfl
      exact W.zret hx hb hr (by decide) (fun t ht hW => ⟨⟨(1), (), rfl, ⟨rfl, Or.inr rfl⟩, by rw [ht]; exact hP9, va_K.moved hW.alike hK9, hD9⟩, hS.F ht⟩) hS.2.2 dX4_isArray_18
def sp_t4_isReference (nf : Nat) (a1 : Int32) : Option (Int32) := (if a1 = 300 then (some 1) else (if a1 < 0 then (some 0) else (if 200 < a1 then (some 0) else (some 1))))
set_option maxHeartbeats 4000000 in
set_option maxRecDepth 100000 in
/-- ClassMill$Kin.isReference -/
theorem t4_isReference (l : Launch) (dC : Nat → ClassId) (dI : Nat → Nat → Nat) (sz : Nat) (a1 : Int32) (nf : Nat) (r0 : Int32) (hsp : sp_t4_isReference nf a1 = some r0) : Met l yX4_isReference (.code yX4_isReference cX4_isReference 1 (some .boolean) :: VS_h3) ({ frames := 0, cells := 0, slots := 0, locals := 0 }) (va_Pc [.int a1] (fun U => U.heap.size = sz ∧ va_P (dC, dI) vwCl [] U.heap ∧ va_K (dC, dI) vwCl [] U ∧ va_D (fun _ => True) [])) (va_Qi (fun (r : Int32) (u : Unit) => match u with | () => r0 = r ∧ (r0 = 0 ∨ r0 = 1)) (fun (u : Unit) (t : State) => match u with | () => va_P (dC, dI) vwCl [] t.heap ∧ va_K (dC, dI) vwCl [] t ∧ va_D (va_A [] sz) []) (va_A [] sz)) 0 0 (va_A [] sz) := by
  refine Met.ofW (cc := cX4_isReference) (maxL := 1) (ret := (some .boolean)) (by decide) rfl ?_
  intro p e s m args below meth c s₁ B hml hv
  obtain ⟨rfl, hsz, hP, hK, hD0⟩ := hv
  have hx := B.exec
  have hb := B.bytes
  have hr := B.returns
  have hts := atoms_spec (ws := (.code yX4_isReference cX4_isReference 1 (some .boolean) :: VS_h3)) B.pre
  replace hts := fun w (h : w ∈ VS_h3) => hts w (List.mem_cons_of_mem _ h)
  have hown : s.vm.findClass RX4 = some m.cls := findClass_of_methodNamed B.named
  have hlocks := B.notSynchronized
  subst hsz
  have hD := hD0.self (sz := s.heap.size)
  generalize hAe : va_A [] s.heap.size = A at hD  ⊢
  have hA : ∀ q : Nat, s.heap.size ≤ q → A q := fun q h => by rw [← hAe]; exact Or.inr h
  have hP : va_P (dC, dI) vwCl [] s.heap := hP
  have hl := lv_entry ([.int a1]) (n := 1) (Nat.le_of_ble_eq_true rfl)
  rw [lg_entry_eq]
  generalize (lg_sl ([.int a1]) ++ List.replicate (1 - (lg_sl ([.int a1])).length) Slot.unset).toArray = ls at hl ⊢
  have hl : lv_has ls 1 [(0, .int a1)] := hl
  obtain ⟨H, hH⟩ : ∃ H : Heap, s.heap = H := ⟨_, rfl⟩
  rw [hH] at hP ⊢
  have hS : va_S A s.heap H [] := by rw [← hH]; exact va_S.rf
  obtain ⟨locs, hlo⟩ : ∃ locs : List Loc, locs = [] := ⟨_, rfl⟩
  rw [← hlo] at hS ⊢
  unfold sp_t4_isReference at hsp
  refine lv_iload_n hx hb dX4_isReference_0 rfl (lv_at hl 0 rfl) ?_
  refine lv_sipush (v := 300) hx hb dX4_isReference_1 (by decide) ?_
  refine lv_icmp_eq (tgt := 18) hx hb dX4_isReference_4 (by decide) (fun c_1 => ?_) (fun c_1 => ?_)
  · rw [if_pos c_1] at hsp
    refine lv_iconst (v := 1) hx hb dX4_isReference_18 (by decide) ?_
    refine lv_goto (tgt := 23) hx hb dX4_isReference_19 (by decide) ?_
    have hr0 := Option.some.inj hsp
    clear hsp
    subst hr0
    have hP9 := hP.sub (ws' := []) [] rfl
    have hD9 := hD.sub (ws' := []) [] (by decide) rfl
    have hK9 := hK.sub (tys' := []) [] rfl
    exact W.zret hx hb hr (by decide) (fun t ht hW => ⟨⟨(1), (), rfl, ⟨rfl, Or.inr rfl⟩, by rw [ht]; exact hP9, va_K.moved hW.alike hK9, hD9⟩, hS.F ht⟩) hS.2.2 dX4_isReference_23
  · rw [if_neg c_1] at hsp
    refine lv_iload_n hx hb dX4_isReference_7 rfl (lv_at hl 0 rfl) ?_
    refine lv_if_lt (tgt := 22) hx hb dX4_isReference_8 (by decide) (fun c_2 => ?_) (fun c_2 => ?_)
    · rw [if_pos c_2] at hsp
      refine lv_iconst (v := 0) hx hb dX4_isReference_22 (by decide) ?_
      have hr0 := Option.some.inj hsp
      clear hsp
      subst hr0
      have hP9 := hP.sub (ws' := []) [] rfl
      have hD9 := hD.sub (ws' := []) [] (by decide) rfl
      have hK9 := hK.sub (tys' := []) [] rfl
      exact W.zret hx hb hr (by decide) (fun t ht hW => ⟨⟨(0), (), rfl, ⟨rfl, Or.inl rfl⟩, by rw [ht]; exact hP9, va_K.moved hW.alike hK9, hD9⟩, hS.F ht⟩) hS.2.2 dX4_isReference_23
    · rw [if_neg c_2] at hsp
      refine lv_iload_n hx hb dX4_isReference_11 rfl (lv_at hl 0 rfl) ?_
      refine lv_sipush (v := 200) hx hb dX4_isReference_12 (by decide) ?_
      refine lv_icmp_gt (tgt := 22) hx hb dX4_isReference_15 (by decide) (fun c_3 => ?_) (fun c_3 => ?_)
      · rw [if_pos c_3] at hsp
        refine lv_iconst (v := 0) hx hb dX4_isReference_22 (by decide) ?_
        have hr0 := Option.some.inj hsp
        clear hsp
        subst hr0
        have hP9 := hP.sub (ws' := []) [] rfl
        have hD9 := hD.sub (ws' := []) [] (by decide) rfl
        have hK9 := hK.sub (tys' := []) [] rfl
        exact W.zret hx hb hr (by decide) (fun t ht hW => ⟨⟨(0), (), rfl, ⟨rfl, Or.inl rfl⟩, by rw [ht]; exact hP9, va_K.moved hW.alike hK9, hD9⟩, hS.F ht⟩) hS.2.2 dX4_isReference_23
      · rw [if_neg c_3] at hsp
        refine lv_iconst (v := 1) hx hb dX4_isReference_18 (by decide) ?_
        refine lv_goto (tgt := 23) hx hb dX4_isReference_19 (by decide) ?_
        have hr0 := Option.some.inj hsp
        clear hsp
        subst hr0
        have hP9 := hP.sub (ws' := []) [] rfl
        have hD9 := hD.sub (ws' := []) [] (by decide) rfl
        have hK9 := hK.sub (tys' := []) [] rfl
        exact W.zret hx hb hr (by decide) (fun t ht hW => ⟨⟨(1), (), rfl, ⟨rfl, Or.inr rfl⟩, by rw [ht]; exact hP9, va_K.moved hW.alike hK9, hD9⟩, hS.F ht⟩) hS.2.2 dX4_isReference_23
def sp_t4_isNumber (nf : Nat) (a1 : Int32) : Option (Int32) := (if a1 = 301 then (some 1) else (if a1 = 302 then (some 1) else (some 0)))
set_option maxHeartbeats 4000000 in
set_option maxRecDepth 100000 in
/-- ClassMill$Kin.isNumber -/
theorem t4_isNumber (l : Launch) (dC : Nat → ClassId) (dI : Nat → Nat → Nat) (sz : Nat) (a1 : Int32) (nf : Nat) (r0 : Int32) (hsp : sp_t4_isNumber nf a1 = some r0) : Met l yX4_isNumber (.code yX4_isNumber cX4_isNumber 1 (some .boolean) :: VS_h3) ({ frames := 0, cells := 0, slots := 0, locals := 0 }) (va_Pc [.int a1] (fun U => U.heap.size = sz ∧ va_P (dC, dI) vwCl [] U.heap ∧ va_K (dC, dI) vwCl [] U ∧ va_D (fun _ => True) [])) (va_Qi (fun (r : Int32) (u : Unit) => match u with | () => r0 = r ∧ (r0 = 0 ∨ r0 = 1)) (fun (u : Unit) (t : State) => match u with | () => va_P (dC, dI) vwCl [] t.heap ∧ va_K (dC, dI) vwCl [] t ∧ va_D (va_A [] sz) []) (va_A [] sz)) 0 0 (va_A [] sz) := by
  refine Met.ofW (cc := cX4_isNumber) (maxL := 1) (ret := (some .boolean)) (by decide) rfl ?_
  intro p e s m args below meth c s₁ B hml hv
  obtain ⟨rfl, hsz, hP, hK, hD0⟩ := hv
  have hx := B.exec
  have hb := B.bytes
  have hr := B.returns
  have hts := atoms_spec (ws := (.code yX4_isNumber cX4_isNumber 1 (some .boolean) :: VS_h3)) B.pre
  replace hts := fun w (h : w ∈ VS_h3) => hts w (List.mem_cons_of_mem _ h)
  have hown : s.vm.findClass RX4 = some m.cls := findClass_of_methodNamed B.named
  have hlocks := B.notSynchronized
  subst hsz
  have hD := hD0.self (sz := s.heap.size)
  generalize hAe : va_A [] s.heap.size = A at hD  ⊢
  have hA : ∀ q : Nat, s.heap.size ≤ q → A q := fun q h => by rw [← hAe]; exact Or.inr h
  have hP : va_P (dC, dI) vwCl [] s.heap := hP
  have hl := lv_entry ([.int a1]) (n := 1) (Nat.le_of_ble_eq_true rfl)
  rw [lg_entry_eq]
  generalize (lg_sl ([.int a1]) ++ List.replicate (1 - (lg_sl ([.int a1])).length) Slot.unset).toArray = ls at hl ⊢
  have hl : lv_has ls 1 [(0, .int a1)] := hl
  obtain ⟨H, hH⟩ : ∃ H : Heap, s.heap = H := ⟨_, rfl⟩
  rw [hH] at hP ⊢
  have hS : va_S A s.heap H [] := by rw [← hH]; exact va_S.rf
  obtain ⟨locs, hlo⟩ : ∃ locs : List Loc, locs = [] := ⟨_, rfl⟩
  rw [← hlo] at hS ⊢
  unfold sp_t4_isNumber at hsp
  refine lv_iload_n hx hb dX4_isNumber_0 rfl (lv_at hl 0 rfl) ?_
  refine lv_sipush (v := 301) hx hb dX4_isNumber_1 (by decide) ?_
  refine lv_icmp_eq (tgt := 14) hx hb dX4_isNumber_4 (by decide) (fun c_1 => ?_) (fun c_1 => ?_)
  · rw [if_pos c_1] at hsp
    refine lv_iconst (v := 1) hx hb dX4_isNumber_14 (by decide) ?_
    refine lv_goto (tgt := 19) hx hb dX4_isNumber_15 (by decide) ?_
    have hr0 := Option.some.inj hsp
    clear hsp
    subst hr0
    have hP9 := hP.sub (ws' := []) [] rfl
    have hD9 := hD.sub (ws' := []) [] (by decide) rfl
    have hK9 := hK.sub (tys' := []) [] rfl
    exact W.zret hx hb hr (by decide) (fun t ht hW => ⟨⟨(1), (), rfl, ⟨rfl, Or.inr rfl⟩, by rw [ht]; exact hP9, va_K.moved hW.alike hK9, hD9⟩, hS.F ht⟩) hS.2.2 dX4_isNumber_19
  · rw [if_neg c_1] at hsp
    refine lv_iload_n hx hb dX4_isNumber_7 rfl (lv_at hl 0 rfl) ?_
    refine lv_sipush (v := 302) hx hb dX4_isNumber_8 (by decide) ?_
    refine lv_icmp_ne (tgt := 18) hx hb dX4_isNumber_11 (by decide) (fun c_2 => ?_) (fun c_2 => ?_)
    · rw [if_neg c_2] at hsp
      refine lv_iconst (v := 0) hx hb dX4_isNumber_18 (by decide) ?_
      have hr0 := Option.some.inj hsp
      clear hsp
      subst hr0
      have hP9 := hP.sub (ws' := []) [] rfl
      have hD9 := hD.sub (ws' := []) [] (by decide) rfl
      have hK9 := hK.sub (tys' := []) [] rfl
      exact W.zret hx hb hr (by decide) (fun t ht hW => ⟨⟨(0), (), rfl, ⟨rfl, Or.inl rfl⟩, by rw [ht]; exact hP9, va_K.moved hW.alike hK9, hD9⟩, hS.F ht⟩) hS.2.2 dX4_isNumber_19
    · rw [if_pos c_2] at hsp
      refine lv_iconst (v := 1) hx hb dX4_isNumber_14 (by decide) ?_
      refine lv_goto (tgt := 19) hx hb dX4_isNumber_15 (by decide) ?_
      have hr0 := Option.some.inj hsp
      clear hsp
      subst hr0
      have hP9 := hP.sub (ws' := []) [] rfl
      have hD9 := hD.sub (ws' := []) [] (by decide) rfl
      have hK9 := hK.sub (tys' := []) [] rfl
      exact W.zret hx hb hr (by decide) (fun t ht hW => ⟨⟨(1), (), rfl, ⟨rfl, Or.inr rfl⟩, by rw [ht]; exact hP9, va_K.moved hW.alike hK9, hD9⟩, hS.F ht⟩) hS.2.2 dX4_isNumber_19
def sp_t4_elementOf (nf : Nat) (a1 : Int32) : Option (Int32) := (if a1 = 200 then (some 301) else (if a1 < 100 then (some 305) else (if 200 ≤ a1 then (some 305) else (some (a1 - 100)))))
set_option maxHeartbeats 4000000 in
set_option maxRecDepth 100000 in
/-- ClassMill$Kin.elementOf -/
theorem t4_elementOf (l : Launch) (dC : Nat → ClassId) (dI : Nat → Nat → Nat) (sz : Nat) (a1 : Int32) (nf : Nat) (r0 : Int32) (hsp : sp_t4_elementOf nf a1 = some r0) : Met l yX4_elementOf (.code yX4_elementOf cX4_elementOf 1 (some .int) :: VS_h3) ({ frames := 0, cells := 0, slots := 0, locals := 0 }) (va_Pc [.int a1] (fun U => U.heap.size = sz ∧ va_P (dC, dI) vwCl [] U.heap ∧ va_K (dC, dI) vwCl [] U ∧ va_D (fun _ => True) [])) (va_Qi (fun (r : Int32) (u : Unit) => match u with | () => r0 = r) (fun (u : Unit) (t : State) => match u with | () => va_P (dC, dI) vwCl [] t.heap ∧ va_K (dC, dI) vwCl [] t ∧ va_D (va_A [] sz) []) (va_A [] sz)) 0 0 (va_A [] sz) := by
  refine Met.ofW (cc := cX4_elementOf) (maxL := 1) (ret := (some .int)) (by decide) rfl ?_
  intro p e s m args below meth c s₁ B hml hv
  obtain ⟨rfl, hsz, hP, hK, hD0⟩ := hv
  have hx := B.exec
  have hb := B.bytes
  have hr := B.returns
  have hts := atoms_spec (ws := (.code yX4_elementOf cX4_elementOf 1 (some .int) :: VS_h3)) B.pre
  replace hts := fun w (h : w ∈ VS_h3) => hts w (List.mem_cons_of_mem _ h)
  have hown : s.vm.findClass RX4 = some m.cls := findClass_of_methodNamed B.named
  have hlocks := B.notSynchronized
  subst hsz
  have hD := hD0.self (sz := s.heap.size)
  generalize hAe : va_A [] s.heap.size = A at hD  ⊢
  have hA : ∀ q : Nat, s.heap.size ≤ q → A q := fun q h => by rw [← hAe]; exact Or.inr h
  have hP : va_P (dC, dI) vwCl [] s.heap := hP
  have hl := lv_entry ([.int a1]) (n := 1) (Nat.le_of_ble_eq_true rfl)
  rw [lg_entry_eq]
  generalize (lg_sl ([.int a1]) ++ List.replicate (1 - (lg_sl ([.int a1])).length) Slot.unset).toArray = ls at hl ⊢
  have hl : lv_has ls 1 [(0, .int a1)] := hl
  obtain ⟨H, hH⟩ : ∃ H : Heap, s.heap = H := ⟨_, rfl⟩
  rw [hH] at hP ⊢
  have hS : va_S A s.heap H [] := by rw [← hH]; exact va_S.rf
  obtain ⟨locs, hlo⟩ : ∃ locs : List Loc, locs = [] := ⟨_, rfl⟩
  rw [← hlo] at hS ⊢
  unfold sp_t4_elementOf at hsp
  refine lv_iload_n hx hb dX4_elementOf_0 rfl (lv_at hl 0 rfl) ?_
  refine lv_sipush (v := 200) hx hb dX4_elementOf_1 (by decide) ?_
  refine lv_icmp_ne (tgt := 11) hx hb dX4_elementOf_4 (by decide) (fun c_1 => ?_) (fun c_1 => ?_)
  · rw [if_neg c_1] at hsp
    refine lv_iload_n hx hb dX4_elementOf_11 rfl (lv_at hl 0 rfl) ?_
    refine lv_bipush (v := 100) hx hb dX4_elementOf_12 (by decide) ?_
    refine lv_icmp_lt (tgt := 31) hx hb dX4_elementOf_14 (by decide) (fun c_2 => ?_) (fun c_2 => ?_)
    · rw [if_pos c_2] at hsp
      refine lv_sipush (v := 305) hx hb dX4_elementOf_31 (by decide) ?_
      have hr0 := Option.some.inj hsp
      clear hsp
      subst hr0
      have hP9 := hP.sub (ws' := []) [] rfl
      have hD9 := hD.sub (ws' := []) [] (by decide) rfl
      have hK9 := hK.sub (tys' := []) [] rfl
      exact W.iret hx hb hr (fun t ht hW => ⟨⟨(305), (), rfl, rfl, by rw [ht]; exact hP9, va_K.moved hW.alike hK9, hD9⟩, hS.F ht⟩) hS.2.2 dX4_elementOf_34
    · rw [if_neg c_2] at hsp
      refine lv_iload_n hx hb dX4_elementOf_17 rfl (lv_at hl 0 rfl) ?_
      refine lv_sipush (v := 200) hx hb dX4_elementOf_18 (by decide) ?_
      refine lv_icmp_ge (tgt := 31) hx hb dX4_elementOf_21 (by decide) (fun c_3 => ?_) (fun c_3 => ?_)
      · rw [if_pos c_3] at hsp
        refine lv_sipush (v := 305) hx hb dX4_elementOf_31 (by decide) ?_
        have hr0 := Option.some.inj hsp
        clear hsp
        subst hr0
        have hP9 := hP.sub (ws' := []) [] rfl
        have hD9 := hD.sub (ws' := []) [] (by decide) rfl
        have hK9 := hK.sub (tys' := []) [] rfl
        exact W.iret hx hb hr (fun t ht hW => ⟨⟨(305), (), rfl, rfl, by rw [ht]; exact hP9, va_K.moved hW.alike hK9, hD9⟩, hS.F ht⟩) hS.2.2 dX4_elementOf_34
      · rw [if_neg c_3] at hsp
        refine lv_iload_n hx hb dX4_elementOf_24 rfl (lv_at hl 0 rfl) ?_
        refine lv_bipush (v := 100) hx hb dX4_elementOf_25 (by decide) ?_
        refine lv_isub hx hb dX4_elementOf_27 ?_
        refine lv_goto (tgt := 34) hx hb dX4_elementOf_28 (by decide) ?_
        have hr0 := Option.some.inj hsp
        clear hsp
        subst hr0
        have hP9 := hP.sub (ws' := []) [] rfl
        have hD9 := hD.sub (ws' := []) [] (by decide) rfl
        have hK9 := hK.sub (tys' := []) [] rfl
        exact W.iret hx hb hr (fun t ht hW => ⟨⟨((a1 - 100)), (), rfl, rfl, by rw [ht]; exact hP9, va_K.moved hW.alike hK9, hD9⟩, hS.F ht⟩) hS.2.2 dX4_elementOf_34
  · rw [if_pos c_1] at hsp
    refine lv_sipush (v := 301) hx hb dX4_elementOf_7 (by decide) ?_
    have hr0 := Option.some.inj hsp
    clear hsp
    subst hr0
    have hP9 := hP.sub (ws' := []) [] rfl
    have hD9 := hD.sub (ws' := []) [] (by decide) rfl
    have hK9 := hK.sub (tys' := []) [] rfl
    exact W.iret hx hb hr (fun t ht hW => ⟨⟨(301), (), rfl, rfl, by rw [ht]; exact hP9, va_K.moved hW.alike hK9, hD9⟩, hS.F ht⟩) hS.2.2 dX4_elementOf_10
def sp_t4_fits (nf : Nat) (a1 : Int32) (a2 : Int32) (f1 : Nat → Int32) : Option (Int32) := (if a1 = a2 then (some 1) else (if a1 = 300 then (if a2 < 0 then (some 0) else (if 200 < a2 then (some 0) else (some 1))) else (if a1 < 0 then (if a2 = 0 then (if a1 < 100 then (some 0) else (if 200 < a1 then (some 0) else (some 1))) else (if a1 < 100 then (some 0) else (if 116 ≤ a1 then (some 0) else (if a2 < 100 then (some 0) else (if 116 ≤ a2 then (some 0) else (if ((((a1 - 100) * 16) + a2) - 100) < 0 then none else if 256 ≤ (((((a1 - 100) * 16) + a2) - 100) : Int32).toNatClampNeg then none else (if (f1 (((((a1 - 100) * 16) + a2) - 100) : Int32).toNatClampNeg) = 0 then (some 0) else (some 1)))))))) else (if 16 ≤ a1 then (if a2 = 0 then (if a1 < 100 then (some 0) else (if 200 < a1 then (some 0) else (some 1))) else (if a1 < 100 then (some 0) else (if 116 ≤ a1 then (some 0) else (if a2 < 100 then (some 0) else (if 116 ≤ a2 then (some 0) else (if ((((a1 - 100) * 16) + a2) - 100) < 0 then none else if 256 ≤ (((((a1 - 100) * 16) + a2) - 100) : Int32).toNatClampNeg then none else (if (f1 (((((a1 - 100) * 16) + a2) - 100) : Int32).toNatClampNeg) = 0 then (some 0) else (some 1)))))))) else (if a2 < 0 then (some 0) else (if 16 ≤ a2 then (some 0) else (if ((a1 * 16) + a2) < 0 then none else if 256 ≤ (((a1 * 16) + a2) : Int32).toNatClampNeg then none else (if (f1 (((a1 * 16) + a2) : Int32).toNatClampNeg) = 0 then (some 0) else (some 1)))))))))
set_option maxHeartbeats 4000000 in
set_option maxRecDepth 100000 in
/-- ClassMill$Kin.fits -/
theorem t4_fits (l : Launch) (dC : Nat → ClassId) (dI : Nat → Nat → Nat) (sz : Nat) (h0 : Nat) (a1 : Int32) (a2 : Int32) (qf0 : Nat) (qf1 : Nat) (cf1 : ClassId) (f1 : (Nat → Int32)) (nf : Nat) (r0 : Int32) (hsp : sp_t4_fits nf a1 a2 f1 = some r0) : Met l yX4_fits (.code yX4_fits cX4_fits 4 (some .boolean) :: VS_h3) ({ frames := 0, cells := 0, slots := 0, locals := 0 }) (va_Pc [.ref h0, .int a1, .int a2] (fun U => U.heap.size = sz ∧ va_P (dC, dI) vwCl [(h0, .inr (4, [.ref qf0, .ref qf1])), (qf1, .inl (cf1, 256, .inl f1))] U.heap ∧ va_K (dC, dI) vwCl [(cf1, .boolean)] U ∧ va_D (fun _ => True) [(h0, .inr (4, [.ref qf0, .ref qf1])), (qf1, .inl (cf1, 256, .inl f1))])) (va_Qi (fun (r : Int32) (u : Unit) => match u with | () => r0 = r ∧ (r0 = 0 ∨ r0 = 1)) (fun (u : Unit) (t : State) => match u with | () => va_P (dC, dI) vwCl [(h0, .inr (4, [.ref qf0, .ref qf1])), (qf1, .inl (cf1, 256, .inl f1))] t.heap ∧ va_K (dC, dI) vwCl [(cf1, .boolean)] t ∧ va_D (va_A [(h0, .inr (4, [.ref qf0, .ref qf1])), (qf1, .inl (cf1, 256, .inl f1))] sz) [(h0, .inr (4, [.ref qf0, .ref qf1])), (qf1, .inl (cf1, 256, .inl f1))]) (va_A [(h0, .inr (4, [.ref qf0, .ref qf1])), (qf1, .inl (cf1, 256, .inl f1))] sz)) 0 0 (va_A [(h0, .inr (4, [.ref qf0, .ref qf1])), (qf1, .inl (cf1, 256, .inl f1))] sz) := by
  refine Met.ofW (cc := cX4_fits) (maxL := 4) (ret := (some .boolean)) (by decide) rfl ?_
  intro p e s m args below meth c s₁ B hml hv
  obtain ⟨rfl, hsz, hP, hK, hD0⟩ := hv
  have hx := B.exec
  have hb := B.bytes
  have hr := B.returns
  have hts := atoms_spec (ws := (.code yX4_fits cX4_fits 4 (some .boolean) :: VS_h3)) B.pre
  replace hts := fun w (h : w ∈ VS_h3) => hts w (List.mem_cons_of_mem _ h)
  have hown : s.vm.findClass RX4 = some m.cls := findClass_of_methodNamed B.named
  have hlocks := B.notSynchronized
  subst hsz
  have hD := hD0.self (sz := s.heap.size)
  generalize hAe : va_A [(h0, .inr (4, [.ref qf0, .ref qf1])), (qf1, .inl (cf1, 256, .inl f1))] s.heap.size = A at hD  ⊢
  have hA : ∀ q : Nat, s.heap.size ≤ q → A q := fun q h => by rw [← hAe]; exact Or.inr h
  have hP : va_P (dC, dI) vwCl [(h0, .inr (4, [.ref qf0, .ref qf1])), (qf1, .inl (cf1, 256, .inl f1))] s.heap := hP
  have hl := lv_entry ([.ref h0, .int a1, .int a2]) (n := 4) (Nat.le_of_ble_eq_true rfl)
  rw [lg_entry_eq]
  generalize (lg_sl ([.ref h0, .int a1, .int a2]) ++ List.replicate (4 - (lg_sl ([.ref h0, .int a1, .int a2])).length) Slot.unset).toArray = ls at hl ⊢
  have hl : lv_has ls 4 [(0, .ref h0), (1, .int a1), (2, .int a2)] := hl
  obtain ⟨H, hH⟩ : ∃ H : Heap, s.heap = H := ⟨_, rfl⟩
  rw [hH] at hP ⊢
  have hS : va_S A s.heap H [] := by rw [← hH]; exact va_S.rf
  obtain ⟨locs, hlo⟩ : ∃ locs : List Loc, locs = [] := ⟨_, rfl⟩
  rw [← hlo] at hS ⊢
  unfold sp_t4_fits at hsp
  refine lv_iload_n hx hb dX4_fits_0 rfl (lv_at hl 1 rfl) ?_
  refine lv_iload_n hx hb dX4_fits_1 rfl (lv_at hl 2 rfl) ?_
  refine lv_icmp_ne (tgt := 7) hx hb dX4_fits_2 (by decide) (fun c_1 => ?_) (fun c_1 => ?_)
  · rw [if_neg c_1] at hsp
    refine lv_iload_n hx hb dX4_fits_7 rfl (lv_at hl 1 rfl) ?_
    refine lv_sipush (v := 300) hx hb dX4_fits_8 (by decide) ?_
    refine lv_icmp_ne (tgt := 31) hx hb dX4_fits_11 (by decide) (fun c_2 => ?_) (fun c_2 => ?_)
    · rw [if_neg c_2] at hsp
      refine lv_iload_n hx hb dX4_fits_31 rfl (lv_at hl 1 rfl) ?_
      refine lv_if_lt (tgt := 71) hx hb dX4_fits_32 (by decide) (fun c_3 => ?_) (fun c_3 => ?_)
      · rw [if_pos c_3] at hsp
        refine lv_iload_n hx hb dX4_fits_71 rfl (lv_at hl 2 rfl) ?_
        refine lv_if_ne (tgt := 94) hx hb dX4_fits_72 (by decide) (fun c_4 => ?_) (fun c_4 => ?_)
        · rw [if_neg c_4] at hsp
          refine lv_iload_n hx hb dX4_fits_94 rfl (lv_at hl 1 rfl) ?_
          refine lv_bipush (v := 100) hx hb dX4_fits_95 (by decide) ?_
          refine lv_icmp_lt (tgt := 122) hx hb dX4_fits_97 (by decide) (fun c_5 => ?_) (fun c_5 => ?_)
          · rw [if_pos c_5] at hsp
            refine lv_iconst (v := 0) hx hb dX4_fits_122 (by decide) ?_
            refine lv_istore_n (lv' := [(3, .int 0), (0, .ref h0), (1, .int a1), (2, .int a2)]) hx hb dX4_fits_123 rfl hl (by decide) rfl (fun ls hl => ?_)
            refine lv_iload_n hx hb dX4_fits_124 rfl (lv_at hl 0 rfl) ?_
            refine lv_if_eq (tgt := 152) hx hb dX4_fits_125 (by decide) (fun c_6 => ?_) (fun c_6 => (show False by revert c_6; decide).elim)
            refine lv_iconst (v := 0) hx hb dX4_fits_152 (by decide) ?_
            have hr0 := Option.some.inj hsp
            clear hsp
            subst hr0
            have hP9 := hP.sub (ws' := [(h0, .inr (4, [.ref qf0, .ref qf1])), (qf1, .inl (cf1, 256, .inl f1))]) [0, 1] rfl
            have hD9 := hD.sub (ws' := [(h0, .inr (4, [.ref qf0, .ref qf1])), (qf1, .inl (cf1, 256, .inl f1))]) [0, 1] (by decide) rfl
            have hK9 := hK.sub (tys' := [(cf1, .boolean)]) [0] rfl
            exact W.zret hx hb hr (by decide) (fun t ht hW => ⟨⟨(0), (), rfl, ⟨rfl, Or.inl rfl⟩, by rw [ht]; exact hP9, va_K.moved hW.alike hK9, hD9⟩, hS.F ht⟩) hS.2.2 dX4_fits_153
          · rw [if_neg c_5] at hsp
            refine lv_iload_n hx hb dX4_fits_100 rfl (lv_at hl 1 rfl) ?_
            refine lv_bipush (v := 116) hx hb dX4_fits_101 (by decide) ?_
            refine lv_icmp_ge (tgt := 122) hx hb dX4_fits_103 (by decide) (fun c_7 => ?_) (fun c_7 => ?_)
            · rw [if_pos c_7] at hsp
              refine lv_iconst (v := 0) hx hb dX4_fits_122 (by decide) ?_
              refine lv_istore_n (lv' := [(3, .int 0), (0, .ref h0), (1, .int a1), (2, .int a2)]) hx hb dX4_fits_123 rfl hl (by decide) rfl (fun ls hl => ?_)
              refine lv_iload_n hx hb dX4_fits_124 rfl (lv_at hl 0 rfl) ?_
              refine lv_if_eq (tgt := 152) hx hb dX4_fits_125 (by decide) (fun c_8 => ?_) (fun c_8 => (show False by revert c_8; decide).elim)
              refine lv_iconst (v := 0) hx hb dX4_fits_152 (by decide) ?_
              have hr0 := Option.some.inj hsp
              clear hsp
              subst hr0
              have hP9 := hP.sub (ws' := [(h0, .inr (4, [.ref qf0, .ref qf1])), (qf1, .inl (cf1, 256, .inl f1))]) [0, 1] rfl
              have hD9 := hD.sub (ws' := [(h0, .inr (4, [.ref qf0, .ref qf1])), (qf1, .inl (cf1, 256, .inl f1))]) [0, 1] (by decide) rfl
              have hK9 := hK.sub (tys' := [(cf1, .boolean)]) [0] rfl
              exact W.zret hx hb hr (by decide) (fun t ht hW => ⟨⟨(0), (), rfl, ⟨rfl, Or.inl rfl⟩, by rw [ht]; exact hP9, va_K.moved hW.alike hK9, hD9⟩, hS.F ht⟩) hS.2.2 dX4_fits_153
            · rw [if_neg c_7] at hsp
              refine lv_iload_n hx hb dX4_fits_106 rfl (lv_at hl 2 rfl) ?_
              refine lv_bipush (v := 100) hx hb dX4_fits_107 (by decide) ?_
              refine lv_icmp_lt (tgt := 122) hx hb dX4_fits_109 (by decide) (fun c_9 => ?_) (fun c_9 => ?_)
              · rw [if_pos c_9] at hsp
                refine lv_iconst (v := 0) hx hb dX4_fits_122 (by decide) ?_
                refine lv_istore_n (lv' := [(3, .int 0), (0, .ref h0), (1, .int a1), (2, .int a2)]) hx hb dX4_fits_123 rfl hl (by decide) rfl (fun ls hl => ?_)
                refine lv_iload_n hx hb dX4_fits_124 rfl (lv_at hl 0 rfl) ?_
                refine lv_if_eq (tgt := 152) hx hb dX4_fits_125 (by decide) (fun c_10 => ?_) (fun c_10 => (show False by revert c_10; decide).elim)
                refine lv_iconst (v := 0) hx hb dX4_fits_152 (by decide) ?_
                have hr0 := Option.some.inj hsp
                clear hsp
                subst hr0
                have hP9 := hP.sub (ws' := [(h0, .inr (4, [.ref qf0, .ref qf1])), (qf1, .inl (cf1, 256, .inl f1))]) [0, 1] rfl
                have hD9 := hD.sub (ws' := [(h0, .inr (4, [.ref qf0, .ref qf1])), (qf1, .inl (cf1, 256, .inl f1))]) [0, 1] (by decide) rfl
                have hK9 := hK.sub (tys' := [(cf1, .boolean)]) [0] rfl
                exact W.zret hx hb hr (by decide) (fun t ht hW => ⟨⟨(0), (), rfl, ⟨rfl, Or.inl rfl⟩, by rw [ht]; exact hP9, va_K.moved hW.alike hK9, hD9⟩, hS.F ht⟩) hS.2.2 dX4_fits_153
              · rw [if_neg c_9] at hsp
                refine lv_iload_n hx hb dX4_fits_112 rfl (lv_at hl 2 rfl) ?_
                refine lv_bipush (v := 116) hx hb dX4_fits_113 (by decide) ?_
                refine lv_icmp_ge (tgt := 122) hx hb dX4_fits_115 (by decide) (fun c_11 => ?_) (fun c_11 => ?_)
                · rw [if_pos c_11] at hsp
                  refine lv_iconst (v := 0) hx hb dX4_fits_122 (by decide) ?_
                  refine lv_istore_n (lv' := [(3, .int 0), (0, .ref h0), (1, .int a1), (2, .int a2)]) hx hb dX4_fits_123 rfl hl (by decide) rfl (fun ls hl => ?_)
                  refine lv_iload_n hx hb dX4_fits_124 rfl (lv_at hl 0 rfl) ?_
                  refine lv_if_eq (tgt := 152) hx hb dX4_fits_125 (by decide) (fun c_12 => ?_) (fun c_12 => (show False by revert c_12; decide).elim)
                  refine lv_iconst (v := 0) hx hb dX4_fits_152 (by decide) ?_
                  have hr0 := Option.some.inj hsp
                  clear hsp
                  subst hr0
                  have hP9 := hP.sub (ws' := [(h0, .inr (4, [.ref qf0, .ref qf1])), (qf1, .inl (cf1, 256, .inl f1))]) [0, 1] rfl
                  have hD9 := hD.sub (ws' := [(h0, .inr (4, [.ref qf0, .ref qf1])), (qf1, .inl (cf1, 256, .inl f1))]) [0, 1] (by decide) rfl
                  have hK9 := hK.sub (tys' := [(cf1, .boolean)]) [0] rfl
                  exact W.zret hx hb hr (by decide) (fun t ht hW => ⟨⟨(0), (), rfl, ⟨rfl, Or.inl rfl⟩, by rw [ht]; exact hP9, va_K.moved hW.alike hK9, hD9⟩, hS.F ht⟩) hS.2.2 dX4_fits_153
                · rw [if_neg c_11] at hsp
                  refine lv_iconst (v := 1) hx hb dX4_fits_118 (by decide) ?_
                  refine lv_goto (tgt := 123) hx hb dX4_fits_119 (by decide) ?_
                  refine lv_istore_n (lv' := [(3, .int 1), (0, .ref h0), (1, .int a1), (2, .int a2)]) hx hb dX4_fits_123 rfl hl (by decide) rfl (fun ls hl => ?_)
                  refine lv_iload_n hx hb dX4_fits_124 rfl (lv_at hl 0 rfl) ?_
                  refine lv_if_eq (tgt := 152) hx hb dX4_fits_125 (by decide) (fun c_13 => (show False by revert c_13; decide).elim) (fun c_13 => ?_)
                  refine lv_aload_n hx hb dX4_fits_128 rfl (lv_at hl 1 rfl) ?_
                  refine va_get (D := (dC, dI)) (ci := 4) (v := .ref qf1) (C := RX4) (T := TX4) (N := 2) hx hb hts uV_h3_X4 hown hK hP 0 rfl rfl 1 (by decide) (hts (.fieldLink RX4 15 "ClassMill$Kin" "under" "[Z") mw_h3_0) (fun _ h9 => h9) rfl dX4_fits_129 ?_
                  refine lv_iload_n hx hb dX4_fits_132 rfl (lv_at hl 2 rfl) ?_
                  refine lv_bipush (v := 100) hx hb dX4_fits_133 (by decide) ?_
                  refine lv_isub hx hb dX4_fits_135 ?_
                  refine lv_bipush (v := 16) hx hb dX4_fits_136 (by decide) ?_
                  refine lv_imul hx hb dX4_fits_138 ?_
                  refine lv_iload_n hx hb dX4_fits_139 rfl (lv_at hl 3 rfl) ?_
                  refine lv_iadd hx hb dX4_fits_140 ?_
                  refine lv_bipush (v := 100) hx hb dX4_fits_141 (by decide) ?_
                  refine lv_isub hx hb dX4_fits_143 ?_
                  obtain ⟨hi_14, hsp⟩ := ox_in hsp
                  refine va_zald hx hb hK hP 1 0 rfl rfl (i := ((((a1 - 100) * 16) + a2) - 100)) hi_14 dX4_fits_144 ?_
                  refine lv_if_eq (tgt := 152) hx hb dX4_fits_145 (by decide) (fun c_15 => ?_) (fun c_15 => ?_)
                  · rw [if_pos c_15] at hsp
                    refine lv_iconst (v := 0) hx hb dX4_fits_152 (by decide) ?_
                    have hr0 := Option.some.inj hsp
                    clear hsp
                    subst hr0
                    have hP9 := hP.sub (ws' := [(h0, .inr (4, [.ref qf0, .ref qf1])), (qf1, .inl (cf1, 256, .inl f1))]) [0, 1] rfl
                    have hD9 := hD.sub (ws' := [(h0, .inr (4, [.ref qf0, .ref qf1])), (qf1, .inl (cf1, 256, .inl f1))]) [0, 1] (by decide) rfl
                    have hK9 := hK.sub (tys' := [(cf1, .boolean)]) [0] rfl
                    exact W.zret hx hb hr (by decide) (fun t ht hW => ⟨⟨(0), (), rfl, ⟨rfl, Or.inl rfl⟩, by rw [ht]; exact hP9, va_K.moved hW.alike hK9, hD9⟩, hS.F ht⟩) hS.2.2 dX4_fits_153
                  · rw [if_neg c_15] at hsp
                    refine lv_iconst (v := 1) hx hb dX4_fits_148 (by decide) ?_
                    refine lv_goto (tgt := 153) hx hb dX4_fits_149 (by decide) ?_
                    have hr0 := Option.some.inj hsp
                    clear hsp
                    subst hr0
                    have hP9 := hP.sub (ws' := [(h0, .inr (4, [.ref qf0, .ref qf1])), (qf1, .inl (cf1, 256, .inl f1))]) [0, 1] rfl
                    have hD9 := hD.sub (ws' := [(h0, .inr (4, [.ref qf0, .ref qf1])), (qf1, .inl (cf1, 256, .inl f1))]) [0, 1] (by decide) rfl
                    have hK9 := hK.sub (tys' := [(cf1, .boolean)]) [0] rfl
                    exact W.zret hx hb hr (by decide) (fun t ht hW => ⟨⟨(1), (), rfl, ⟨rfl, Or.inr rfl⟩, by rw [ht]; exact hP9, va_K.moved hW.alike hK9, hD9⟩, hS.F ht⟩) hS.2.2 dX4_fits_153
        · rw [if_pos c_4] at hsp
          refine lv_iload_n hx hb dX4_fits_75 rfl (lv_at hl 1 rfl) ?_
          refine lv_bipush (v := 100) hx hb dX4_fits_76 (by decide) ?_
          refine lv_icmp_lt (tgt := 92) hx hb dX4_fits_78 (by decide) (fun c_16 => ?_) (fun c_16 => ?_)
          · rw [if_pos c_16] at hsp
            refine lv_iconst (v := 0) hx hb dX4_fits_92 (by decide) ?_
            have hr0 := Option.some.inj hsp
            clear hsp
            subst hr0
            have hP9 := hP.sub (ws' := [(h0, .inr (4, [.ref qf0, .ref qf1])), (qf1, .inl (cf1, 256, .inl f1))]) [0, 1] rfl
            have hD9 := hD.sub (ws' := [(h0, .inr (4, [.ref qf0, .ref qf1])), (qf1, .inl (cf1, 256, .inl f1))]) [0, 1] (by decide) rfl
            have hK9 := hK.sub (tys' := [(cf1, .boolean)]) [0] rfl
            exact W.zret hx hb hr (by decide) (fun t ht hW => ⟨⟨(0), (), rfl, ⟨rfl, Or.inl rfl⟩, by rw [ht]; exact hP9, va_K.moved hW.alike hK9, hD9⟩, hS.F ht⟩) hS.2.2 dX4_fits_93
          · rw [if_neg c_16] at hsp
            refine lv_iload_n hx hb dX4_fits_81 rfl (lv_at hl 1 rfl) ?_
            refine lv_sipush (v := 200) hx hb dX4_fits_82 (by decide) ?_
            refine lv_icmp_gt (tgt := 92) hx hb dX4_fits_85 (by decide) (fun c_17 => ?_) (fun c_17 => ?_)
            · rw [if_pos c_17] at hsp
              refine lv_iconst (v := 0) hx hb dX4_fits_92 (by decide) ?_
              have hr0 := Option.some.inj hsp
              clear hsp
              subst hr0
              have hP9 := hP.sub (ws' := [(h0, .inr (4, [.ref qf0, .ref qf1])), (qf1, .inl (cf1, 256, .inl f1))]) [0, 1] rfl
              have hD9 := hD.sub (ws' := [(h0, .inr (4, [.ref qf0, .ref qf1])), (qf1, .inl (cf1, 256, .inl f1))]) [0, 1] (by decide) rfl
              have hK9 := hK.sub (tys' := [(cf1, .boolean)]) [0] rfl
              exact W.zret hx hb hr (by decide) (fun t ht hW => ⟨⟨(0), (), rfl, ⟨rfl, Or.inl rfl⟩, by rw [ht]; exact hP9, va_K.moved hW.alike hK9, hD9⟩, hS.F ht⟩) hS.2.2 dX4_fits_93
            · rw [if_neg c_17] at hsp
              refine lv_iconst (v := 1) hx hb dX4_fits_88 (by decide) ?_
              refine lv_goto (tgt := 93) hx hb dX4_fits_89 (by decide) ?_
              have hr0 := Option.some.inj hsp
              clear hsp
              subst hr0
              have hP9 := hP.sub (ws' := [(h0, .inr (4, [.ref qf0, .ref qf1])), (qf1, .inl (cf1, 256, .inl f1))]) [0, 1] rfl
              have hD9 := hD.sub (ws' := [(h0, .inr (4, [.ref qf0, .ref qf1])), (qf1, .inl (cf1, 256, .inl f1))]) [0, 1] (by decide) rfl
              have hK9 := hK.sub (tys' := [(cf1, .boolean)]) [0] rfl
              exact W.zret hx hb hr (by decide) (fun t ht hW => ⟨⟨(1), (), rfl, ⟨rfl, Or.inr rfl⟩, by rw [ht]; exact hP9, va_K.moved hW.alike hK9, hD9⟩, hS.F ht⟩) hS.2.2 dX4_fits_93
      · rw [if_neg c_3] at hsp
        refine lv_iload_n hx hb dX4_fits_35 rfl (lv_at hl 1 rfl) ?_
        refine lv_bipush (v := 16) hx hb dX4_fits_36 (by decide) ?_
        refine lv_icmp_ge (tgt := 71) hx hb dX4_fits_38 (by decide) (fun c_18 => ?_) (fun c_18 => ?_)
        · rw [if_pos c_18] at hsp
          refine lv_iload_n hx hb dX4_fits_71 rfl (lv_at hl 2 rfl) ?_
          refine lv_if_ne (tgt := 94) hx hb dX4_fits_72 (by decide) (fun c_19 => ?_) (fun c_19 => ?_)
          · rw [if_neg c_19] at hsp
            refine lv_iload_n hx hb dX4_fits_94 rfl (lv_at hl 1 rfl) ?_
            refine lv_bipush (v := 100) hx hb dX4_fits_95 (by decide) ?_
            refine lv_icmp_lt (tgt := 122) hx hb dX4_fits_97 (by decide) (fun c_20 => ?_) (fun c_20 => ?_)
            · rw [if_pos c_20] at hsp
              refine lv_iconst (v := 0) hx hb dX4_fits_122 (by decide) ?_
              refine lv_istore_n (lv' := [(3, .int 0), (0, .ref h0), (1, .int a1), (2, .int a2)]) hx hb dX4_fits_123 rfl hl (by decide) rfl (fun ls hl => ?_)
              refine lv_iload_n hx hb dX4_fits_124 rfl (lv_at hl 0 rfl) ?_
              refine lv_if_eq (tgt := 152) hx hb dX4_fits_125 (by decide) (fun c_21 => ?_) (fun c_21 => (show False by revert c_21; decide).elim)
              refine lv_iconst (v := 0) hx hb dX4_fits_152 (by decide) ?_
              have hr0 := Option.some.inj hsp
              clear hsp
              subst hr0
              have hP9 := hP.sub (ws' := [(h0, .inr (4, [.ref qf0, .ref qf1])), (qf1, .inl (cf1, 256, .inl f1))]) [0, 1] rfl
              have hD9 := hD.sub (ws' := [(h0, .inr (4, [.ref qf0, .ref qf1])), (qf1, .inl (cf1, 256, .inl f1))]) [0, 1] (by decide) rfl
              have hK9 := hK.sub (tys' := [(cf1, .boolean)]) [0] rfl
              exact W.zret hx hb hr (by decide) (fun t ht hW => ⟨⟨(0), (), rfl, ⟨rfl, Or.inl rfl⟩, by rw [ht]; exact hP9, va_K.moved hW.alike hK9, hD9⟩, hS.F ht⟩) hS.2.2 dX4_fits_153
            · rw [if_neg c_20] at hsp
              refine lv_iload_n hx hb dX4_fits_100 rfl (lv_at hl 1 rfl) ?_
              refine lv_bipush (v := 116) hx hb dX4_fits_101 (by decide) ?_
              refine lv_icmp_ge (tgt := 122) hx hb dX4_fits_103 (by decide) (fun c_22 => ?_) (fun c_22 => ?_)
              · rw [if_pos c_22] at hsp
                refine lv_iconst (v := 0) hx hb dX4_fits_122 (by decide) ?_
                refine lv_istore_n (lv' := [(3, .int 0), (0, .ref h0), (1, .int a1), (2, .int a2)]) hx hb dX4_fits_123 rfl hl (by decide) rfl (fun ls hl => ?_)
                refine lv_iload_n hx hb dX4_fits_124 rfl (lv_at hl 0 rfl) ?_
                refine lv_if_eq (tgt := 152) hx hb dX4_fits_125 (by decide) (fun c_23 => ?_) (fun c_23 => (show False by revert c_23; decide).elim)
                refine lv_iconst (v := 0) hx hb dX4_fits_152 (by decide) ?_
                have hr0 := Option.some.inj hsp
                clear hsp
                subst hr0
                have hP9 := hP.sub (ws' := [(h0, .inr (4, [.ref qf0, .ref qf1])), (qf1, .inl (cf1, 256, .inl f1))]) [0, 1] rfl
                have hD9 := hD.sub (ws' := [(h0, .inr (4, [.ref qf0, .ref qf1])), (qf1, .inl (cf1, 256, .inl f1))]) [0, 1] (by decide) rfl
                have hK9 := hK.sub (tys' := [(cf1, .boolean)]) [0] rfl
                exact W.zret hx hb hr (by decide) (fun t ht hW => ⟨⟨(0), (), rfl, ⟨rfl, Or.inl rfl⟩, by rw [ht]; exact hP9, va_K.moved hW.alike hK9, hD9⟩, hS.F ht⟩) hS.2.2 dX4_fits_153
              · rw [if_neg c_22] at hsp
                refine lv_iload_n hx hb dX4_fits_106 rfl (lv_at hl 2 rfl) ?_
                refine lv_bipush (v := 100) hx hb dX4_fits_107 (by decide) ?_
                refine lv_icmp_lt (tgt := 122) hx hb dX4_fits_109 (by decide) (fun c_24 => ?_) (fun c_24 => ?_)
                · rw [if_pos c_24] at hsp
                  refine lv_iconst (v := 0) hx hb dX4_fits_122 (by decide) ?_
                  refine lv_istore_n (lv' := [(3, .int 0), (0, .ref h0), (1, .int a1), (2, .int a2)]) hx hb dX4_fits_123 rfl hl (by decide) rfl (fun ls hl => ?_)
                  refine lv_iload_n hx hb dX4_fits_124 rfl (lv_at hl 0 rfl) ?_
                  refine lv_if_eq (tgt := 152) hx hb dX4_fits_125 (by decide) (fun c_25 => ?_) (fun c_25 => (show False by revert c_25; decide).elim)
                  refine lv_iconst (v := 0) hx hb dX4_fits_152 (by decide) ?_
                  have hr0 := Option.some.inj hsp
                  clear hsp
                  subst hr0
                  have hP9 := hP.sub (ws' := [(h0, .inr (4, [.ref qf0, .ref qf1])), (qf1, .inl (cf1, 256, .inl f1))]) [0, 1] rfl
                  have hD9 := hD.sub (ws' := [(h0, .inr (4, [.ref qf0, .ref qf1])), (qf1, .inl (cf1, 256, .inl f1))]) [0, 1] (by decide) rfl
                  have hK9 := hK.sub (tys' := [(cf1, .boolean)]) [0] rfl
                  exact W.zret hx hb hr (by decide) (fun t ht hW => ⟨⟨(0), (), rfl, ⟨rfl, Or.inl rfl⟩, by rw [ht]; exact hP9, va_K.moved hW.alike hK9, hD9⟩, hS.F ht⟩) hS.2.2 dX4_fits_153
                · rw [if_neg c_24] at hsp
                  refine lv_iload_n hx hb dX4_fits_112 rfl (lv_at hl 2 rfl) ?_
                  refine lv_bipush (v := 116) hx hb dX4_fits_113 (by decide) ?_
                  refine lv_icmp_ge (tgt := 122) hx hb dX4_fits_115 (by decide) (fun c_26 => ?_) (fun c_26 => ?_)
                  · rw [if_pos c_26] at hsp
                    refine lv_iconst (v := 0) hx hb dX4_fits_122 (by decide) ?_
                    refine lv_istore_n (lv' := [(3, .int 0), (0, .ref h0), (1, .int a1), (2, .int a2)]) hx hb dX4_fits_123 rfl hl (by decide) rfl (fun ls hl => ?_)
                    refine lv_iload_n hx hb dX4_fits_124 rfl (lv_at hl 0 rfl) ?_
                    refine lv_if_eq (tgt := 152) hx hb dX4_fits_125 (by decide) (fun c_27 => ?_) (fun c_27 => (show False by revert c_27; decide).elim)
                    refine lv_iconst (v := 0) hx hb dX4_fits_152 (by decide) ?_
                    have hr0 := Option.some.inj hsp
                    clear hsp
                    subst hr0
                    have hP9 := hP.sub (ws' := [(h0, .inr (4, [.ref qf0, .ref qf1])), (qf1, .inl (cf1, 256, .inl f1))]) [0, 1] rfl
                    have hD9 := hD.sub (ws' := [(h0, .inr (4, [.ref qf0, .ref qf1])), (qf1, .inl (cf1, 256, .inl f1))]) [0, 1] (by decide) rfl
                    have hK9 := hK.sub (tys' := [(cf1, .boolean)]) [0] rfl
                    exact W.zret hx hb hr (by decide) (fun t ht hW => ⟨⟨(0), (), rfl, ⟨rfl, Or.inl rfl⟩, by rw [ht]; exact hP9, va_K.moved hW.alike hK9, hD9⟩, hS.F ht⟩) hS.2.2 dX4_fits_153
                  · rw [if_neg c_26] at hsp
                    refine lv_iconst (v := 1) hx hb dX4_fits_118 (by decide) ?_
                    refine lv_goto (tgt := 123) hx hb dX4_fits_119 (by decide) ?_
                    refine lv_istore_n (lv' := [(3, .int 1), (0, .ref h0), (1, .int a1), (2, .int a2)]) hx hb dX4_fits_123 rfl hl (by decide) rfl (fun ls hl => ?_)
                    refine lv_iload_n hx hb dX4_fits_124 rfl (lv_at hl 0 rfl) ?_
                    refine lv_if_eq (tgt := 152) hx hb dX4_fits_125 (by decide) (fun c_28 => (show False by revert c_28; decide).elim) (fun c_28 => ?_)
                    refine lv_aload_n hx hb dX4_fits_128 rfl (lv_at hl 1 rfl) ?_
                    refine va_get (D := (dC, dI)) (ci := 4) (v := .ref qf1) (C := RX4) (T := TX4) (N := 2) hx hb hts uV_h3_X4 hown hK hP 0 rfl rfl 1 (by decide) (hts (.fieldLink RX4 15 "ClassMill$Kin" "under" "[Z") mw_h3_0) (fun _ h9 => h9) rfl dX4_fits_129 ?_
                    refine lv_iload_n hx hb dX4_fits_132 rfl (lv_at hl 2 rfl) ?_
                    refine lv_bipush (v := 100) hx hb dX4_fits_133 (by decide) ?_
                    refine lv_isub hx hb dX4_fits_135 ?_
                    refine lv_bipush (v := 16) hx hb dX4_fits_136 (by decide) ?_
                    refine lv_imul hx hb dX4_fits_138 ?_
                    refine lv_iload_n hx hb dX4_fits_139 rfl (lv_at hl 3 rfl) ?_
                    refine lv_iadd hx hb dX4_fits_140 ?_
                    refine lv_bipush (v := 100) hx hb dX4_fits_141 (by decide) ?_
                    refine lv_isub hx hb dX4_fits_143 ?_
                    obtain ⟨hi_29, hsp⟩ := ox_in hsp
                    refine va_zald hx hb hK hP 1 0 rfl rfl (i := ((((a1 - 100) * 16) + a2) - 100)) hi_29 dX4_fits_144 ?_
                    refine lv_if_eq (tgt := 152) hx hb dX4_fits_145 (by decide) (fun c_30 => ?_) (fun c_30 => ?_)
                    · rw [if_pos c_30] at hsp
                      refine lv_iconst (v := 0) hx hb dX4_fits_152 (by decide) ?_
                      have hr0 := Option.some.inj hsp
                      clear hsp
                      subst hr0
                      have hP9 := hP.sub (ws' := [(h0, .inr (4, [.ref qf0, .ref qf1])), (qf1, .inl (cf1, 256, .inl f1))]) [0, 1] rfl
                      have hD9 := hD.sub (ws' := [(h0, .inr (4, [.ref qf0, .ref qf1])), (qf1, .inl (cf1, 256, .inl f1))]) [0, 1] (by decide) rfl
                      have hK9 := hK.sub (tys' := [(cf1, .boolean)]) [0] rfl
                      exact W.zret hx hb hr (by decide) (fun t ht hW => ⟨⟨(0), (), rfl, ⟨rfl, Or.inl rfl⟩, by rw [ht]; exact hP9, va_K.moved hW.alike hK9, hD9⟩, hS.F ht⟩) hS.2.2 dX4_fits_153
                    · rw [if_neg c_30] at hsp
                      refine lv_iconst (v := 1) hx hb dX4_fits_148 (by decide) ?_
                      refine lv_goto (tgt := 153) hx hb dX4_fits_149 (by decide) ?_
                      have hr0 := Option.some.inj hsp
                      clear hsp
                      subst hr0
                      have hP9 := hP.sub (ws' := [(h0, .inr (4, [.ref qf0, .ref qf1])), (qf1, .inl (cf1, 256, .inl f1))]) [0, 1] rfl
                      have hD9 := hD.sub (ws' := [(h0, .inr (4, [.ref qf0, .ref qf1])), (qf1, .inl (cf1, 256, .inl f1))]) [0, 1] (by decide) rfl
                      have hK9 := hK.sub (tys' := [(cf1, .boolean)]) [0] rfl
                      exact W.zret hx hb hr (by decide) (fun t ht hW => ⟨⟨(1), (), rfl, ⟨rfl, Or.inr rfl⟩, by rw [ht]; exact hP9, va_K.moved hW.alike hK9, hD9⟩, hS.F ht⟩) hS.2.2 dX4_fits_153
          · rw [if_pos c_19] at hsp
            refine lv_iload_n hx hb dX4_fits_75 rfl (lv_at hl 1 rfl) ?_
            refine lv_bipush (v := 100) hx hb dX4_fits_76 (by decide) ?_
            refine lv_icmp_lt (tgt := 92) hx hb dX4_fits_78 (by decide) (fun c_31 => ?_) (fun c_31 => ?_)
            · rw [if_pos c_31] at hsp
              refine lv_iconst (v := 0) hx hb dX4_fits_92 (by decide) ?_
              have hr0 := Option.some.inj hsp
              clear hsp
              subst hr0
              have hP9 := hP.sub (ws' := [(h0, .inr (4, [.ref qf0, .ref qf1])), (qf1, .inl (cf1, 256, .inl f1))]) [0, 1] rfl
              have hD9 := hD.sub (ws' := [(h0, .inr (4, [.ref qf0, .ref qf1])), (qf1, .inl (cf1, 256, .inl f1))]) [0, 1] (by decide) rfl
              have hK9 := hK.sub (tys' := [(cf1, .boolean)]) [0] rfl
              exact W.zret hx hb hr (by decide) (fun t ht hW => ⟨⟨(0), (), rfl, ⟨rfl, Or.inl rfl⟩, by rw [ht]; exact hP9, va_K.moved hW.alike hK9, hD9⟩, hS.F ht⟩) hS.2.2 dX4_fits_93
            · rw [if_neg c_31] at hsp
              refine lv_iload_n hx hb dX4_fits_81 rfl (lv_at hl 1 rfl) ?_
              refine lv_sipush (v := 200) hx hb dX4_fits_82 (by decide) ?_
              refine lv_icmp_gt (tgt := 92) hx hb dX4_fits_85 (by decide) (fun c_32 => ?_) (fun c_32 => ?_)
              · rw [if_pos c_32] at hsp
                refine lv_iconst (v := 0) hx hb dX4_fits_92 (by decide) ?_
                have hr0 := Option.some.inj hsp
                clear hsp
                subst hr0
                have hP9 := hP.sub (ws' := [(h0, .inr (4, [.ref qf0, .ref qf1])), (qf1, .inl (cf1, 256, .inl f1))]) [0, 1] rfl
                have hD9 := hD.sub (ws' := [(h0, .inr (4, [.ref qf0, .ref qf1])), (qf1, .inl (cf1, 256, .inl f1))]) [0, 1] (by decide) rfl
                have hK9 := hK.sub (tys' := [(cf1, .boolean)]) [0] rfl
                exact W.zret hx hb hr (by decide) (fun t ht hW => ⟨⟨(0), (), rfl, ⟨rfl, Or.inl rfl⟩, by rw [ht]; exact hP9, va_K.moved hW.alike hK9, hD9⟩, hS.F ht⟩) hS.2.2 dX4_fits_93
              · rw [if_neg c_32] at hsp
                refine lv_iconst (v := 1) hx hb dX4_fits_88 (by decide) ?_
                refine lv_goto (tgt := 93) hx hb dX4_fits_89 (by decide) ?_
                have hr0 := Option.some.inj hsp
                clear hsp
                subst hr0
                have hP9 := hP.sub (ws' := [(h0, .inr (4, [.ref qf0, .ref qf1])), (qf1, .inl (cf1, 256, .inl f1))]) [0, 1] rfl
                have hD9 := hD.sub (ws' := [(h0, .inr (4, [.ref qf0, .ref qf1])), (qf1, .inl (cf1, 256, .inl f1))]) [0, 1] (by decide) rfl
                have hK9 := hK.sub (tys' := [(cf1, .boolean)]) [0] rfl
                exact W.zret hx hb hr (by decide) (fun t ht hW => ⟨⟨(1), (), rfl, ⟨rfl, Or.inr rfl⟩, by rw [ht]; exact hP9, va_K.moved hW.alike hK9, hD9⟩, hS.F ht⟩) hS.2.2 dX4_fits_93
        · rw [if_neg c_18] at hsp
          refine lv_iload_n hx hb dX4_fits_41 rfl (lv_at hl 2 rfl) ?_
          refine lv_if_lt (tgt := 69) hx hb dX4_fits_42 (by decide) (fun c_33 => ?_) (fun c_33 => ?_)
          · rw [if_pos c_33] at hsp
            refine lv_iconst (v := 0) hx hb dX4_fits_69 (by decide) ?_
            have hr0 := Option.some.inj hsp
            clear hsp
            subst hr0
            have hP9 := hP.sub (ws' := [(h0, .inr (4, [.ref qf0, .ref qf1])), (qf1, .inl (cf1, 256, .inl f1))]) [0, 1] rfl
            have hD9 := hD.sub (ws' := [(h0, .inr (4, [.ref qf0, .ref qf1])), (qf1, .inl (cf1, 256, .inl f1))]) [0, 1] (by decide) rfl
            have hK9 := hK.sub (tys' := [(cf1, .boolean)]) [0] rfl
            exact W.zret hx hb hr (by decide) (fun t ht hW => ⟨⟨(0), (), rfl, ⟨rfl, Or.inl rfl⟩, by rw [ht]; exact hP9, va_K.moved hW.alike hK9, hD9⟩, hS.F ht⟩) hS.2.2 dX4_fits_70
          · rw [if_neg c_33] at hsp
            refine lv_iload_n hx hb dX4_fits_45 rfl (lv_at hl 2 rfl) ?_
            refine lv_bipush (v := 16) hx hb dX4_fits_46 (by decide) ?_
            refine lv_icmp_ge (tgt := 69) hx hb dX4_fits_48 (by decide) (fun c_34 => ?_) (fun c_34 => ?_)
            · rw [if_pos c_34] at hsp
              refine lv_iconst (v := 0) hx hb dX4_fits_69 (by decide) ?_
              have hr0 := Option.some.inj hsp
              clear hsp
              subst hr0
              have hP9 := hP.sub (ws' := [(h0, .inr (4, [.ref qf0, .ref qf1])), (qf1, .inl (cf1, 256, .inl f1))]) [0, 1] rfl
              have hD9 := hD.sub (ws' := [(h0, .inr (4, [.ref qf0, .ref qf1])), (qf1, .inl (cf1, 256, .inl f1))]) [0, 1] (by decide) rfl
              have hK9 := hK.sub (tys' := [(cf1, .boolean)]) [0] rfl
              exact W.zret hx hb hr (by decide) (fun t ht hW => ⟨⟨(0), (), rfl, ⟨rfl, Or.inl rfl⟩, by rw [ht]; exact hP9, va_K.moved hW.alike hK9, hD9⟩, hS.F ht⟩) hS.2.2 dX4_fits_70
            · rw [if_neg c_34] at hsp
              refine lv_aload_n hx hb dX4_fits_51 rfl (lv_at hl 0 rfl) ?_
              refine va_get (D := (dC, dI)) (ci := 4) (v := .ref qf1) (C := RX4) (T := TX4) (N := 2) hx hb hts uV_h3_X4 hown hK hP 0 rfl rfl 1 (by decide) (hts (.fieldLink RX4 15 "ClassMill$Kin" "under" "[Z") mw_h3_0) (fun _ h9 => h9) rfl dX4_fits_52 ?_
              refine lv_iload_n hx hb dX4_fits_55 rfl (lv_at hl 1 rfl) ?_
              refine lv_bipush (v := 16) hx hb dX4_fits_56 (by decide) ?_
              refine lv_imul hx hb dX4_fits_58 ?_
              refine lv_iload_n hx hb dX4_fits_59 rfl (lv_at hl 2 rfl) ?_
              refine lv_iadd hx hb dX4_fits_60 ?_
              obtain ⟨hi_35, hsp⟩ := ox_in hsp
              refine va_zald hx hb hK hP 1 0 rfl rfl (i := ((a1 * 16) + a2)) hi_35 dX4_fits_61 ?_
              refine lv_if_eq (tgt := 69) hx hb dX4_fits_62 (by decide) (fun c_36 => ?_) (fun c_36 => ?_)
              · rw [if_pos c_36] at hsp
                refine lv_iconst (v := 0) hx hb dX4_fits_69 (by decide) ?_
                have hr0 := Option.some.inj hsp
                clear hsp
                subst hr0
                have hP9 := hP.sub (ws' := [(h0, .inr (4, [.ref qf0, .ref qf1])), (qf1, .inl (cf1, 256, .inl f1))]) [0, 1] rfl
                have hD9 := hD.sub (ws' := [(h0, .inr (4, [.ref qf0, .ref qf1])), (qf1, .inl (cf1, 256, .inl f1))]) [0, 1] (by decide) rfl
                have hK9 := hK.sub (tys' := [(cf1, .boolean)]) [0] rfl
                exact W.zret hx hb hr (by decide) (fun t ht hW => ⟨⟨(0), (), rfl, ⟨rfl, Or.inl rfl⟩, by rw [ht]; exact hP9, va_K.moved hW.alike hK9, hD9⟩, hS.F ht⟩) hS.2.2 dX4_fits_70
              · rw [if_neg c_36] at hsp
                refine lv_iconst (v := 1) hx hb dX4_fits_65 (by decide) ?_
                refine lv_goto (tgt := 70) hx hb dX4_fits_66 (by decide) ?_
                have hr0 := Option.some.inj hsp
                clear hsp
                subst hr0
                have hP9 := hP.sub (ws' := [(h0, .inr (4, [.ref qf0, .ref qf1])), (qf1, .inl (cf1, 256, .inl f1))]) [0, 1] rfl
                have hD9 := hD.sub (ws' := [(h0, .inr (4, [.ref qf0, .ref qf1])), (qf1, .inl (cf1, 256, .inl f1))]) [0, 1] (by decide) rfl
                have hK9 := hK.sub (tys' := [(cf1, .boolean)]) [0] rfl
                exact W.zret hx hb hr (by decide) (fun t ht hW => ⟨⟨(1), (), rfl, ⟨rfl, Or.inr rfl⟩, by rw [ht]; exact hP9, va_K.moved hW.alike hK9, hD9⟩, hS.F ht⟩) hS.2.2 dX4_fits_70
    · rw [if_pos c_2] at hsp
      refine lv_iload_n hx hb dX4_fits_14 rfl (lv_at hl 2 rfl) ?_
      refine lv_if_lt (tgt := 29) hx hb dX4_fits_15 (by decide) (fun c_37 => ?_) (fun c_37 => ?_)
      · rw [if_pos c_37] at hsp
        refine lv_iconst (v := 0) hx hb dX4_fits_29 (by decide) ?_
        have hr0 := Option.some.inj hsp
        clear hsp
        subst hr0
        have hP9 := hP.sub (ws' := [(h0, .inr (4, [.ref qf0, .ref qf1])), (qf1, .inl (cf1, 256, .inl f1))]) [0, 1] rfl
        have hD9 := hD.sub (ws' := [(h0, .inr (4, [.ref qf0, .ref qf1])), (qf1, .inl (cf1, 256, .inl f1))]) [0, 1] (by decide) rfl
        have hK9 := hK.sub (tys' := [(cf1, .boolean)]) [0] rfl
        exact W.zret hx hb hr (by decide) (fun t ht hW => ⟨⟨(0), (), rfl, ⟨rfl, Or.inl rfl⟩, by rw [ht]; exact hP9, va_K.moved hW.alike hK9, hD9⟩, hS.F ht⟩) hS.2.2 dX4_fits_30
      · rw [if_neg c_37] at hsp
        refine lv_iload_n hx hb dX4_fits_18 rfl (lv_at hl 2 rfl) ?_
        refine lv_sipush (v := 200) hx hb dX4_fits_19 (by decide) ?_
        refine lv_icmp_gt (tgt := 29) hx hb dX4_fits_22 (by decide) (fun c_38 => ?_) (fun c_38 => ?_)
        · rw [if_pos c_38] at hsp
          refine lv_iconst (v := 0) hx hb dX4_fits_29 (by decide) ?_
          have hr0 := Option.some.inj hsp
          clear hsp
          subst hr0
          have hP9 := hP.sub (ws' := [(h0, .inr (4, [.ref qf0, .ref qf1])), (qf1, .inl (cf1, 256, .inl f1))]) [0, 1] rfl
          have hD9 := hD.sub (ws' := [(h0, .inr (4, [.ref qf0, .ref qf1])), (qf1, .inl (cf1, 256, .inl f1))]) [0, 1] (by decide) rfl
          have hK9 := hK.sub (tys' := [(cf1, .boolean)]) [0] rfl
          exact W.zret hx hb hr (by decide) (fun t ht hW => ⟨⟨(0), (), rfl, ⟨rfl, Or.inl rfl⟩, by rw [ht]; exact hP9, va_K.moved hW.alike hK9, hD9⟩, hS.F ht⟩) hS.2.2 dX4_fits_30
        · rw [if_neg c_38] at hsp
          refine lv_iconst (v := 1) hx hb dX4_fits_25 (by decide) ?_
          refine lv_goto (tgt := 30) hx hb dX4_fits_26 (by decide) ?_
          have hr0 := Option.some.inj hsp
          clear hsp
          subst hr0
          have hP9 := hP.sub (ws' := [(h0, .inr (4, [.ref qf0, .ref qf1])), (qf1, .inl (cf1, 256, .inl f1))]) [0, 1] rfl
          have hD9 := hD.sub (ws' := [(h0, .inr (4, [.ref qf0, .ref qf1])), (qf1, .inl (cf1, 256, .inl f1))]) [0, 1] (by decide) rfl
          have hK9 := hK.sub (tys' := [(cf1, .boolean)]) [0] rfl
          exact W.zret hx hb hr (by decide) (fun t ht hW => ⟨⟨(1), (), rfl, ⟨rfl, Or.inr rfl⟩, by rw [ht]; exact hP9, va_K.moved hW.alike hK9, hD9⟩, hS.F ht⟩) hS.2.2 dX4_fits_30
  · rw [if_pos c_1] at hsp
    refine lv_iconst (v := 1) hx hb dX4_fits_5 (by decide) ?_
    have hr0 := Option.some.inj hsp
    clear hsp
    subst hr0
    have hP9 := hP.sub (ws' := [(h0, .inr (4, [.ref qf0, .ref qf1])), (qf1, .inl (cf1, 256, .inl f1))]) [0, 1] rfl
    have hD9 := hD.sub (ws' := [(h0, .inr (4, [.ref qf0, .ref qf1])), (qf1, .inl (cf1, 256, .inl f1))]) [0, 1] (by decide) rfl
    have hK9 := hK.sub (tys' := [(cf1, .boolean)]) [0] rfl
    exact W.zret hx hb hr (by decide) (fun t ht hW => ⟨⟨(1), (), rfl, ⟨rfl, Or.inr rfl⟩, by rw [ht]; exact hP9, va_K.moved hW.alike hK9, hD9⟩, hS.F ht⟩) hS.2.2 dX4_fits_6
def sp_t4_oneFits (nf : Nat) (a1 : Int32) (a2 : Int32) (f1 : Nat → Int32) : Option (Int32) := ((sp_t4_fits nf a1 a2 f1).bind (fun p1 => (if p1 = 0 then ((sp_t4_fits nf a2 a1 f1).bind (fun p2 => (if p2 = 0 then (some 0) else (some 1)))) else (some 1))))
set_option maxHeartbeats 4000000 in
set_option maxRecDepth 100000 in
/-- ClassMill$Kin.oneFits -/
theorem t4_oneFits (l : Launch) (dC : Nat → ClassId) (dI : Nat → Nat → Nat) (sz : Nat) (h0 : Nat) (a1 : Int32) (a2 : Int32) (qf0 : Nat) (qf1 : Nat) (cf1 : ClassId) (f1 : (Nat → Int32)) (nf : Nat) (r0 : Int32) (hsp : sp_t4_oneFits nf a1 a2 f1 = some r0) : Met l yX4_oneFits (.code yX4_oneFits cX4_oneFits 3 (some .boolean) :: VS_h3) ({ frames := 1, cells := 0, slots := 0, locals := 23 }) (va_Pc [.ref h0, .int a1, .int a2] (fun U => U.heap.size = sz ∧ va_P (dC, dI) vwCl [(h0, .inr (4, [.ref qf0, .ref qf1])), (qf1, .inl (cf1, 256, .inl f1))] U.heap ∧ va_K (dC, dI) vwCl [(cf1, .boolean)] U ∧ va_D (fun _ => True) [(h0, .inr (4, [.ref qf0, .ref qf1])), (qf1, .inl (cf1, 256, .inl f1))])) (va_Qi (fun (r : Int32) (u : Unit) => match u with | () => r0 = r ∧ (r0 = 0 ∨ r0 = 1)) (fun (u : Unit) (t : State) => match u with | () => va_P (dC, dI) vwCl [(h0, .inr (4, [.ref qf0, .ref qf1])), (qf1, .inl (cf1, 256, .inl f1))] t.heap ∧ va_K (dC, dI) vwCl [(cf1, .boolean)] t ∧ va_D (va_A [(h0, .inr (4, [.ref qf0, .ref qf1])), (qf1, .inl (cf1, 256, .inl f1))] sz) [(h0, .inr (4, [.ref qf0, .ref qf1])), (qf1, .inl (cf1, 256, .inl f1))]) (va_A [(h0, .inr (4, [.ref qf0, .ref qf1])), (qf1, .inl (cf1, 256, .inl f1))] sz)) 0 0 (va_A [(h0, .inr (4, [.ref qf0, .ref qf1])), (qf1, .inl (cf1, 256, .inl f1))] sz) := by
  refine Met.ofW (cc := cX4_oneFits) (maxL := 3) (ret := (some .boolean)) (by decide) rfl ?_
  intro p e s m args below meth c s₁ B hml hv
  obtain ⟨rfl, hsz, hP, hK, hD0⟩ := hv
  have hx := B.exec
  have hb := B.bytes
  have hr := B.returns
  have hts := atoms_spec (ws := (.code yX4_oneFits cX4_oneFits 3 (some .boolean) :: VS_h3)) B.pre
  replace hts := fun w (h : w ∈ VS_h3) => hts w (List.mem_cons_of_mem _ h)
  have hown : s.vm.findClass RX4 = some m.cls := findClass_of_methodNamed B.named
  have hlocks := B.notSynchronized
  subst hsz
  have hD := hD0.self (sz := s.heap.size)
  generalize hAe : va_A [(h0, .inr (4, [.ref qf0, .ref qf1])), (qf1, .inl (cf1, 256, .inl f1))] s.heap.size = A at hD  ⊢
  have hA : ∀ q : Nat, s.heap.size ≤ q → A q := fun q h => by rw [← hAe]; exact Or.inr h
  have hP : va_P (dC, dI) vwCl [(h0, .inr (4, [.ref qf0, .ref qf1])), (qf1, .inl (cf1, 256, .inl f1))] s.heap := hP
  have hl := lv_entry ([.ref h0, .int a1, .int a2]) (n := 3) (Nat.le_of_ble_eq_true rfl)
  rw [lg_entry_eq]
  generalize (lg_sl ([.ref h0, .int a1, .int a2]) ++ List.replicate (3 - (lg_sl ([.ref h0, .int a1, .int a2])).length) Slot.unset).toArray = ls at hl ⊢
  have hl : lv_has ls 3 [(0, .ref h0), (1, .int a1), (2, .int a2)] := hl
  obtain ⟨H, hH⟩ : ∃ H : Heap, s.heap = H := ⟨_, rfl⟩
  rw [hH] at hP ⊢
  have hS : va_S A s.heap H [] := by rw [← hH]; exact va_S.rf
  obtain ⟨locs, hlo⟩ : ∃ locs : List Loc, locs = [] := ⟨_, rfl⟩
  rw [← hlo] at hS ⊢
  unfold sp_t4_oneFits at hsp
  refine lv_aload_n hx hb dX4_oneFits_0 rfl (lv_at hl 0 rfl) ?_
  refine lv_iload_n hx hb dX4_oneFits_1 rfl (lv_at hl 1 rfl) ?_
  refine lv_iload_n hx hb dX4_oneFits_2 rfl (lv_at hl 2 rfl) ?_
  obtain ⟨u1_0, hu_1, hsp⟩ := ox_bind hsp
  try dsimp only at hsp
  have hPc := hP.sub (ws' := [(h0, .inr (4, [.ref qf0, .ref qf1])), (qf1, .inl (cf1, 256, .inl f1))]) [0, 1] rfl
  have hDc := hD.sub (ws' := [(h0, .inr (4, [.ref qf0, .ref qf1])), (qf1, .inl (cf1, 256, .inl f1))]) [0, 1] (by decide) rfl
  have hKc := hK.sub (tys' := [(cf1, .boolean)]) [0] rfl
  have hFc := va_free (wc := [(h0, .inr (4, [.ref qf0, .ref qf1])), (qf1, .inl (cf1, 256, .inl f1))]) hD hS hA [0, 1] rfl
  refine va_calli (va_runV (As := [.int a1, .int a2]) (rest := []) ⟨hx, hb, hml, hown, hts⟩ (t4_fits l dC dI H.size h0 a1 a2 qf0 qf1 cf1 f1 nf u1_0 hu_1) (cwV 2 hts gv_h3_0 rfl rfl rfl (by decide +kernel) ⟨Nat.le_of_ble_eq_true rfl, Nat.le_of_ble_eq_true rfl⟩) ⟨fun a U g mk q => by obtain ⟨q0, q1, qP, qK, qD⟩ := q; exact ⟨q0, q1, qP, va_K.moved (u := U) (U := U.calling g mk a) (Vm.Alike.refl U.vm) qK, qD⟩, va_recv hKc hPc (ci := 4) (q0 := 0) rfl rfl, fun U hU hW => ⟨rfl, by rw [hU], by rw [hU]; exact hPc, va_K.moved hW.alike hKc, hDc.weaken (fun _ _ _ _ => trivial)⟩⟩ rfl rfl hl.1 rfl (lv_room (Nat.le_of_ble_eq_true rfl)) dX4_oneFits_3 ⟨Nat.le_of_ble_eq_true rfl, Nat.le_of_ble_eq_true rfl⟩) hS (fun q _ h => hFc q h) hFc ?_
  clear hS
  intro r_1 u t H1 locs ht hvm hw hB hz1 hk1 hS
  obtain ⟨⟩ := u
  obtain ⟨hP1, hK1, hD1⟩ := hB
  rw [ht] at hP1
  have hK1 := va_K.moved hvm.symm hK1
  try dsimp only at hw
  have hPD := va_join (wr := []) (w1 := [(h0, .inr (4, [.ref qf0, .ref qf1])), (qf1, .inl (cf1, 256, .inl f1))]) hP hD [0, 1] [] rfl rfl (by decide) (by decide) hk1 hFc hP1 hD1
  clear hP hD
  obtain ⟨hP, hD⟩ := hPD
  replace hK := (hK.sub (tys' := []) [] rfl).app hK1
  clear hPc hDc hKc hFc hP1 hK1 hD1 hz1 hk1 ht hvm
  generalize H1 = H at hP hS ⊢
  replace hP : va_P (dC, dI) vwCl [(h0, .inr (4, [.ref qf0, .ref qf1])), (qf1, .inl (cf1, 256, .inl f1))] H := hP
  replace hD : va_D A [(h0, .inr (4, [.ref qf0, .ref qf1])), (qf1, .inl (cf1, 256, .inl f1))] := hD
  replace hK : va_K (dC, dI) vwCl [(cf1, .boolean)] s := hK
  obtain ⟨rfl, hz_1⟩ := hw
  rcases hz_1 with rfl | rfl
  · rw [if_pos rfl] at hsp
    refine lv_if_ne (tgt := 18) hx hb dX4_oneFits_6 (by decide) (fun c_2 => (show False by revert c_2; decide).elim) (fun c_2 => ?_)
    refine lv_aload_n hx hb dX4_oneFits_9 rfl (lv_at hl 0 rfl) ?_
    refine lv_iload_n hx hb dX4_oneFits_10 rfl (lv_at hl 2 rfl) ?_
    refine lv_iload_n hx hb dX4_oneFits_11 rfl (lv_at hl 1 rfl) ?_
    obtain ⟨u2_0, hu_2, hsp⟩ := ox_bind hsp
    try dsimp only at hsp
    have hPc := hP.sub (ws' := [(h0, .inr (4, [.ref qf0, .ref qf1])), (qf1, .inl (cf1, 256, .inl f1))]) [0, 1] rfl
    have hDc := hD.sub (ws' := [(h0, .inr (4, [.ref qf0, .ref qf1])), (qf1, .inl (cf1, 256, .inl f1))]) [0, 1] (by decide) rfl
    have hKc := hK.sub (tys' := [(cf1, .boolean)]) [0] rfl
    have hFc := va_free (wc := [(h0, .inr (4, [.ref qf0, .ref qf1])), (qf1, .inl (cf1, 256, .inl f1))]) hD hS hA [0, 1] rfl
    refine va_calli (va_runV (As := [.int a2, .int a1]) (rest := []) ⟨hx, hb, hml, hown, hts⟩ (t4_fits l dC dI H.size h0 a2 a1 qf0 qf1 cf1 f1 nf u2_0 hu_2) (cwV 2 hts gv_h3_0 rfl rfl rfl (by decide +kernel) ⟨Nat.le_of_ble_eq_true rfl, Nat.le_of_ble_eq_true rfl⟩) ⟨fun a U g mk q => by obtain ⟨q0, q1, qP, qK, qD⟩ := q; exact ⟨q0, q1, qP, va_K.moved (u := U) (U := U.calling g mk a) (Vm.Alike.refl U.vm) qK, qD⟩, va_recv hKc hPc (ci := 4) (q0 := 0) rfl rfl, fun U hU hW => ⟨rfl, by rw [hU], by rw [hU]; exact hPc, va_K.moved hW.alike hKc, hDc.weaken (fun _ _ _ _ => trivial)⟩⟩ rfl rfl hl.1 rfl (lv_room (Nat.le_of_ble_eq_true rfl)) dX4_oneFits_12 ⟨Nat.le_of_ble_eq_true rfl, Nat.le_of_ble_eq_true rfl⟩) hS (fun q _ h => hFc q h) hFc ?_
    clear hS
    intro r_3 u t H1 locs ht hvm hw hB hz1 hk1 hS
    obtain ⟨⟩ := u
    obtain ⟨hP1, hK1, hD1⟩ := hB
    rw [ht] at hP1
    have hK1 := va_K.moved hvm.symm hK1
    try dsimp only at hw
    have hPD := va_join (wr := []) (w1 := [(h0, .inr (4, [.ref qf0, .ref qf1])), (qf1, .inl (cf1, 256, .inl f1))]) hP hD [0, 1] [] rfl rfl (by decide) (by decide) hk1 hFc hP1 hD1
    clear hP hD
    obtain ⟨hP, hD⟩ := hPD
    replace hK := (hK.sub (tys' := []) [] rfl).app hK1
    clear hPc hDc hKc hFc hP1 hK1 hD1 hz1 hk1 ht hvm
    generalize H1 = H at hP hS ⊢
    replace hP : va_P (dC, dI) vwCl [(h0, .inr (4, [.ref qf0, .ref qf1])), (qf1, .inl (cf1, 256, .inl f1))] H := hP
    replace hD : va_D A [(h0, .inr (4, [.ref qf0, .ref qf1])), (qf1, .inl (cf1, 256, .inl f1))] := hD
    replace hK : va_K (dC, dI) vwCl [(cf1, .boolean)] s := hK
    obtain ⟨rfl, hz_2⟩ := hw
    rcases hz_2 with rfl | rfl
    · rw [if_pos rfl] at hsp
      refine lv_if_eq (tgt := 22) hx hb dX4_oneFits_15 (by decide) (fun c_4 => ?_) (fun c_4 => (show False by revert c_4; decide).elim)
      refine lv_iconst (v := 0) hx hb dX4_oneFits_22 (by decide) ?_
      have hr0 := Option.some.inj hsp
      clear hsp
      subst hr0
      have hP9 := hP.sub (ws' := [(h0, .inr (4, [.ref qf0, .ref qf1])), (qf1, .inl (cf1, 256, .inl f1))]) [0, 1] rfl
      have hD9 := hD.sub (ws' := [(h0, .inr (4, [.ref qf0, .ref qf1])), (qf1, .inl (cf1, 256, .inl f1))]) [0, 1] (by decide) rfl
      have hK9 := hK.sub (tys' := [(cf1, .boolean)]) [0] rfl
      exact W.zret hx hb hr (by decide) (fun t ht hW => ⟨⟨(0), (), rfl, ⟨rfl, Or.inl rfl⟩, by rw [ht]; exact hP9, va_K.moved hW.alike hK9, hD9⟩, hS.F ht⟩) hS.2.2 dX4_oneFits_23
    · rw [if_neg (by decide)] at hsp
      refine lv_if_eq (tgt := 22) hx hb dX4_oneFits_15 (by decide) (fun c_5 => (show False by revert c_5; decide).elim) (fun c_5 => ?_)
      refine lv_iconst (v := 1) hx hb dX4_oneFits_18 (by decide) ?_
      refine lv_goto (tgt := 23) hx hb dX4_oneFits_19 (by decide) ?_
      have hr0 := Option.some.inj hsp
      clear hsp
      subst hr0
      have hP9 := hP.sub (ws' := [(h0, .inr (4, [.ref qf0, .ref qf1])), (qf1, .inl (cf1, 256, .inl f1))]) [0, 1] rfl
      have hD9 := hD.sub (ws' := [(h0, .inr (4, [.ref qf0, .ref qf1])), (qf1, .inl (cf1, 256, .inl f1))]) [0, 1] (by decide) rfl
      have hK9 := hK.sub (tys' := [(cf1, .boolean)]) [0] rfl
      exact W.zret hx hb hr (by decide) (fun t ht hW => ⟨⟨(1), (), rfl, ⟨rfl, Or.inr rfl⟩, by rw [ht]; exact hP9, va_K.moved hW.alike hK9, hD9⟩, hS.F ht⟩) hS.2.2 dX4_oneFits_23
  · rw [if_neg (by decide)] at hsp
    refine lv_if_ne (tgt := 18) hx hb dX4_oneFits_6 (by decide) (fun c_6 => ?_) (fun c_6 => (show False by revert c_6; decide).elim)
    refine lv_iconst (v := 1) hx hb dX4_oneFits_18 (by decide) ?_
    refine lv_goto (tgt := 23) hx hb dX4_oneFits_19 (by decide) ?_
    have hr0 := Option.some.inj hsp
    clear hsp
    subst hr0
    have hP9 := hP.sub (ws' := [(h0, .inr (4, [.ref qf0, .ref qf1])), (qf1, .inl (cf1, 256, .inl f1))]) [0, 1] rfl
    have hD9 := hD.sub (ws' := [(h0, .inr (4, [.ref qf0, .ref qf1])), (qf1, .inl (cf1, 256, .inl f1))]) [0, 1] (by decide) rfl
    have hK9 := hK.sub (tys' := [(cf1, .boolean)]) [0] rfl
    exact W.zret hx hb hr (by decide) (fun t ht hW => ⟨⟨(1), (), rfl, ⟨rfl, Or.inr rfl⟩, by rw [ht]; exact hP9, va_K.moved hW.alike hK9, hD9⟩, hS.F ht⟩) hS.2.2 dX4_oneFits_23
def sp_t3_numberOf (nf : Nat) (a1 : Int32) (v1 : Int32) (v7 : Int32) (f5 : Nat → Int32) (nb : Nat) (f0 : Nat → Int32) : Option (Int32) := ((sp_ti_partOf nf a1 0 v1 v7 f5 nb f0).bind (fun p1 => ((sp_ti_partOf nf a1 1 v1 v7 f5 nb f0).bind (fun p2 => ((sp_ti_partOf nf a1 2 v1 v7 f5 nb f0).bind (fun p3 => ((sp_ti_partOf nf a1 3 v1 v7 f5 nb f0).bind (fun p4 => (some ((((p1 <<< (24 &&& 31)) ||| (p2 <<< (16 &&& 31))) ||| (p3 <<< (8 &&& 31))) ||| p4))))))))))
set_option maxHeartbeats 4000000 in
set_option maxRecDepth 100000 in
/-- ClassMill$Image.numberOf -/
theorem t3_numberOf (l : Launch) (dC : Nat → ClassId) (dI : Nat → Nat → Nat) (sz : Nat) (h0 : Nat) (a1 : Int32) (qf0 : Nat) (v1 : Int32) (v2 : Int32) (v3 : Int32) (qf4 : Nat) (qf5 : Nat) (qf6 : Nat) (v7 : Int32) (v8 : Int32) (v9 : Int32) (v10 : Int32) (qf11 : Nat) (v12 : Int32) (qf13 : Nat) (cf5 : ClassId) (f5 : (Nat → Int32)) (cf0 : ClassId) (nb : Nat) (f0 : (Nat → Int32)) (nf : Nat) (r0 : Int32) (hsp : sp_t3_numberOf nf a1 v1 v7 f5 nb f0 = some r0) : Met l yX3_numberOf (.code yX3_numberOf cX3_numberOf 2 (some .int) :: VS_h3) ({ frames := 2, cells := 0, slots := 0, locals := 43 }) (va_Pc [.ref h0, .int a1] (fun U => U.heap.size = sz ∧ va_P (dC, dI) vwCl [(h0, .inr (3, [.ref qf0, .int v1, .int v2, .int v3, .ref qf4, .ref qf5, .ref qf6, .int v7, .int v8, .int v9, .int v10, .ref qf11, .int v12, .ref qf13])), (qf5, .inl (cf5, 256, .inl f5)), (qf0, .inl (cf0, nb, .inl f0))] U.heap ∧ va_K (dC, dI) vwCl [(cf5, .int), (cf0, .byte)] U ∧ va_D (fun _ => True) [(h0, .inr (3, [.ref qf0, .int v1, .int v2, .int v3, .ref qf4, .ref qf5, .ref qf6, .int v7, .int v8, .int v9, .int v10, .ref qf11, .int v12, .ref qf13])), (qf5, .inl (cf5, 256, .inl f5)), (qf0, .inl (cf0, nb, .inl f0))])) (va_Qi (fun (r : Int32) (u : Unit) => match u with | () => r0 = r) (fun (u : Unit) (t : State) => match u with | () => va_P (dC, dI) vwCl [(h0, .inr (3, [.ref qf0, .int v1, .int v2, .int v3, .ref qf4, .ref qf5, .ref qf6, .int v7, .int v8, .int v9, .int v10, .ref qf11, .int v12, .ref qf13])), (qf5, .inl (cf5, 256, .inl f5)), (qf0, .inl (cf0, nb, .inl f0))] t.heap ∧ va_K (dC, dI) vwCl [(cf5, .int), (cf0, .byte)] t ∧ va_D (va_A [(h0, .inr (3, [.ref qf0, .int v1, .int v2, .int v3, .ref qf4, .ref qf5, .ref qf6, .int v7, .int v8, .int v9, .int v10, .ref qf11, .int v12, .ref qf13])), (qf5, .inl (cf5, 256, .inl f5)), (qf0, .inl (cf0, nb, .inl f0))] sz) [(h0, .inr (3, [.ref qf0, .int v1, .int v2, .int v3, .ref qf4, .ref qf5, .ref qf6, .int v7, .int v8, .int v9, .int v10, .ref qf11, .int v12, .ref qf13])), (qf5, .inl (cf5, 256, .inl f5)), (qf0, .inl (cf0, nb, .inl f0))]) (va_A [(h0, .inr (3, [.ref qf0, .int v1, .int v2, .int v3, .ref qf4, .ref qf5, .ref qf6, .int v7, .int v8, .int v9, .int v10, .ref qf11, .int v12, .ref qf13])), (qf5, .inl (cf5, 256, .inl f5)), (qf0, .inl (cf0, nb, .inl f0))] sz)) 0 0 (va_A [(h0, .inr (3, [.ref qf0, .int v1, .int v2, .int v3, .ref qf4, .ref qf5, .ref qf6, .int v7, .int v8, .int v9, .int v10, .ref qf11, .int v12, .ref qf13])), (qf5, .inl (cf5, 256, .inl f5)), (qf0, .inl (cf0, nb, .inl f0))] sz) := by
  refine Met.ofW (cc := cX3_numberOf) (maxL := 2) (ret := (some .int)) (by decide) rfl ?_
  intro p e s m args below meth c s₁ B hml hv
  obtain ⟨rfl, hsz, hP, hK, hD0⟩ := hv
  have hx := B.exec
  have hb := B.bytes
  have hr := B.returns
  have hts := atoms_spec (ws := (.code yX3_numberOf cX3_numberOf 2 (some .int) :: VS_h3)) B.pre
  replace hts := fun w (h : w ∈ VS_h3) => hts w (List.mem_cons_of_mem _ h)
  have hown : s.vm.findClass RX3 = some m.cls := findClass_of_methodNamed B.named
  have hlocks := B.notSynchronized
  subst hsz
  have hD := hD0.self (sz := s.heap.size)
  generalize hAe : va_A [(h0, .inr (3, [.ref qf0, .int v1, .int v2, .int v3, .ref qf4, .ref qf5, .ref qf6, .int v7, .int v8, .int v9, .int v10, .ref qf11, .int v12, .ref qf13])), (qf5, .inl (cf5, 256, .inl f5)), (qf0, .inl (cf0, nb, .inl f0))] s.heap.size = A at hD  ⊢
  have hA : ∀ q : Nat, s.heap.size ≤ q → A q := fun q h => by rw [← hAe]; exact Or.inr h
  have hP : va_P (dC, dI) vwCl [(h0, .inr (3, [.ref qf0, .int v1, .int v2, .int v3, .ref qf4, .ref qf5, .ref qf6, .int v7, .int v8, .int v9, .int v10, .ref qf11, .int v12, .ref qf13])), (qf5, .inl (cf5, 256, .inl f5)), (qf0, .inl (cf0, nb, .inl f0))] s.heap := hP
  have hl := lv_entry ([.ref h0, .int a1]) (n := 2) (Nat.le_of_ble_eq_true rfl)
  rw [lg_entry_eq]
  generalize (lg_sl ([.ref h0, .int a1]) ++ List.replicate (2 - (lg_sl ([.ref h0, .int a1])).length) Slot.unset).toArray = ls at hl ⊢
  have hl : lv_has ls 2 [(0, .ref h0), (1, .int a1)] := hl
  obtain ⟨H, hH⟩ : ∃ H : Heap, s.heap = H := ⟨_, rfl⟩
  rw [hH] at hP ⊢
  have hS : va_S A s.heap H [] := by rw [← hH]; exact va_S.rf
  obtain ⟨locs, hlo⟩ : ∃ locs : List Loc, locs = [] := ⟨_, rfl⟩
  rw [← hlo] at hS ⊢
  unfold sp_t3_numberOf at hsp
  refine lv_aload_n hx hb dX3_numberOf_0 rfl (lv_at hl 0 rfl) ?_
  refine lv_iload_n hx hb dX3_numberOf_1 rfl (lv_at hl 1 rfl) ?_
  refine lv_iconst (v := 0) hx hb dX3_numberOf_2 (by decide) ?_
  obtain ⟨u1_0, hu_1, hsp⟩ := ox_bind hsp
  try dsimp only at hsp
  have hPc := hP.sub (ws' := [(h0, .inr (3, [.ref qf0, .int v1, .int v2, .int v3, .ref qf4, .ref qf5, .ref qf6, .int v7, .int v8, .int v9, .int v10, .ref qf11, .int v12, .ref qf13])), (qf5, .inl (cf5, 256, .inl f5)), (qf0, .inl (cf0, nb, .inl f0))]) [0, 1, 2] rfl
  have hDc := hD.sub (ws' := [(h0, .inr (3, [.ref qf0, .int v1, .int v2, .int v3, .ref qf4, .ref qf5, .ref qf6, .int v7, .int v8, .int v9, .int v10, .ref qf11, .int v12, .ref qf13])), (qf5, .inl (cf5, 256, .inl f5)), (qf0, .inl (cf0, nb, .inl f0))]) [0, 1, 2] (by decide) rfl
  have hKc := hK.sub (tys' := [(cf5, .int), (cf0, .byte)]) [0, 1] rfl
  have hFc := va_free (wc := [(h0, .inr (3, [.ref qf0, .int v1, .int v2, .int v3, .ref qf4, .ref qf5, .ref qf6, .int v7, .int v8, .int v9, .int v10, .ref qf11, .int v12, .ref qf13])), (qf5, .inl (cf5, 256, .inl f5)), (qf0, .inl (cf0, nb, .inl f0))]) hD hS hA [0, 1, 2] rfl
  refine va_calli (va_runV (As := [.int a1, .int 0]) (rest := []) ⟨hx, hb, hml, hown, hts⟩ (ti_partOf l dC dI H.size h0 a1 0 qf0 v1 v2 v3 qf4 qf5 qf6 v7 v8 v9 v10 qf11 v12 qf13 cf5 f5 cf0 nb f0 nf u1_0 hu_1) (cwV 2 hts gv_h3_3 rfl rfl rfl (by decide +kernel) ⟨Nat.le_of_ble_eq_true rfl, Nat.le_of_ble_eq_true rfl⟩) ⟨fun a U g mk q => by obtain ⟨q0, q1, qP, qK, qD⟩ := q; exact ⟨q0, q1, qP, va_K.moved (u := U) (U := U.calling g mk a) (Vm.Alike.refl U.vm) qK, qD⟩, va_recv hKc hPc (ci := 3) (q0 := 0) rfl rfl, fun U hU hW => ⟨rfl, by rw [hU], by rw [hU]; exact hPc, va_K.moved hW.alike hKc, hDc.weaken (fun _ _ _ _ => trivial)⟩⟩ rfl rfl hl.1 rfl (lv_room (Nat.le_of_ble_eq_true rfl)) dX3_numberOf_3 ⟨Nat.le_of_ble_eq_true rfl, Nat.le_of_ble_eq_true rfl⟩) hS (fun q _ h => hFc q h) hFc ?_
  clear hS
  intro r_1 u t H1 locs ht hvm hw hB hz1 hk1 hS
  obtain ⟨⟩ := u
  obtain ⟨hP1, hK1, hD1⟩ := hB
  rw [ht] at hP1
  have hK1 := va_K.moved hvm.symm hK1
  try dsimp only at hw
  have hPD := va_join (wr := []) (w1 := [(h0, .inr (3, [.ref qf0, .int v1, .int v2, .int v3, .ref qf4, .ref qf5, .ref qf6, .int v7, .int v8, .int v9, .int v10, .ref qf11, .int v12, .ref qf13])), (qf5, .inl (cf5, 256, .inl f5)), (qf0, .inl (cf0, nb, .inl f0))]) hP hD [0, 1, 2] [] rfl rfl (by decide) (by decide) hk1 hFc hP1 hD1
  clear hP hD
  obtain ⟨hP, hD⟩ := hPD
  replace hK := (hK.sub (tys' := []) [] rfl).app hK1
  clear hPc hDc hKc hFc hP1 hK1 hD1 hz1 hk1 ht hvm
  generalize H1 = H at hP hS ⊢
  replace hP : va_P (dC, dI) vwCl [(h0, .inr (3, [.ref qf0, .int v1, .int v2, .int v3, .ref qf4, .ref qf5, .ref qf6, .int v7, .int v8, .int v9, .int v10, .ref qf11, .int v12, .ref qf13])), (qf5, .inl (cf5, 256, .inl f5)), (qf0, .inl (cf0, nb, .inl f0))] H := hP
  replace hD : va_D A [(h0, .inr (3, [.ref qf0, .int v1, .int v2, .int v3, .ref qf4, .ref qf5, .ref qf6, .int v7, .int v8, .int v9, .int v10, .ref qf11, .int v12, .ref qf13])), (qf5, .inl (cf5, 256, .inl f5)), (qf0, .inl (cf0, nb, .inl f0))] := hD
  replace hK : va_K (dC, dI) vwCl [(cf5, .int), (cf0, .byte)] s := hK
  obtain rfl := hw
  refine lv_bipush (v := 24) hx hb dX3_numberOf_6 (by decide) ?_
  refine lv_ishl hx hb dX3_numberOf_8 ?_
  refine lv_aload_n hx hb dX3_numberOf_9 rfl (lv_at hl 0 rfl) ?_
  refine lv_iload_n hx hb dX3_numberOf_10 rfl (lv_at hl 1 rfl) ?_
  refine lv_iconst (v := 1) hx hb dX3_numberOf_11 (by decide) ?_
  obtain ⟨u2_0, hu_2, hsp⟩ := ox_bind hsp
  try dsimp only at hsp
  have hPc := hP.sub (ws' := [(h0, .inr (3, [.ref qf0, .int v1, .int v2, .int v3, .ref qf4, .ref qf5, .ref qf6, .int v7, .int v8, .int v9, .int v10, .ref qf11, .int v12, .ref qf13])), (qf5, .inl (cf5, 256, .inl f5)), (qf0, .inl (cf0, nb, .inl f0))]) [0, 1, 2] rfl
  have hDc := hD.sub (ws' := [(h0, .inr (3, [.ref qf0, .int v1, .int v2, .int v3, .ref qf4, .ref qf5, .ref qf6, .int v7, .int v8, .int v9, .int v10, .ref qf11, .int v12, .ref qf13])), (qf5, .inl (cf5, 256, .inl f5)), (qf0, .inl (cf0, nb, .inl f0))]) [0, 1, 2] (by decide) rfl
  have hKc := hK.sub (tys' := [(cf5, .int), (cf0, .byte)]) [0, 1] rfl
  have hFc := va_free (wc := [(h0, .inr (3, [.ref qf0, .int v1, .int v2, .int v3, .ref qf4, .ref qf5, .ref qf6, .int v7, .int v8, .int v9, .int v10, .ref qf11, .int v12, .ref qf13])), (qf5, .inl (cf5, 256, .inl f5)), (qf0, .inl (cf0, nb, .inl f0))]) hD hS hA [0, 1, 2] rfl
  refine va_calli (va_runV (As := [.int a1, .int 1]) (rest := [.int (u1_0 <<< (24 &&& 31))]) ⟨hx, hb, hml, hown, hts⟩ (ti_partOf l dC dI H.size h0 a1 1 qf0 v1 v2 v3 qf4 qf5 qf6 v7 v8 v9 v10 qf11 v12 qf13 cf5 f5 cf0 nb f0 nf u2_0 hu_2) (cwV 2 hts gv_h3_3 rfl rfl rfl (by decide +kernel) ⟨Nat.le_of_ble_eq_true rfl, Nat.le_of_ble_eq_true rfl⟩) ⟨fun a U g mk q => by obtain ⟨q0, q1, qP, qK, qD⟩ := q; exact ⟨q0, q1, qP, va_K.moved (u := U) (U := U.calling g mk a) (Vm.Alike.refl U.vm) qK, qD⟩, va_recv hKc hPc (ci := 3) (q0 := 0) rfl rfl, fun U hU hW => ⟨rfl, by rw [hU], by rw [hU]; exact hPc, va_K.moved hW.alike hKc, hDc.weaken (fun _ _ _ _ => trivial)⟩⟩ rfl rfl hl.1 rfl (lv_room (Nat.le_of_ble_eq_true rfl)) dX3_numberOf_12 ⟨Nat.le_of_ble_eq_true rfl, Nat.le_of_ble_eq_true rfl⟩) hS (fun q _ h => hFc q h) hFc ?_
  clear hS
  intro r_2 u t H1 locs ht hvm hw hB hz1 hk1 hS
  obtain ⟨⟩ := u
  obtain ⟨hP1, hK1, hD1⟩ := hB
  rw [ht] at hP1
  have hK1 := va_K.moved hvm.symm hK1
  try dsimp only at hw
  have hPD := va_join (wr := []) (w1 := [(h0, .inr (3, [.ref qf0, .int v1, .int v2, .int v3, .ref qf4, .ref qf5, .ref qf6, .int v7, .int v8, .int v9, .int v10, .ref qf11, .int v12, .ref qf13])), (qf5, .inl (cf5, 256, .inl f5)), (qf0, .inl (cf0, nb, .inl f0))]) hP hD [0, 1, 2] [] rfl rfl (by decide) (by decide) hk1 hFc hP1 hD1
  clear hP hD
  obtain ⟨hP, hD⟩ := hPD
  replace hK := (hK.sub (tys' := []) [] rfl).app hK1
  clear hPc hDc hKc hFc hP1 hK1 hD1 hz1 hk1 ht hvm
  generalize H1 = H at hP hS ⊢
  replace hP : va_P (dC, dI) vwCl [(h0, .inr (3, [.ref qf0, .int v1, .int v2, .int v3, .ref qf4, .ref qf5, .ref qf6, .int v7, .int v8, .int v9, .int v10, .ref qf11, .int v12, .ref qf13])), (qf5, .inl (cf5, 256, .inl f5)), (qf0, .inl (cf0, nb, .inl f0))] H := hP
  replace hD : va_D A [(h0, .inr (3, [.ref qf0, .int v1, .int v2, .int v3, .ref qf4, .ref qf5, .ref qf6, .int v7, .int v8, .int v9, .int v10, .ref qf11, .int v12, .ref qf13])), (qf5, .inl (cf5, 256, .inl f5)), (qf0, .inl (cf0, nb, .inl f0))] := hD
  replace hK : va_K (dC, dI) vwCl [(cf5, .int), (cf0, .byte)] s := hK
  obtain rfl := hw
  refine lv_bipush (v := 16) hx hb dX3_numberOf_15 (by decide) ?_
  refine lv_ishl hx hb dX3_numberOf_17 ?_
  refine lv_ior hx hb dX3_numberOf_18 ?_
  refine lv_aload_n hx hb dX3_numberOf_19 rfl (lv_at hl 0 rfl) ?_
  refine lv_iload_n hx hb dX3_numberOf_20 rfl (lv_at hl 1 rfl) ?_
  refine lv_iconst (v := 2) hx hb dX3_numberOf_21 (by decide) ?_
  obtain ⟨u3_0, hu_3, hsp⟩ := ox_bind hsp
  try dsimp only at hsp
  have hPc := hP.sub (ws' := [(h0, .inr (3, [.ref qf0, .int v1, .int v2, .int v3, .ref qf4, .ref qf5, .ref qf6, .int v7, .int v8, .int v9, .int v10, .ref qf11, .int v12, .ref qf13])), (qf5, .inl (cf5, 256, .inl f5)), (qf0, .inl (cf0, nb, .inl f0))]) [0, 1, 2] rfl
  have hDc := hD.sub (ws' := [(h0, .inr (3, [.ref qf0, .int v1, .int v2, .int v3, .ref qf4, .ref qf5, .ref qf6, .int v7, .int v8, .int v9, .int v10, .ref qf11, .int v12, .ref qf13])), (qf5, .inl (cf5, 256, .inl f5)), (qf0, .inl (cf0, nb, .inl f0))]) [0, 1, 2] (by decide) rfl
  have hKc := hK.sub (tys' := [(cf5, .int), (cf0, .byte)]) [0, 1] rfl
  have hFc := va_free (wc := [(h0, .inr (3, [.ref qf0, .int v1, .int v2, .int v3, .ref qf4, .ref qf5, .ref qf6, .int v7, .int v8, .int v9, .int v10, .ref qf11, .int v12, .ref qf13])), (qf5, .inl (cf5, 256, .inl f5)), (qf0, .inl (cf0, nb, .inl f0))]) hD hS hA [0, 1, 2] rfl
  refine va_calli (va_runV (As := [.int a1, .int 2]) (rest := [.int ((u1_0 <<< (24 &&& 31)) ||| (u2_0 <<< (16 &&& 31)))]) ⟨hx, hb, hml, hown, hts⟩ (ti_partOf l dC dI H.size h0 a1 2 qf0 v1 v2 v3 qf4 qf5 qf6 v7 v8 v9 v10 qf11 v12 qf13 cf5 f5 cf0 nb f0 nf u3_0 hu_3) (cwV 2 hts gv_h3_3 rfl rfl rfl (by decide +kernel) ⟨Nat.le_of_ble_eq_true rfl, Nat.le_of_ble_eq_true rfl⟩) ⟨fun a U g mk q => by obtain ⟨q0, q1, qP, qK, qD⟩ := q; exact ⟨q0, q1, qP, va_K.moved (u := U) (U := U.calling g mk a) (Vm.Alike.refl U.vm) qK, qD⟩, va_recv hKc hPc (ci := 3) (q0 := 0) rfl rfl, fun U hU hW => ⟨rfl, by rw [hU], by rw [hU]; exact hPc, va_K.moved hW.alike hKc, hDc.weaken (fun _ _ _ _ => trivial)⟩⟩ rfl rfl hl.1 rfl (lv_room (Nat.le_of_ble_eq_true rfl)) dX3_numberOf_22 ⟨Nat.le_of_ble_eq_true rfl, Nat.le_of_ble_eq_true rfl⟩) hS (fun q _ h => hFc q h) hFc ?_
  clear hS
  intro r_3 u t H1 locs ht hvm hw hB hz1 hk1 hS
  obtain ⟨⟩ := u
  obtain ⟨hP1, hK1, hD1⟩ := hB
  rw [ht] at hP1
  have hK1 := va_K.moved hvm.symm hK1
  try dsimp only at hw
  have hPD := va_join (wr := []) (w1 := [(h0, .inr (3, [.ref qf0, .int v1, .int v2, .int v3, .ref qf4, .ref qf5, .ref qf6, .int v7, .int v8, .int v9, .int v10, .ref qf11, .int v12, .ref qf13])), (qf5, .inl (cf5, 256, .inl f5)), (qf0, .inl (cf0, nb, .inl f0))]) hP hD [0, 1, 2] [] rfl rfl (by decide) (by decide) hk1 hFc hP1 hD1
  clear hP hD
  obtain ⟨hP, hD⟩ := hPD
  replace hK := (hK.sub (tys' := []) [] rfl).app hK1
  clear hPc hDc hKc hFc hP1 hK1 hD1 hz1 hk1 ht hvm
  generalize H1 = H at hP hS ⊢
  replace hP : va_P (dC, dI) vwCl [(h0, .inr (3, [.ref qf0, .int v1, .int v2, .int v3, .ref qf4, .ref qf5, .ref qf6, .int v7, .int v8, .int v9, .int v10, .ref qf11, .int v12, .ref qf13])), (qf5, .inl (cf5, 256, .inl f5)), (qf0, .inl (cf0, nb, .inl f0))] H := hP
  replace hD : va_D A [(h0, .inr (3, [.ref qf0, .int v1, .int v2, .int v3, .ref qf4, .ref qf5, .ref qf6, .int v7, .int v8, .int v9, .int v10, .ref qf11, .int v12, .ref qf13])), (qf5, .inl (cf5, 256, .inl f5)), (qf0, .inl (cf0, nb, .inl f0))] := hD
  replace hK : va_K (dC, dI) vwCl [(cf5, .int), (cf0, .byte)] s := hK
  obtain rfl := hw
  refine lv_bipush (v := 8) hx hb dX3_numberOf_25 (by decide) ?_
  refine lv_ishl hx hb dX3_numberOf_27 ?_
  refine lv_ior hx hb dX3_numberOf_28 ?_
  refine lv_aload_n hx hb dX3_numberOf_29 rfl (lv_at hl 0 rfl) ?_
  refine lv_iload_n hx hb dX3_numberOf_30 rfl (lv_at hl 1 rfl) ?_
  refine lv_iconst (v := 3) hx hb dX3_numberOf_31 (by decide) ?_
  obtain ⟨u4_0, hu_4, hsp⟩ := ox_bind hsp
  try dsimp only at hsp
  have hPc := hP.sub (ws' := [(h0, .inr (3, [.ref qf0, .int v1, .int v2, .int v3, .ref qf4, .ref qf5, .ref qf6, .int v7, .int v8, .int v9, .int v10, .ref qf11, .int v12, .ref qf13])), (qf5, .inl (cf5, 256, .inl f5)), (qf0, .inl (cf0, nb, .inl f0))]) [0, 1, 2] rfl
  have hDc := hD.sub (ws' := [(h0, .inr (3, [.ref qf0, .int v1, .int v2, .int v3, .ref qf4, .ref qf5, .ref qf6, .int v7, .int v8, .int v9, .int v10, .ref qf11, .int v12, .ref qf13])), (qf5, .inl (cf5, 256, .inl f5)), (qf0, .inl (cf0, nb, .inl f0))]) [0, 1, 2] (by decide) rfl
  have hKc := hK.sub (tys' := [(cf5, .int), (cf0, .byte)]) [0, 1] rfl
  have hFc := va_free (wc := [(h0, .inr (3, [.ref qf0, .int v1, .int v2, .int v3, .ref qf4, .ref qf5, .ref qf6, .int v7, .int v8, .int v9, .int v10, .ref qf11, .int v12, .ref qf13])), (qf5, .inl (cf5, 256, .inl f5)), (qf0, .inl (cf0, nb, .inl f0))]) hD hS hA [0, 1, 2] rfl
  refine va_calli (va_runV (As := [.int a1, .int 3]) (rest := [.int (((u1_0 <<< (24 &&& 31)) ||| (u2_0 <<< (16 &&& 31))) ||| (u3_0 <<< (8 &&& 31)))]) ⟨hx, hb, hml, hown, hts⟩ (ti_partOf l dC dI H.size h0 a1 3 qf0 v1 v2 v3 qf4 qf5 qf6 v7 v8 v9 v10 qf11 v12 qf13 cf5 f5 cf0 nb f0 nf u4_0 hu_4) (cwV 2 hts gv_h3_3 rfl rfl rfl (by decide +kernel) ⟨Nat.le_of_ble_eq_true rfl, Nat.le_of_ble_eq_true rfl⟩) ⟨fun a U g mk q => by obtain ⟨q0, q1, qP, qK, qD⟩ := q; exact ⟨q0, q1, qP, va_K.moved (u := U) (U := U.calling g mk a) (Vm.Alike.refl U.vm) qK, qD⟩, va_recv hKc hPc (ci := 3) (q0 := 0) rfl rfl, fun U hU hW => ⟨rfl, by rw [hU], by rw [hU]; exact hPc, va_K.moved hW.alike hKc, hDc.weaken (fun _ _ _ _ => trivial)⟩⟩ rfl rfl hl.1 rfl (lv_room (Nat.le_of_ble_eq_true rfl)) dX3_numberOf_32 ⟨Nat.le_of_ble_eq_true rfl, Nat.le_of_ble_eq_true rfl⟩) hS (fun q _ h => hFc q h) hFc ?_
  clear hS
  intro r_4 u t H1 locs ht hvm hw hB hz1 hk1 hS
  obtain ⟨⟩ := u
  obtain ⟨hP1, hK1, hD1⟩ := hB
  rw [ht] at hP1
  have hK1 := va_K.moved hvm.symm hK1
  try dsimp only at hw
  have hPD := va_join (wr := []) (w1 := [(h0, .inr (3, [.ref qf0, .int v1, .int v2, .int v3, .ref qf4, .ref qf5, .ref qf6, .int v7, .int v8, .int v9, .int v10, .ref qf11, .int v12, .ref qf13])), (qf5, .inl (cf5, 256, .inl f5)), (qf0, .inl (cf0, nb, .inl f0))]) hP hD [0, 1, 2] [] rfl rfl (by decide) (by decide) hk1 hFc hP1 hD1
  clear hP hD
  obtain ⟨hP, hD⟩ := hPD
  replace hK := (hK.sub (tys' := []) [] rfl).app hK1
  clear hPc hDc hKc hFc hP1 hK1 hD1 hz1 hk1 ht hvm
  generalize H1 = H at hP hS ⊢
  replace hP : va_P (dC, dI) vwCl [(h0, .inr (3, [.ref qf0, .int v1, .int v2, .int v3, .ref qf4, .ref qf5, .ref qf6, .int v7, .int v8, .int v9, .int v10, .ref qf11, .int v12, .ref qf13])), (qf5, .inl (cf5, 256, .inl f5)), (qf0, .inl (cf0, nb, .inl f0))] H := hP
  replace hD : va_D A [(h0, .inr (3, [.ref qf0, .int v1, .int v2, .int v3, .ref qf4, .ref qf5, .ref qf6, .int v7, .int v8, .int v9, .int v10, .ref qf11, .int v12, .ref qf13])), (qf5, .inl (cf5, 256, .inl f5)), (qf0, .inl (cf0, nb, .inl f0))] := hD
  replace hK : va_K (dC, dI) vwCl [(cf5, .int), (cf0, .byte)] s := hK
  obtain rfl := hw
  refine lv_ior hx hb dX3_numberOf_35 ?_
  have hr0 := Option.some.inj hsp
  clear hsp
  subst hr0
  have hP9 := hP.sub (ws' := [(h0, .inr (3, [.ref qf0, .int v1, .int v2, .int v3, .ref qf4, .ref qf5, .ref qf6, .int v7, .int v8, .int v9, .int v10, .ref qf11, .int v12, .ref qf13])), (qf5, .inl (cf5, 256, .inl f5)), (qf0, .inl (cf0, nb, .inl f0))]) [0, 1, 2] rfl
  have hD9 := hD.sub (ws' := [(h0, .inr (3, [.ref qf0, .int v1, .int v2, .int v3, .ref qf4, .ref qf5, .ref qf6, .int v7, .int v8, .int v9, .int v10, .ref qf11, .int v12, .ref qf13])), (qf5, .inl (cf5, 256, .inl f5)), (qf0, .inl (cf0, nb, .inl f0))]) [0, 1, 2] (by decide) rfl
  have hK9 := hK.sub (tys' := [(cf5, .int), (cf0, .byte)]) [0, 1] rfl
  exact W.iret hx hb hr (fun t ht hW => ⟨⟨(((((u1_0 <<< (24 &&& 31)) ||| (u2_0 <<< (16 &&& 31))) ||| (u3_0 <<< (8 &&& 31))) ||| u4_0)), (), rfl, rfl, by rw [ht]; exact hP9, va_K.moved hW.alike hK9, hD9⟩, hS.F ht⟩) hS.2.2 dX3_numberOf_36
def lp_t3_sameBytes_47 (nf n : Nat) (a1 : Int32) (a2 : Int32) (a4 : Int32) (a5 : Int32) (v1 : Int32) (nb : Nat) (f0 : Nat → Int32) (va3_1 : Int32) (fa3_0 : Nat → Int32)  (l1_47 : Int32) (l2_47 : Int32) (l4_47 : Int32) (l5_47 : Int32) (l6_47 : Int32) (l7_47 : Int32) : Option (Int32) := match n with
  | 0 => none
  | n + 1 => (if (l2_47 - l1_47) ≤ l7_47 then (if l6_47 = 0 then (some 0) else if l6_47 = 1 then (some 1) else none) else (if l6_47 = 0 then (if l6_47 = 0 then (some 0) else if l6_47 = 1 then (some 1) else none) else (if (l1_47 + l7_47) < 0 then none else if nb ≤ ((l1_47 + l7_47) : Int32).toNatClampNeg then none else (if (l4_47 + l7_47) < 0 then none else if nb ≤ ((l4_47 + l7_47) : Int32).toNatClampNeg then none else (if (f0 ((l1_47 + l7_47) : Int32).toNatClampNeg) = (fa3_0 ((l4_47 + l7_47) : Int32).toNatClampNeg) then (lp_t3_sameBytes_47 nf n a1 a2 a4 a5 v1 nb f0 va3_1 fa3_0 l1_47 l2_47 l4_47 l5_47 1 (l7_47 + 1)) else (lp_t3_sameBytes_47 nf n a1 a2 a4 a5 v1 nb f0 va3_1 fa3_0 l1_47 l2_47 l4_47 l5_47 0 (l7_47 + 1)))))))
def sp_t3_sameBytes (nf : Nat) (a1 : Int32) (a2 : Int32) (a4 : Int32) (a5 : Int32) (v1 : Int32) (nb : Nat) (f0 : Nat → Int32) (va3_1 : Int32) (fa3_0 : Nat → Int32) : Option (Int32) := (if (a2 - a1) = (a5 - a4) then (if a1 < 0 then (lp_t3_sameBytes_47 nf nf a1 a2 a4 a5 v1 nb f0 va3_1 fa3_0 a1 a2 a4 a5 0 0) else (if v1 < a2 then (lp_t3_sameBytes_47 nf nf a1 a2 a4 a5 v1 nb f0 va3_1 fa3_0 a1 a2 a4 a5 0 0) else (if a4 < 0 then (lp_t3_sameBytes_47 nf nf a1 a2 a4 a5 v1 nb f0 va3_1 fa3_0 a1 a2 a4 a5 0 0) else (if va3_1 < a5 then (lp_t3_sameBytes_47 nf nf a1 a2 a4 a5 v1 nb f0 va3_1 fa3_0 a1 a2 a4 a5 0 0) else (lp_t3_sameBytes_47 nf nf a1 a2 a4 a5 v1 nb f0 va3_1 fa3_0 a1 a2 a4 a5 1 0))))) else (lp_t3_sameBytes_47 nf nf a1 a2 a4 a5 v1 nb f0 va3_1 fa3_0 a1 a2 a4 a5 0 0))

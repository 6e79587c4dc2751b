set_option maxHeartbeats 4000000 in
set_option maxRecDepth 100000 in
/-- ClassMillModel.sameText -/
theorem vm_sameText (l : Launch) (dC : Nat → ClassId) (dI : Nat → Nat → Nat) (sz : Nat) (h0 : Nat) (zs : (List Value)) (a1 : Int32) (a2 : Int32) (a3 : Int32) (a4 : Int32) (qf100 : Nat) (qf102 : Nat) (cf102 : ClassId) (f102 : (Nat → Int32)) (cf100 : ClassId) (f100 : (Nat → Int32)) (nf : Nat) (r0 : Int32) (hlen : zs.length = 155) (hf100 : zs[100]? = some (.ref qf100)) (hf102 : zs[102]? = some (.ref qf102)) (hsp : sp_vm_sameText nf a1 a2 a3 a4 f102 f100 = some r0) : Met l yX13_sameText (.code yX13_sameText cX13_sameText 9 (some .boolean) :: VS_h9) ({ frames := 0, cells := 0, slots := 0, locals := 0 }) (va_Pc [.ref h0, .int a1, .int a2, .int a3, .int a4] (fun U => U.heap.size = sz ∧ va_P (dC, dI) vwCl [(h0, .inr (13, zs)), (qf102, .inl (cf102, 2048, .inl f102)), (qf100, .inl (cf100, 48000, .inl f100))] U.heap ∧ va_K (dC, dI) vwCl [(cf102, .int), (cf100, .int)] U ∧ va_D (fun _ => True) [(h0, .inr (13, zs)), (qf102, .inl (cf102, 2048, .inl f102)), (qf100, .inl (cf100, 48000, .inl f100))])) (va_Qi (fun (r : Int32) (u : (List Value)) => match u with | (zo1) => (r0 = r ∧ (r0 = 0 ∨ r0 = 1)) ∧ zo1.length = 155 ∧ (∀ j : Nat, zo1[j]? = zs[j]?)) (fun (u : (List Value)) (t : State) => match u with | (zo1) => va_P (dC, dI) vwCl [(h0, .inr (13, zo1)), (qf102, .inl (cf102, 2048, .inl f102)), (qf100, .inl (cf100, 48000, .inl f100))] t.heap ∧ va_K (dC, dI) vwCl [(cf102, .int), (cf100, .int)] t ∧ va_D (va_A [(h0, .inr (13, zs)), (qf102, .inl (cf102, 2048, .inl f102)), (qf100, .inl (cf100, 48000, .inl f100))] sz) [(h0, .inr (13, zo1)), (qf102, .inl (cf102, 2048, .inl f102)), (qf100, .inl (cf100, 48000, .inl f100))]) (va_A [(h0, .inr (13, zs)), (qf102, .inl (cf102, 2048, .inl f102)), (qf100, .inl (cf100, 48000, .inl f100))] sz)) 0 0 (va_A [(h0, .inr (13, zs)), (qf102, .inl (cf102, 2048, .inl f102)), (qf100, .inl (cf100, 48000, .inl f100))] sz) := by
  refine Met.ofW (cc := cX13_sameText) (maxL := 9) (ret := (some .boolean)) (by decide) rfl ?_
  intro p e s m args below meth c s₁ B hml hv
  obtain ⟨rfl, hsz, hP, hK, hD0⟩ := hv
  have hx := B.exec
  have hb := B.bytes
  have hr := B.returns
  have hts := atoms_spec (ws := (.code yX13_sameText cX13_sameText 9 (some .boolean) :: VS_h9)) B.pre
  replace hts := fun w (h : w ∈ VS_h9) => hts w (List.mem_cons_of_mem _ h)
  have hown : s.vm.findClass RX13 = some m.cls := findClass_of_methodNamed B.named
  have hlocks := B.notSynchronized
  subst hsz
  have hD := hD0.self (sz := s.heap.size)
  generalize hAe : va_A [(h0, .inr (13, zs)), (qf102, .inl (cf102, 2048, .inl f102)), (qf100, .inl (cf100, 48000, .inl f100))] s.heap.size = A at hD  ⊢
  have hA : ∀ q : Nat, s.heap.size ≤ q → A q := fun q h => by rw [← hAe]; exact Or.inr h
  have hP : va_P (dC, dI) vwCl [(h0, .inr (13, zs)), (qf102, .inl (cf102, 2048, .inl f102)), (qf100, .inl (cf100, 48000, .inl f100))] s.heap := hP
  have hl := lv_entry ([.ref h0, .int a1, .int a2, .int a3, .int a4]) (n := 9) (Nat.le_of_ble_eq_true rfl)
  rw [lg_entry_eq]
  generalize (lg_sl ([.ref h0, .int a1, .int a2, .int a3, .int a4]) ++ List.replicate (9 - (lg_sl ([.ref h0, .int a1, .int a2, .int a3, .int a4])).length) Slot.unset).toArray = ls at hl ⊢
  have hl : lv_has ls 9 [(0, .ref h0), (1, .int a1), (2, .int a2), (3, .int a3), (4, .int a4)] := hl
  obtain ⟨H, hH⟩ : ∃ H : Heap, s.heap = H := ⟨_, rfl⟩
  rw [hH] at hP ⊢
  have hS : va_S A s.heap H [] := by rw [← hH]; exact va_S.rf
  obtain ⟨locs, hlo⟩ : ∃ locs : List Loc, locs = [] := ⟨_, rfl⟩
  rw [← hlo] at hS ⊢
  have hrs0 : ∀ j : Nat, zs[j]? = zs[j]? := fun _  => rfl
  unfold sp_vm_sameText at hsp
  refine jn_use (α := Heap × List Loc × Array Slot × List Value × Int32 × Int32 × Int32) (fun x9 => x9.1) (fun x9 => x9.2.1) (fun x9 => F0 m 67 x9.2.2.1 [.int (x9.2.2.2.2.2.2)]) (fun x9 => match x9 with | (H, locs, ls, z67, l5_67, l6_67, s0_67) => lv_has ls 9 [(0, .ref h0), (5, .int l5_67), (6, .int l6_67)] ∧ va_S A s.heap H locs ∧ va_D A [(h0, .inr (13, z67)), (qf102, .inl (cf102, 2048, .inl f102)), (qf100, .inl (cf100, 48000, .inl f100))] ∧ va_P (dC, dI) vwCl [(h0, .inr (13, z67)), (qf102, .inl (cf102, 2048, .inl f102)), (qf100, .inl (cf100, 48000, .inl f100))] H ∧ z67[100]? = some (.ref qf100) ∧ z67[102]? = some (.ref qf102) ∧ z67.length = 155 ∧ (∀ j : Nat, z67[j]? = zs[j]?) ∧ jn_vm_sameText_67 nf a1 a2 a3 a4 f102 f100 l5_67 l6_67 s0_67 = some r0) ?_ ?_
  · intro x9 hJ9
    obtain ⟨H, locs, ls, z67, l5_67, l6_67, s0_67⟩ := x9
    obtain ⟨hl, hS, hD, hP, hfh_67_100, hfh_67_102, hlh_67, hrh_67, hsp⟩ := hJ9
    replace hl : lv_has ls 9 [(0, .ref h0), (5, .int l5_67), (6, .int l6_67)] := hl
    replace hS : va_S A s.heap H locs := hS
    replace hD : va_D A [(h0, .inr (13, z67)), (qf102, .inl (cf102, 2048, .inl f102)), (qf100, .inl (cf100, 48000, .inl f100))] := hD
    replace hP : va_P (dC, dI) vwCl [(h0, .inr (13, z67)), (qf102, .inl (cf102, 2048, .inl f102)), (qf100, .inl (cf100, 48000, .inl f100))] H := hP
    replace hsp : jn_vm_sameText_67 nf a1 a2 a3 a4 f102 f100 l5_67 l6_67 s0_67 = some r0 := hsp
    show W _ _ _ _ _ _ _ _ _ _ H locs _ _ _ (F0 m 67 ls [.int s0_67])
    unfold jn_vm_sameText_67 at hsp
    try dsimp only at hsp
    refine lv_istore (lv' := [(7, .int s0_67), (0, .ref h0), (5, .int l5_67), (6, .int l6_67)]) hx hb dX13_sameText_67 hl (by decide) rfl (fun ls hl => ?_)
    refine lv_iconst (v := 0) hx hb dX13_sameText_69 (by decide) ?_
    refine lv_istore (lv' := [(8, .int 0), (7, .int s0_67), (0, .ref h0), (5, .int l5_67), (6, .int l6_67)]) hx hb dX13_sameText_70 hl (by decide) rfl (fun ls hl => ?_)
    replace hl : lv_has ls 9 [(8, .int 0), (7, .int s0_67), (0, .ref h0), (5, .int l5_67), (6, .int l6_67)] := lv_sub hl [0, 1, 2, 3, 4] rfl
    replace hP := hP.sub (ws' := [(h0, .inr (13, z67)), (qf102, .inl (cf102, 2048, .inl f102)), (qf100, .inl (cf100, 48000, .inl f100))]) [0, 1, 2] rfl
    replace hD := hD.sub (ws' := [(h0, .inr (13, z67)), (qf102, .inl (cf102, 2048, .inl f102)), (qf100, .inl (cf100, 48000, .inl f100))]) [0, 1, 2] (by decide) rfl
    replace hK := hK.sub (tys' := [(cf102, .int), (cf100, .int)]) [0, 1] rfl
    obtain ⟨n_72, hn_72⟩ : ∃ z : Nat, z = nf := ⟨_, rfl⟩
    obtain ⟨l5_72, el5_72⟩ : ∃ z : Int32, z = l5_67 := ⟨_, rfl⟩
    obtain ⟨l6_72, el6_72⟩ : ∃ z : Int32, z = l6_67 := ⟨_, rfl⟩
    obtain ⟨l7_72, el7_72⟩ : ∃ z : Int32, z = s0_67 := ⟨_, rfl⟩
    obtain ⟨l8_72, el8_72⟩ : ∃ z : Int32, z = 0 := ⟨_, rfl⟩
    replace hsp : lp_vm_sameText_72 nf n_72 a1 a2 a3 a4 f102 f100 l5_72 l6_72 l7_72 l8_72 = some r0 := by rw [hn_72, el5_72, el6_72, el7_72, el8_72]; exact hsp
    replace hl : lv_has ls 9 [(8, .int l8_72), (7, .int l7_72), (0, .ref h0), (5, .int l5_72), (6, .int l6_72)] := by rw [el5_72, el6_72, el7_72, el8_72]; exact hl
    obtain ⟨z72, ez72⟩ : ∃ z : List Value, z = z67 := ⟨_, rfl⟩
    have hfh_72_100 : z72[100]? = some (.ref qf100) := by rw [ez72]; exact hfh_67_100
    have hfh_72_102 : z72[102]? = some (.ref qf102) := by rw [ez72]; exact hfh_67_102
    have hlh_72 : z72.length = 155 := by rw [ez72]; exact hlh_67
    have hrh_72 : ∀ j : Nat, z72[j]? = zs[j]? := by rw [ez72]; exact hrh_67
    replace hP : va_P (dC, dI) vwCl [(h0, .inr (13, z72)), (qf102, .inl (cf102, 2048, .inl f102)), (qf100, .inl (cf100, 48000, .inl f100))] H := by rw [ez72]; exact hP
    replace hD : va_D A [(h0, .inr (13, z72)), (qf102, .inl (cf102, 2048, .inl f102)), (qf100, .inl (cf100, 48000, .inl f100))] := by rw [ez72]; exact hD
    clear hn_72 ez72 el5_72 el6_72 el7_72 el8_72
    try clear hlo
    try clear hH
    revert hsp
    revert hP
    revert hD
    revert hS
    revert hl
    revert hrh_72
    revert hlh_72
    revert hfh_72_102
    revert hfh_72_100
    revert l8_72
    revert l7_72
    revert l6_72
    revert l5_72
    revert z72
    revert ls
    revert locs
    revert H
    induction n_72 with
    | zero => intro H locs ls z72 l5_72 l6_72 l7_72 l8_72 hfh_72_100 hfh_72_102 hlh_72 hrh_72 hl hS hD hP hsp; unfold lp_vm_sameText_72 at hsp; cases hsp
    | succ n_72 ih_72 =>
      intro H locs ls z72 l5_72 l6_72 l7_72 l8_72 hfh_72_100 hfh_72_102 hlh_72 hrh_72 hl hS hD hP hsp
      unfold lp_vm_sameText_72 at hsp
      try dsimp only at hsp
      refine lv_iload hx hb dX13_sameText_72 (lv_at hl 0 rfl) ?_
      refine lv_aload_n hx hb dX13_sameText_74 rfl (lv_at hl 2 rfl) ?_
      refine va_get (D := (dC, dI)) (ci := 13) (v := .ref qf100) (C := RX13) (T := TX13) (N := 155) hx hb hts uV_h9_X13 hown hK hP 0 rfl rfl 100 (by decide) (hts (.fieldLink RX13 209 "ClassMillModel" "bytes" "[I") mw_h9_266) (fun _ h9 => h9) hfh_72_100 dX13_sameText_75 ?_
      refine lv_iload hx hb dX13_sameText_78 (lv_at hl 3 rfl) ?_
      refine lv_iconst (v := 1) hx hb dX13_sameText_80 (by decide) ?_
      refine lv_iadd hx hb dX13_sameText_81 ?_
      obtain ⟨hi_6, hsp⟩ := ox_in hsp
      refine va_iald hx hb hK hP 2 1 rfl rfl (i := (l5_72 + 1)) hi_6 dX13_sameText_82 ?_
      refine lv_icmp_ge (tgt := 131) hx hb dX13_sameText_83 (by decide) (fun c_7 => ?_) (fun c_7 => ?_)
      · rw [if_pos c_7] at hsp
        refine lv_iload hx hb dX13_sameText_131 (lv_at hl 1 rfl) ?_
        rcases ox_01 hsp with ⟨rfl, hsp⟩ | ⟨rfl, hsp⟩
        · skip
          have hr0 := Option.some.inj hsp
          clear hsp
          subst hr0
          have hP9 := hP.sub (ws' := [(h0, .inr (13, z72)), (qf102, .inl (cf102, 2048, .inl f102)), (qf100, .inl (cf100, 48000, .inl f100))]) [0, 1, 2] rfl
          have hD9 := hD.sub (ws' := [(h0, .inr (13, z72)), (qf102, .inl (cf102, 2048, .inl f102)), (qf100, .inl (cf100, 48000, .inl f100))]) [0, 1, 2] (by decide) rfl
          have hK9 := hK.sub (tys' := [(cf102, .int), (cf100, .int)]) [0, 1] rfl
          exact W.zret hx hb hr (by decide) (fun t ht hW => ⟨⟨(0), (z72), rfl, ⟨⟨rfl, Or.inl rfl⟩, hlh_72, hrh_72⟩, by rw [ht]; exact hP9, va_K.moved hW.alike hK9, hD9⟩, hS.F ht⟩) hS.2.2 dX13_sameText_133
        · skip
          have hr0 := Option.some.inj hsp
          clear hsp
          subst hr0
          have hP9 := hP.sub (ws' := [(h0, .inr (13, z72)), (qf102, .inl (cf102, 2048, .inl f102)), (qf100, .inl (cf100, 48000, .inl f100))]) [0, 1, 2] rfl
          have hD9 := hD.sub (ws' := [(h0, .inr (13, z72)), (qf102, .inl (cf102, 2048, .inl f102)), (qf100, .inl (cf100, 48000, .inl f100))]) [0, 1, 2] (by decide) rfl
          have hK9 := hK.sub (tys' := [(cf102, .int), (cf100, .int)]) [0, 1] rfl
          exact W.zret hx hb hr (by decide) (fun t ht hW => ⟨⟨(1), (z72), rfl, ⟨⟨rfl, Or.inr rfl⟩, hlh_72, hrh_72⟩, by rw [ht]; exact hP9, va_K.moved hW.alike hK9, hD9⟩, hS.F ht⟩) hS.2.2 dX13_sameText_133
      · rw [if_neg c_7] at hsp
        refine lv_iload hx hb dX13_sameText_86 (lv_at hl 1 rfl) ?_
        refine lv_if_eq (tgt := 131) hx hb dX13_sameText_88 (by decide) (fun c_8 => ?_) (fun c_8 => ?_)
        · rw [if_pos c_8] at hsp
          refine lv_iload hx hb dX13_sameText_131 (lv_at hl 1 rfl) ?_
          rcases ox_01 hsp with ⟨rfl, hsp⟩ | ⟨rfl, hsp⟩
          · skip
            have hr0 := Option.some.inj hsp
            clear hsp
            subst hr0
            have hP9 := hP.sub (ws' := [(h0, .inr (13, z72)), (qf102, .inl (cf102, 2048, .inl f102)), (qf100, .inl (cf100, 48000, .inl f100))]) [0, 1, 2] rfl
            have hD9 := hD.sub (ws' := [(h0, .inr (13, z72)), (qf102, .inl (cf102, 2048, .inl f102)), (qf100, .inl (cf100, 48000, .inl f100))]) [0, 1, 2] (by decide) rfl
            have hK9 := hK.sub (tys' := [(cf102, .int), (cf100, .int)]) [0, 1] rfl
            exact W.zret hx hb hr (by decide) (fun t ht hW => ⟨⟨(0), (z72), rfl, ⟨⟨rfl, Or.inl rfl⟩, hlh_72, hrh_72⟩, by rw [ht]; exact hP9, va_K.moved hW.alike hK9, hD9⟩, hS.F ht⟩) hS.2.2 dX13_sameText_133
          · skip
            have hr0 := Option.some.inj hsp
            clear hsp
            subst hr0
            have hP9 := hP.sub (ws' := [(h0, .inr (13, z72)), (qf102, .inl (cf102, 2048, .inl f102)), (qf100, .inl (cf100, 48000, .inl f100))]) [0, 1, 2] rfl
            have hD9 := hD.sub (ws' := [(h0, .inr (13, z72)), (qf102, .inl (cf102, 2048, .inl f102)), (qf100, .inl (cf100, 48000, .inl f100))]) [0, 1, 2] (by decide) rfl
            have hK9 := hK.sub (tys' := [(cf102, .int), (cf100, .int)]) [0, 1] rfl
            exact W.zret hx hb hr (by decide) (fun t ht hW => ⟨⟨(1), (z72), rfl, ⟨⟨rfl, Or.inr rfl⟩, hlh_72, hrh_72⟩, by rw [ht]; exact hP9, va_K.moved hW.alike hK9, hD9⟩, hS.F ht⟩) hS.2.2 dX13_sameText_133
        · rw [if_neg c_8] at hsp
          refine lv_aload_n hx hb dX13_sameText_91 rfl (lv_at hl 2 rfl) ?_
          refine va_get (D := (dC, dI)) (ci := 13) (v := .ref qf100) (C := RX13) (T := TX13) (N := 155) hx hb hts uV_h9_X13 hown hK hP 0 rfl rfl 100 (by decide) (hts (.fieldLink RX13 209 "ClassMillModel" "bytes" "[I") mw_h9_266) (fun _ h9 => h9) hfh_72_100 dX13_sameText_92 ?_
          refine lv_iload hx hb dX13_sameText_95 (lv_at hl 3 rfl) ?_
          refine lv_iconst (v := 2) hx hb dX13_sameText_97 (by decide) ?_
          refine lv_iadd hx hb dX13_sameText_98 ?_
          refine lv_iload hx hb dX13_sameText_99 (lv_at hl 0 rfl) ?_
          refine lv_iadd hx hb dX13_sameText_101 ?_
          obtain ⟨hi_9, hsp⟩ := ox_in hsp
          refine va_iald hx hb hK hP 2 1 rfl rfl (i := ((l5_72 + 2) + l8_72)) hi_9 dX13_sameText_102 ?_
          refine lv_aload_n hx hb dX13_sameText_103 rfl (lv_at hl 2 rfl) ?_
          refine va_get (D := (dC, dI)) (ci := 13) (v := .ref qf100) (C := RX13) (T := TX13) (N := 155) hx hb hts uV_h9_X13 hown hK hP 0 rfl rfl 100 (by decide) (hts (.fieldLink RX13 209 "ClassMillModel" "bytes" "[I") mw_h9_266) (fun _ h9 => h9) hfh_72_100 dX13_sameText_104 ?_
          refine lv_iload hx hb dX13_sameText_107 (lv_at hl 4 rfl) ?_
          refine lv_iconst (v := 2) hx hb dX13_sameText_109 (by decide) ?_
          refine lv_iadd hx hb dX13_sameText_110 ?_
          refine lv_iload hx hb dX13_sameText_111 (lv_at hl 0 rfl) ?_
          refine lv_iadd hx hb dX13_sameText_113 ?_
          obtain ⟨hi_10, hsp⟩ := ox_in hsp
          refine va_iald hx hb hK hP 2 1 rfl rfl (i := ((l6_72 + 2) + l8_72)) hi_10 dX13_sameText_114 ?_
          refine lv_icmp_ne (tgt := 122) hx hb dX13_sameText_115 (by decide) (fun c_11 => ?_) (fun c_11 => ?_)
          · rw [if_neg c_11] at hsp
            refine lv_iconst (v := 0) hx hb dX13_sameText_122 (by decide) ?_
            refine lv_istore (lv' := [(7, .int 0), (8, .int l8_72), (0, .ref h0), (5, .int l5_72), (6, .int l6_72)]) hx hb dX13_sameText_123 hl (by decide) rfl (fun ls hl => ?_)
            refine lv_iinc (v := (l8_72 + 1)) (lv' := [(8, .int (l8_72 + 1)), (7, .int 0), (0, .ref h0), (5, .int l5_72), (6, .int l6_72)]) hx hb dX13_sameText_125 hl (k := 1) rfl rfl (by decide) rfl (fun ls hl => ?_)
            refine lv_goto (tgt := 72) hx hb dX13_sameText_128 (by decide) ?_
            exact ih_72 H locs ls z72 l5_72 l6_72 0 (l8_72 + 1) (hfh_72_100) (hfh_72_102) hlh_72 hrh_72 (lv_sub hl [0, 1, 2, 3, 4] rfl) hS (hD.sub (ws' := [(h0, .inr (13, z72)), (qf102, .inl (cf102, 2048, .inl f102)), (qf100, .inl (cf100, 48000, .inl f100))]) [0, 1, 2] (by decide) rfl) (hP.sub (ws' := [(h0, .inr (13, z72)), (qf102, .inl (cf102, 2048, .inl f102)), (qf100, .inl (cf100, 48000, .inl f100))]) [0, 1, 2] rfl) hsp
          · rw [if_pos c_11] at hsp
            refine lv_iconst (v := 1) hx hb dX13_sameText_118 (by decide) ?_
            refine lv_goto (tgt := 123) hx hb dX13_sameText_119 (by decide) ?_
            refine lv_istore (lv' := [(7, .int 1), (8, .int l8_72), (0, .ref h0), (5, .int l5_72), (6, .int l6_72)]) hx hb dX13_sameText_123 hl (by decide) rfl (fun ls hl => ?_)
            refine lv_iinc (v := (l8_72 + 1)) (lv' := [(8, .int (l8_72 + 1)), (7, .int 1), (0, .ref h0), (5, .int l5_72), (6, .int l6_72)]) hx hb dX13_sameText_125 hl (k := 1) rfl rfl (by decide) rfl (fun ls hl => ?_)
            refine lv_goto (tgt := 72) hx hb dX13_sameText_128 (by decide) ?_
            exact ih_72 H locs ls z72 l5_72 l6_72 1 (l8_72 + 1) (hfh_72_100) (hfh_72_102) hlh_72 hrh_72 (lv_sub hl [0, 1, 2, 3, 4] rfl) hS (hD.sub (ws' := [(h0, .inr (13, z72)), (qf102, .inl (cf102, 2048, .inl f102)), (qf100, .inl (cf100, 48000, .inl f100))]) [0, 1, 2] (by decide) rfl) (hP.sub (ws' := [(h0, .inr (13, z72)), (qf102, .inl (cf102, 2048, .inl f102)), (qf100, .inl (cf100, 48000, .inl f100))]) [0, 1, 2] rfl) hsp
  intro hj_67
  refine lv_sipush (v := 6000) hx hb dX13_sameText_0 (by decide) ?_
  refine lv_iload_n hx hb dX13_sameText_3 rfl (lv_at hl 1 rfl) ?_
  refine lv_imul hx hb dX13_sameText_4 ?_
  refine lv_aload_n hx hb dX13_sameText_5 rfl (lv_at hl 0 rfl) ?_
  refine va_get (D := (dC, dI)) (ci := 13) (v := .ref qf102) (C := RX13) (T := TX13) (N := 155) hx hb hts uV_h9_X13 hown hK hP 0 rfl rfl 102 (by decide) (hts (.fieldLink RX13 215 "ClassMillModel" "constantAt" "[I") mw_h9_267) (fun _ h9 => h9) hf102 dX13_sameText_6 ?_
  refine lv_sipush (v := 256) hx hb dX13_sameText_9 (by decide) ?_
  refine lv_iload_n hx hb dX13_sameText_12 rfl (lv_at hl 1 rfl) ?_
  refine lv_imul hx hb dX13_sameText_13 ?_
  refine lv_iload_n hx hb dX13_sameText_14 rfl (lv_at hl 2 rfl) ?_
  refine lv_iadd hx hb dX13_sameText_15 ?_
  obtain ⟨hi_1, hsp⟩ := ox_in hsp
  refine va_iald hx hb hK hP 1 0 rfl rfl (i := ((256 * a1) + a2)) hi_1 dX13_sameText_16 ?_
  refine lv_iadd hx hb dX13_sameText_17 ?_
  refine lv_istore (lv' := [(5, .int ((6000 * a1) + (f102 (((256 * a1) + a2) : Int32).toNatClampNeg))), (0, .ref h0), (1, .int a1), (2, .int a2), (3, .int a3), (4, .int a4)]) hx hb dX13_sameText_18 hl (by decide) rfl (fun ls hl => ?_)
  refine lv_sipush (v := 6000) hx hb dX13_sameText_20 (by decide) ?_
  refine lv_iload_n hx hb dX13_sameText_23 rfl (lv_at hl 4 rfl) ?_
  refine lv_imul hx hb dX13_sameText_24 ?_
  refine lv_aload_n hx hb dX13_sameText_25 rfl (lv_at hl 1 rfl) ?_
  refine va_get (D := (dC, dI)) (ci := 13) (v := .ref qf102) (C := RX13) (T := TX13) (N := 155) hx hb hts uV_h9_X13 hown hK hP 0 rfl rfl 102 (by decide) (hts (.fieldLink RX13 215 "ClassMillModel" "constantAt" "[I") mw_h9_267) (fun _ h9 => h9) hf102 dX13_sameText_26 ?_
  refine lv_sipush (v := 256) hx hb dX13_sameText_29 (by decide) ?_
  refine lv_iload_n hx hb dX13_sameText_32 rfl (lv_at hl 4 rfl) ?_
  refine lv_imul hx hb dX13_sameText_33 ?_
  refine lv_iload hx hb dX13_sameText_34 (lv_at hl 5 rfl) ?_
  refine lv_iadd hx hb dX13_sameText_36 ?_
  obtain ⟨hi_2, hsp⟩ := ox_in hsp
  refine va_iald hx hb hK hP 1 0 rfl rfl (i := ((256 * a3) + a4)) hi_2 dX13_sameText_37 ?_
  refine lv_iadd hx hb dX13_sameText_38 ?_
  refine lv_istore (lv' := [(6, .int ((6000 * a3) + (f102 (((256 * a3) + a4) : Int32).toNatClampNeg))), (5, .int ((6000 * a1) + (f102 (((256 * a1) + a2) : Int32).toNatClampNeg))), (0, .ref h0), (1, .int a1), (2, .int a2), (3, .int a3), (4, .int a4)]) hx hb dX13_sameText_39 hl (by decide) rfl (fun ls hl => ?_)
  refine lv_aload_n hx hb dX13_sameText_41 rfl (lv_at hl 2 rfl) ?_
  refine va_get (D := (dC, dI)) (ci := 13) (v := .ref qf100) (C := RX13) (T := TX13) (N := 155) hx hb hts uV_h9_X13 hown hK hP 0 rfl rfl 100 (by decide) (hts (.fieldLink RX13 209 "ClassMillModel" "bytes" "[I") mw_h9_266) (fun _ h9 => h9) hf100 dX13_sameText_42 ?_
  refine lv_iload hx hb dX13_sameText_45 (lv_at hl 1 rfl) ?_
  refine lv_iconst (v := 1) hx hb dX13_sameText_47 (by decide) ?_
  refine lv_iadd hx hb dX13_sameText_48 ?_
  obtain ⟨hi_3, hsp⟩ := ox_in hsp
  refine va_iald hx hb hK hP 2 1 rfl rfl (i := (((6000 * a1) + (f102 (((256 * a1) + a2) : Int32).toNatClampNeg)) + 1)) hi_3 dX13_sameText_49 ?_
  refine lv_aload_n hx hb dX13_sameText_50 rfl (lv_at hl 2 rfl) ?_
  refine va_get (D := (dC, dI)) (ci := 13) (v := .ref qf100) (C := RX13) (T := TX13) (N := 155) hx hb hts uV_h9_X13 hown hK hP 0 rfl rfl 100 (by decide) (hts (.fieldLink RX13 209 "ClassMillModel" "bytes" "[I") mw_h9_266) (fun _ h9 => h9) hf100 dX13_sameText_51 ?_
  refine lv_iload hx hb dX13_sameText_54 (lv_at hl 0 rfl) ?_
  refine lv_iconst (v := 1) hx hb dX13_sameText_56 (by decide) ?_
  refine lv_iadd hx hb dX13_sameText_57 ?_
  obtain ⟨hi_4, hsp⟩ := ox_in hsp
  refine va_iald hx hb hK hP 2 1 rfl rfl (i := (((6000 * a3) + (f102 (((256 * a3) + a4) : Int32).toNatClampNeg)) + 1)) hi_4 dX13_sameText_58 ?_
  refine lv_icmp_ne (tgt := 66) hx hb dX13_sameText_59 (by decide) (fun c_5 => ?_) (fun c_5 => ?_)
  · rw [if_neg c_5] at hsp
    refine lv_iconst (v := 0) hx hb dX13_sameText_66 (by decide) ?_
    exact hj_67 (H, locs, ls, zs, ((6000 * a1) + (f102 (((256 * a1) + a2) : Int32).toNatClampNeg)), ((6000 * a3) + (f102 (((256 * a3) + a4) : Int32).toNatClampNeg)), 0) ⟨lv_sub hl [2, 1, 0] rfl, hS, hD.sub (ws' := [(h0, .inr (13, zs)), (qf102, .inl (cf102, 2048, .inl f102)), (qf100, .inl (cf100, 48000, .inl f100))]) [0, 1, 2] (by decide) rfl, hP.sub (ws' := [(h0, .inr (13, zs)), (qf102, .inl (cf102, 2048, .inl f102)), (qf100, .inl (cf100, 48000, .inl f100))]) [0, 1, 2] rfl, hf100, hf102, hlen, hrs0, hsp⟩
  · rw [if_pos c_5] at hsp
    refine lv_iconst (v := 1) hx hb dX13_sameText_62 (by decide) ?_
    refine lv_goto (tgt := 67) hx hb dX13_sameText_63 (by decide) ?_
    exact hj_67 (H, locs, ls, zs, ((6000 * a1) + (f102 (((256 * a1) + a2) : Int32).toNatClampNeg)), ((6000 * a3) + (f102 (((256 * a3) + a4) : Int32).toNatClampNeg)), 1) ⟨lv_sub hl [2, 1, 0] rfl, hS, hD.sub (ws' := [(h0, .inr (13, zs)), (qf102, .inl (cf102, 2048, .inl f102)), (qf100, .inl (cf100, 48000, .inl f100))]) [0, 1, 2] (by decide) rfl, hP.sub (ws' := [(h0, .inr (13, zs)), (qf102, .inl (cf102, 2048, .inl f102)), (qf100, .inl (cf100, 48000, .inl f100))]) [0, 1, 2] rfl, hf100, hf102, hlen, hrs0, hsp⟩
def lp_vm_isNamed_97 (nf n : Nat) (a1 : Int32) (a3 : Int32) (a4 : Int32) (f104 : Nat → Int32) (f102 : Nat → Int32) (f100 : Nat → Int32) (na2 : Nat) (fa2 : Nat → Int32) (nS477 : Nat) (fS477 : Nat → Int32)  (l3_97 : Int32) (l4_97 : Int32) (l6_97 : Int32) (l7_97 : Int32) (l8_97 : Int32) : Option (Int32) := match n with
  | 0 => none
  | n + 1 => (if l4_97 ≤ l8_97 then (if l7_97 = 0 then (some 0) else if l7_97 = 1 then (some 1) else none) else (if l7_97 = 0 then (if l7_97 = 0 then (some 0) else if l7_97 = 1 then (some 1) else none) else (if ((l6_97 + 1) + l8_97) < 0 then none else if nS477 ≤ (((l6_97 + 1) + l8_97) : Int32).toNatClampNeg then none else if 2147483648 ≤ nS477 then none else (if (l3_97 + l8_97) < 0 then none else if na2 ≤ ((l3_97 + l8_97) : Int32).toNatClampNeg then none else (if (((fS477 (((l6_97 + 1) + l8_97) : Int32).toNatClampNeg) &&& 255).toUInt32 % 65536).toInt32 = (fa2 ((l3_97 + l8_97) : Int32).toNatClampNeg) then (lp_vm_isNamed_97 nf n a1 a3 a4 f104 f102 f100 na2 fa2 nS477 fS477 l3_97 l4_97 l6_97 1 (l8_97 + 1)) else (lp_vm_isNamed_97 nf n a1 a3 a4 f104 f102 f100 na2 fa2 nS477 fS477 l3_97 l4_97 l6_97 0 (l8_97 + 1)))))))
def jn_vm_isNamed_92 (nf : Nat) (a1 : Int32) (a3 : Int32) (a4 : Int32) (f104 : Nat → Int32) (f102 : Nat → Int32) (f100 : Nat → Int32) (na2 : Nat) (fa2 : Nat → Int32) (nS477 : Nat) (fS477 : Nat → Int32)  (l3_92 : Int32) (l4_92 : Int32) (l6_92 : Int32) (s0_92 : Int32) : Option (Int32) := (lp_vm_isNamed_97 nf nf a1 a3 a4 f104 f102 f100 na2 fa2 nS477 fS477  l3_92 l4_92 l6_92 s0_92 0)
def jn_vm_isNamed_91 (nf : Nat) (a1 : Int32) (a3 : Int32) (a4 : Int32) (f104 : Nat → Int32) (f102 : Nat → Int32) (f100 : Nat → Int32) (na2 : Nat) (fa2 : Nat → Int32) (nS477 : Nat) (fS477 : Nat → Int32)  (l3_91 : Int32) (l4_91 : Int32) (l6_91 : Int32) : Option (Int32) := (jn_vm_isNamed_92 nf a1 a3 a4 f104 f102 f100 na2 fa2 nS477 fS477  l3_91 l4_91 l6_91 0)
def lp_vm_isNamed_12 (nf n : Nat) (a1 : Int32) (a3 : Int32) (a4 : Int32) (f104 : Nat → Int32) (f102 : Nat → Int32) (f100 : Nat → Int32) (na2 : Nat) (fa2 : Nat → Int32) (nS477 : Nat) (fS477 : Nat → Int32)  (l1_12 : Int32) (l3_12 : Int32) (l4_12 : Int32) (l5_12 : Int32) (l6_12 : Int32) : Option (Int32) := match n with
  | 0 => none
  | n + 1 => (if (nI nS477) ≤ (l6_12 + 1) then (some 0) else (if l6_12 < 0 then none else if nS477 ≤ (l6_12 : Int32).toNatClampNeg then none else if 2147483648 ≤ nS477 then none else (if (((fS477 (l6_12 : Int32).toNatClampNeg) &&& 255).toUInt32 % 65536).toInt32 = 32 then (if (l5_12 + 1) = l1_12 then (if (nI nS477) ≤ ((l6_12 + l4_12) + 1) then (jn_vm_isNamed_91 nf a1 a3 a4 f104 f102 f100 na2 fa2 nS477 fS477  l3_12 l4_12 l6_12) else (if ((l6_12 + l4_12) + 1) < 0 then none else if nS477 ≤ (((l6_12 + l4_12) + 1) : Int32).toNatClampNeg then none else if 2147483648 ≤ nS477 then none else (if (((fS477 (((l6_12 + l4_12) + 1) : Int32).toNatClampNeg) &&& 255).toUInt32 % 65536).toInt32 = 32 then (jn_vm_isNamed_92 nf a1 a3 a4 f104 f102 f100 na2 fa2 nS477 fS477  l3_12 l4_12 l6_12 1) else (jn_vm_isNamed_91 nf a1 a3 a4 f104 f102 f100 na2 fa2 nS477 fS477  l3_12 l4_12 l6_12)))) else (lp_vm_isNamed_12 nf n a1 a3 a4 f104 f102 f100 na2 fa2 nS477 fS477 l1_12 l3_12 l4_12 (l5_12 + 1) (l6_12 + 1))) else (lp_vm_isNamed_12 nf n a1 a3 a4 f104 f102 f100 na2 fa2 nS477 fS477 l1_12 l3_12 l4_12 l5_12 (l6_12 + 1)))))
def lp_vm_isNamed_184 (nf n : Nat) (a1 : Int32) (a3 : Int32) (a4 : Int32) (f104 : Nat → Int32) (f102 : Nat → Int32) (f100 : Nat → Int32) (na2 : Nat) (fa2 : Nat → Int32) (nS477 : Nat) (fS477 : Nat → Int32)  (l3_184 : Int32) (l4_184 : Int32) (l5_184 : Int32) (l6_184 : Int32) (l7_184 : Int32) : Option (Int32) := match n with
  | 0 => none
  | n + 1 => (if l4_184 ≤ l7_184 then (if l6_184 = 0 then (some 0) else if l6_184 = 1 then (some 1) else none) else (if l6_184 = 0 then (if l6_184 = 0 then (some 0) else if l6_184 = 1 then (some 1) else none) else (if ((l5_184 + 1) + l7_184) < 0 then none else if 48000 ≤ (((l5_184 + 1) + l7_184) : Int32).toNatClampNeg then none else (if (l3_184 + l7_184) < 0 then none else if na2 ≤ ((l3_184 + l7_184) : Int32).toNatClampNeg then none else (if (f100 (((l5_184 + 1) + l7_184) : Int32).toNatClampNeg) = (fa2 ((l3_184 + l7_184) : Int32).toNatClampNeg) then (lp_vm_isNamed_184 nf n a1 a3 a4 f104 f102 f100 na2 fa2 nS477 fS477 l3_184 l4_184 l5_184 1 (l7_184 + 1)) else (lp_vm_isNamed_184 nf n a1 a3 a4 f104 f102 f100 na2 fa2 nS477 fS477 l3_184 l4_184 l5_184 0 (l7_184 + 1)))))))
def jn_vm_isNamed_179 (nf : Nat) (a1 : Int32) (a3 : Int32) (a4 : Int32) (f104 : Nat → Int32) (f102 : Nat → Int32) (f100 : Nat → Int32) (na2 : Nat) (fa2 : Nat → Int32) (nS477 : Nat) (fS477 : Nat → Int32)  (l3_179 : Int32) (l4_179 : Int32) (l5_179 : Int32) (s0_179 : Int32) : Option (Int32) := (lp_vm_isNamed_184 nf nf a1 a3 a4 f104 f102 f100 na2 fa2 nS477 fS477  l3_179 l4_179 l5_179 s0_179 0)
def sp_vm_isNamed (nf : Nat) (a1 : Int32) (a3 : Int32) (a4 : Int32) (f104 : Nat → Int32) (f102 : Nat → Int32) (f100 : Nat → Int32) (na2 : Nat) (fa2 : Nat → Int32) (nS477 : Nat) (fS477 : Nat → Int32) : Option (Int32) := (if 8 ≤ a1 then ((sp_tm_nameAt nf a1 f104 f102 f100).bind (fun p1 => (if p1 < 0 then none else if 48000 ≤ (p1 : Int32).toNatClampNeg then none else (if (f100 (p1 : Int32).toNatClampNeg) = a4 then (jn_vm_isNamed_179 nf a1 a3 a4 f104 f102 f100 na2 fa2 nS477 fS477  a3 a4 p1 1) else (jn_vm_isNamed_179 nf a1 a3 a4 f104 f102 f100 na2 fa2 nS477 fS477  a3 a4 p1 0))))) else (lp_vm_isNamed_12 nf nf a1 a3 a4 f104 f102 f100 na2 fa2 nS477 fS477  a1 a3 a4 (-1) 0))
set_option maxHeartbeats 4000000 in
set_option maxRecDepth 100000 in
/-- ClassMillModel.isNamed -/
theorem vm_isNamed (l : Launch) (dC : Nat → ClassId) (dI : Nat → Nat → Nat) (sz : Nat) (h0 : Nat) (zs : (List Value)) (a1 : Int32) (qa2 : Nat) (a3 : Int32) (a4 : Int32) (qf100 : Nat) (qf102 : Nat) (qf104 : Nat) (cf104 : ClassId) (f104 : (Nat → Int32)) (cf102 : ClassId) (f102 : (Nat → Int32)) (cf100 : ClassId) (f100 : (Nat → Int32)) (ca2 : ClassId) (na2 : Nat) (fa2 : (Nat → Int32)) (nS477 : Nat) (fS477 : (Nat → Int32)) (hS477 : Nat) (qS477 : Nat) (tS477 : String) (nf : Nat) (r0 : Int32) (hlen : zs.length = 155) (hf100 : zs[100]? = some (.ref qf100)) (hf102 : zs[102]? = some (.ref qf102)) (hf104 : zs[104]? = some (.ref qf104)) (hsp : sp_vm_isNamed nf a1 a3 a4 f104 f102 f100 na2 fa2 nS477 fS477 = some r0) : Met l yX13_isNamed (.code yX13_isNamed cX13_isNamed 9 (some .boolean) :: VS_h9) ({ frames := 4, cells := 0, slots := 0, locals := 85 }) (va_Pc [.ref h0, .int a1, .ref qa2, .int a3, .int a4] (fun U => U.heap.size = sz ∧ va_P (dC, dI) vwCl [(h0, .inr (13, zs)), (qf104, .inl (cf104, 8, .inl f104)), (qf102, .inl (cf102, 2048, .inl f102)), (qf100, .inl (cf100, 48000, .inl f100)), (qa2, .inl (ca2, na2, .inl fa2))] U.heap ∧ va_K (dC, dI) vwCl [(cf104, .int), (cf102, .int), (cf100, .int), (ca2, .int)] U ∧ va_D (fun _ => True) [(h0, .inr (13, zs)), (qf104, .inl (cf104, 8, .inl f104)), (qf102, .inl (cf102, 2048, .inl f102)), (qf100, .inl (cf100, 48000, .inl f100)), (qa2, .inl (ca2, na2, .inl fa2))] ∧ pz_W nS477 fS477 hS477 qS477 (va_A [(h0, .inr (13, zs)), (qf104, .inl (cf104, 8, .inl f104)), (qf102, .inl (cf102, 2048, .inl f102)), (qf100, .inl (cf100, 48000, .inl f100)), (qa2, .inl (ca2, na2, .inl fa2))] sz) U U.heap ∧ vk_R RX13 477 tS477 hS477 U)) (va_Qi (fun (r : Int32) (u : (List Value)) => match u with | (zo1) => (r0 = r ∧ (r0 = 0 ∨ r0 = 1)) ∧ zo1.length = 155 ∧ (∀ j : Nat, zo1[j]? = zs[j]?)) (fun (u : (List Value)) (t : State) => match u with | (zo1) => va_P (dC, dI) vwCl [(h0, .inr (13, zo1)), (qf104, .inl (cf104, 8, .inl f104)), (qf102, .inl (cf102, 2048, .inl f102)), (qf100, .inl (cf100, 48000, .inl f100)), (qa2, .inl (ca2, na2, .inl fa2))] t.heap ∧ va_K (dC, dI) vwCl [(cf104, .int), (cf102, .int), (cf100, .int), (ca2, .int)] t ∧ va_D (va_A [(h0, .inr (13, zs)), (qf104, .inl (cf104, 8, .inl f104)), (qf102, .inl (cf102, 2048, .inl f102)), (qf100, .inl (cf100, 48000, .inl f100)), (qa2, .inl (ca2, na2, .inl fa2))] sz) [(h0, .inr (13, zo1)), (qf104, .inl (cf104, 8, .inl f104)), (qf102, .inl (cf102, 2048, .inl f102)), (qf100, .inl (cf100, 48000, .inl f100)), (qa2, .inl (ca2, na2, .inl fa2))]) (va_A [(h0, .inr (13, zs)), (qf104, .inl (cf104, 8, .inl f104)), (qf102, .inl (cf102, 2048, .inl f102)), (qf100, .inl (cf100, 48000, .inl f100)), (qa2, .inl (ca2, na2, .inl fa2))] sz)) 0 0 (va_A [(h0, .inr (13, zs)), (qf104, .inl (cf104, 8, .inl f104)), (qf102, .inl (cf102, 2048, .inl f102)), (qf100, .inl (cf100, 48000, .inl f100)), (qa2, .inl (ca2, na2, .inl fa2))] sz) := by
  refine Met.ofW (cc := cX13_isNamed) (maxL := 9) (ret := (some .boolean)) (by decide) rfl ?_
  intro p e s m args below meth c s₁ B hml hv
  obtain ⟨rfl, hsz, hP, hK, hD0, hZWS477, hZRS477⟩ := hv
  have hx := B.exec
  have hb := B.bytes
  have hr := B.returns
  have hts := atoms_spec (ws := (.code yX13_isNamed cX13_isNamed 9 (some .boolean) :: VS_h9)) B.pre
  replace hts := fun w (h : w ∈ VS_h9) => hts w (List.mem_cons_of_mem _ h)
  have hown : s.vm.findClass RX13 = some m.cls := findClass_of_methodNamed B.named
  have hlocks := B.notSynchronized
  subst hsz
  have hD := hD0.self (sz := s.heap.size)
  generalize hAe : va_A [(h0, .inr (13, zs)), (qf104, .inl (cf104, 8, .inl f104)), (qf102, .inl (cf102, 2048, .inl f102)), (qf100, .inl (cf100, 48000, .inl f100)), (qa2, .inl (ca2, na2, .inl fa2))] s.heap.size = A at hD hZWS477 ⊢
  have hA : ∀ q : Nat, s.heap.size ≤ q → A q := fun q h => by rw [← hAe]; exact Or.inr h
  have hP : va_P (dC, dI) vwCl [(h0, .inr (13, zs)), (qf104, .inl (cf104, 8, .inl f104)), (qf102, .inl (cf102, 2048, .inl f102)), (qf100, .inl (cf100, 48000, .inl f100)), (qa2, .inl (ca2, na2, .inl fa2))] s.heap := hP
  have hl := lv_entry ([.ref h0, .int a1, .ref qa2, .int a3, .int a4]) (n := 9) (Nat.le_of_ble_eq_true rfl)
  rw [lg_entry_eq]
  generalize (lg_sl ([.ref h0, .int a1, .ref qa2, .int a3, .int a4]) ++ List.replicate (9 - (lg_sl ([.ref h0, .int a1, .ref qa2, .int a3, .int a4])).length) Slot.unset).toArray = ls at hl ⊢
  have hl : lv_has ls 9 [(0, .ref h0), (1, .int a1), (2, .ref qa2), (3, .int a3), (4, .int a4)] := hl
  obtain ⟨H, hH⟩ : ∃ H : Heap, s.heap = H := ⟨_, rfl⟩
  rw [hH] at hP ⊢
  have hS : va_S A s.heap H [] := by rw [← hH]; exact va_S.rf
  obtain ⟨locs, hlo⟩ : ∃ locs : List Loc, locs = [] := ⟨_, rfl⟩
  rw [← hlo] at hS ⊢
  have hrs0 : ∀ j : Nat, zs[j]? = zs[j]? := fun _  => rfl
  unfold sp_vm_isNamed at hsp
  refine jn_use (α := Heap × List Loc × Array Slot × List Value × Int32 × Int32 × Int32 × Int32) (fun x9 => x9.1) (fun x9 => x9.2.1) (fun x9 => F0 m 179 x9.2.2.1 [.int (x9.2.2.2.2.2.2.2)]) (fun x9 => match x9 with | (H, locs, ls, z179, l3_179, l4_179, l5_179, s0_179) => lv_has ls 9 [(0, .ref h0), (2, .ref qa2), (3, .int l3_179), (4, .int l4_179), (5, .int l5_179)] ∧ va_S A s.heap H locs ∧ va_D A [(h0, .inr (13, z179)), (qf104, .inl (cf104, 8, .inl f104)), (qf102, .inl (cf102, 2048, .inl f102)), (qf100, .inl (cf100, 48000, .inl f100)), (qa2, .inl (ca2, na2, .inl fa2))] ∧ va_P (dC, dI) vwCl [(h0, .inr (13, z179)), (qf104, .inl (cf104, 8, .inl f104)), (qf102, .inl (cf102, 2048, .inl f102)), (qf100, .inl (cf100, 48000, .inl f100)), (qa2, .inl (ca2, na2, .inl fa2))] H ∧ z179[100]? = some (.ref qf100) ∧ z179[102]? = some (.ref qf102) ∧ z179[104]? = some (.ref qf104) ∧ z179.length = 155 ∧ (∀ j : Nat, z179[j]? = zs[j]?) ∧ jn_vm_isNamed_179 nf a1 a3 a4 f104 f102 f100 na2 fa2 nS477 fS477 l3_179 l4_179 l5_179 s0_179 = some r0) ?_ ?_
  · intro x9 hJ9
    obtain ⟨H, locs, ls, z179, l3_179, l4_179, l5_179, s0_179⟩ := x9
    obtain ⟨hl, hS, hD, hP, hfh_179_100, hfh_179_102, hfh_179_104, hlh_179, hrh_179, hsp⟩ := hJ9
    replace hl : lv_has ls 9 [(0, .ref h0), (2, .ref qa2), (3, .int l3_179), (4, .int l4_179), (5, .int l5_179)] := hl
    replace hS : va_S A s.heap H locs := hS
    replace hD : va_D A [(h0, .inr (13, z179)), (qf104, .inl (cf104, 8, .inl f104)), (qf102, .inl (cf102, 2048, .inl f102)), (qf100, .inl (cf100, 48000, .inl f100)), (qa2, .inl (ca2, na2, .inl fa2))] := hD
    replace hP : va_P (dC, dI) vwCl [(h0, .inr (13, z179)), (qf104, .inl (cf104, 8, .inl f104)), (qf102, .inl (cf102, 2048, .inl f102)), (qf100, .inl (cf100, 48000, .inl f100)), (qa2, .inl (ca2, na2, .inl fa2))] H := hP
    replace hsp : jn_vm_isNamed_179 nf a1 a3 a4 f104 f102 f100 na2 fa2 nS477 fS477 l3_179 l4_179 l5_179 s0_179 = some r0 := hsp
    show W _ _ _ _ _ _ _ _ _ _ H locs _ _ _ (F0 m 179 ls [.int s0_179])
    unfold jn_vm_isNamed_179 at hsp
    try dsimp only at hsp
    refine lv_istore (lv' := [(6, .int s0_179), (0, .ref h0), (2, .ref qa2), (3, .int l3_179), (4, .int l4_179), (5, .int l5_179)]) hx hb dX13_isNamed_179 hl (by decide) rfl (fun ls hl => ?_)
    refine lv_iconst (v := 0) hx hb dX13_isNamed_181 (by decide) ?_
    refine lv_istore (lv' := [(7, .int 0), (6, .int s0_179), (0, .ref h0), (2, .ref qa2), (3, .int l3_179), (4, .int l4_179), (5, .int l5_179)]) hx hb dX13_isNamed_182 hl (by decide) rfl (fun ls hl => ?_)
    replace hl : lv_has ls 9 [(7, .int 0), (6, .int s0_179), (0, .ref h0), (2, .ref qa2), (3, .int l3_179), (4, .int l4_179), (5, .int l5_179)] := lv_sub hl [0, 1, 2, 3, 4, 5, 6] rfl
    replace hP := hP.sub (ws' := [(h0, .inr (13, z179)), (qf104, .inl (cf104, 8, .inl f104)), (qf102, .inl (cf102, 2048, .inl f102)), (qf100, .inl (cf100, 48000, .inl f100)), (qa2, .inl (ca2, na2, .inl fa2))]) [0, 1, 2, 3, 4] rfl
    replace hD := hD.sub (ws' := [(h0, .inr (13, z179)), (qf104, .inl (cf104, 8, .inl f104)), (qf102, .inl (cf102, 2048, .inl f102)), (qf100, .inl (cf100, 48000, .inl f100)), (qa2, .inl (ca2, na2, .inl fa2))]) [0, 1, 2, 3, 4] (by decide) rfl
    replace hK := hK.sub (tys' := [(cf104, .int), (cf102, .int), (cf100, .int), (ca2, .int)]) [0, 1, 2, 3] rfl
    obtain ⟨n_184, hn_184⟩ : ∃ z : Nat, z = nf := ⟨_, rfl⟩
    obtain ⟨l3_184, el3_184⟩ : ∃ z : Int32, z = l3_179 := ⟨_, rfl⟩
    obtain ⟨l4_184, el4_184⟩ : ∃ z : Int32, z = l4_179 := ⟨_, rfl⟩
    obtain ⟨l5_184, el5_184⟩ : ∃ z : Int32, z = l5_179 := ⟨_, rfl⟩
    obtain ⟨l6_184, el6_184⟩ : ∃ z : Int32, z = s0_179 := ⟨_, rfl⟩
    obtain ⟨l7_184, el7_184⟩ : ∃ z : Int32, z = 0 := ⟨_, rfl⟩
    replace hsp : lp_vm_isNamed_184 nf n_184 a1 a3 a4 f104 f102 f100 na2 fa2 nS477 fS477 l3_184 l4_184 l5_184 l6_184 l7_184 = some r0 := by rw [hn_184, el3_184, el4_184, el5_184, el6_184, el7_184]; exact hsp
    replace hl : lv_has ls 9 [(7, .int l7_184), (6, .int l6_184), (0, .ref h0), (2, .ref qa2), (3, .int l3_184), (4, .int l4_184), (5, .int l5_184)] := by rw [el3_184, el4_184, el5_184, el6_184, el7_184]; exact hl
    obtain ⟨z184, ez184⟩ : ∃ z : List Value, z = z179 := ⟨_, rfl⟩
    have hfh_184_100 : z184[100]? = some (.ref qf100) := by rw [ez184]; exact hfh_179_100
    have hfh_184_102 : z184[102]? = some (.ref qf102) := by rw [ez184]; exact hfh_179_102
    have hfh_184_104 : z184[104]? = some (.ref qf104) := by rw [ez184]; exact hfh_179_104
    have hlh_184 : z184.length = 155 := by rw [ez184]; exact hlh_179
    have hrh_184 : ∀ j : Nat, z184[j]? = zs[j]? := by rw [ez184]; exact hrh_179
    replace hP : va_P (dC, dI) vwCl [(h0, .inr (13, z184)), (qf104, .inl (cf104, 8, .inl f104)), (qf102, .inl (cf102, 2048, .inl f102)), (qf100, .inl (cf100, 48000, .inl f100)), (qa2, .inl (ca2, na2, .inl fa2))] H := by rw [ez184]; exact hP
    replace hD : va_D A [(h0, .inr (13, z184)), (qf104, .inl (cf104, 8, .inl f104)), (qf102, .inl (cf102, 2048, .inl f102)), (qf100, .inl (cf100, 48000, .inl f100)), (qa2, .inl (ca2, na2, .inl fa2))] := by rw [ez184]; exact hD
    clear hn_184 ez184 el3_184 el4_184 el5_184 el6_184 el7_184
    try clear hlo
    try clear hH
    revert hsp
    revert hP
    revert hD
    revert hS
    revert hl
    revert hrh_184
    revert hlh_184
    revert hfh_184_104
    revert hfh_184_102
    revert hfh_184_100
    revert l7_184
    revert l6_184
    revert l5_184
    revert l4_184
    revert l3_184
    revert z184
    revert ls
    revert locs
    revert H
    induction n_184 with
    | zero => intro H locs ls z184 l3_184 l4_184 l5_184 l6_184 l7_184 hfh_184_100 hfh_184_102 hfh_184_104 hlh_184 hrh_184 hl hS hD hP hsp; unfold lp_vm_isNamed_184 at hsp; cases hsp
    | succ n_184 ih_184 =>
      intro H locs ls z184 l3_184 l4_184 l5_184 l6_184 l7_184 hfh_184_100 hfh_184_102 hfh_184_104 hlh_184 hrh_184 hl hS hD hP hsp
      unfold lp_vm_isNamed_184 at hsp
      try dsimp only at hsp
      refine lv_iload hx hb dX13_isNamed_184 (lv_at hl 0 rfl) ?_
      refine lv_iload hx hb dX13_isNamed_186 (lv_at hl 5 rfl) ?_
      refine lv_icmp_ge (tgt := 230) hx hb dX13_isNamed_188 (by decide) (fun c_22 => ?_) (fun c_22 => ?_)
      · rw [if_pos c_22] at hsp
        refine lv_iload hx hb dX13_isNamed_230 (lv_at hl 1 rfl) ?_
        rcases ox_01 hsp with ⟨rfl, hsp⟩ | ⟨rfl, hsp⟩
        · skip
          have hr0 := Option.some.inj hsp
          clear hsp
          subst hr0
          have hP9 := hP.sub (ws' := [(h0, .inr (13, z184)), (qf104, .inl (cf104, 8, .inl f104)), (qf102, .inl (cf102, 2048, .inl f102)), (qf100, .inl (cf100, 48000, .inl f100)), (qa2, .inl (ca2, na2, .inl fa2))]) [0, 1, 2, 3, 4] rfl
          have hD9 := hD.sub (ws' := [(h0, .inr (13, z184)), (qf104, .inl (cf104, 8, .inl f104)), (qf102, .inl (cf102, 2048, .inl f102)), (qf100, .inl (cf100, 48000, .inl f100)), (qa2, .inl (ca2, na2, .inl fa2))]) [0, 1, 2, 3, 4] (by decide) rfl
          have hK9 := hK.sub (tys' := [(cf104, .int), (cf102, .int), (cf100, .int), (ca2, .int)]) [0, 1, 2, 3] rfl
          exact W.zret hx hb hr (by decide) (fun t ht hW => ⟨⟨(0), (z184), rfl, ⟨⟨rfl, Or.inl rfl⟩, hlh_184, hrh_184⟩, by rw [ht]; exact hP9, va_K.moved hW.alike hK9, hD9⟩, hS.F ht⟩) hS.2.2 dX13_isNamed_232
        · skip
          have hr0 := Option.some.inj hsp
          clear hsp
          subst hr0
          have hP9 := hP.sub (ws' := [(h0, .inr (13, z184)), (qf104, .inl (cf104, 8, .inl f104)), (qf102, .inl (cf102, 2048, .inl f102)), (qf100, .inl (cf100, 48000, .inl f100)), (qa2, .inl (ca2, na2, .inl fa2))]) [0, 1, 2, 3, 4] rfl
          have hD9 := hD.sub (ws' := [(h0, .inr (13, z184)), (qf104, .inl (cf104, 8, .inl f104)), (qf102, .inl (cf102, 2048, .inl f102)), (qf100, .inl (cf100, 48000, .inl f100)), (qa2, .inl (ca2, na2, .inl fa2))]) [0, 1, 2, 3, 4] (by decide) rfl
          have hK9 := hK.sub (tys' := [(cf104, .int), (cf102, .int), (cf100, .int), (ca2, .int)]) [0, 1, 2, 3] rfl
          exact W.zret hx hb hr (by decide) (fun t ht hW => ⟨⟨(1), (z184), rfl, ⟨⟨rfl, Or.inr rfl⟩, hlh_184, hrh_184⟩, by rw [ht]; exact hP9, va_K.moved hW.alike hK9, hD9⟩, hS.F ht⟩) hS.2.2 dX13_isNamed_232
      · rw [if_neg c_22] at hsp
        refine lv_iload hx hb dX13_isNamed_191 (lv_at hl 1 rfl) ?_
        refine lv_if_eq (tgt := 230) hx hb dX13_isNamed_193 (by decide) (fun c_23 => ?_) (fun c_23 => ?_)
        · rw [if_pos c_23] at hsp
          refine lv_iload hx hb dX13_isNamed_230 (lv_at hl 1 rfl) ?_
          rcases ox_01 hsp with ⟨rfl, hsp⟩ | ⟨rfl, hsp⟩
          · skip
            have hr0 := Option.some.inj hsp
            clear hsp
            subst hr0
            have hP9 := hP.sub (ws' := [(h0, .inr (13, z184)), (qf104, .inl (cf104, 8, .inl f104)), (qf102, .inl (cf102, 2048, .inl f102)), (qf100, .inl (cf100, 48000, .inl f100)), (qa2, .inl (ca2, na2, .inl fa2))]) [0, 1, 2, 3, 4] rfl
            have hD9 := hD.sub (ws' := [(h0, .inr (13, z184)), (qf104, .inl (cf104, 8, .inl f104)), (qf102, .inl (cf102, 2048, .inl f102)), (qf100, .inl (cf100, 48000, .inl f100)), (qa2, .inl (ca2, na2, .inl fa2))]) [0, 1, 2, 3, 4] (by decide) rfl
            have hK9 := hK.sub (tys' := [(cf104, .int), (cf102, .int), (cf100, .int), (ca2, .int)]) [0, 1, 2, 3] rfl
            exact W.zret hx hb hr (by decide) (fun t ht hW => ⟨⟨(0), (z184), rfl, ⟨⟨rfl, Or.inl rfl⟩, hlh_184, hrh_184⟩, by rw [ht]; exact hP9, va_K.moved hW.alike hK9, hD9⟩, hS.F ht⟩) hS.2.2 dX13_isNamed_232
          · skip
            have hr0 := Option.some.inj hsp
            clear hsp
            subst hr0
            have hP9 := hP.sub (ws' := [(h0, .inr (13, z184)), (qf104, .inl (cf104, 8, .inl f104)), (qf102, .inl (cf102, 2048, .inl f102)), (qf100, .inl (cf100, 48000, .inl f100)), (qa2, .inl (ca2, na2, .inl fa2))]) [0, 1, 2, 3, 4] rfl
            have hD9 := hD.sub (ws' := [(h0, .inr (13, z184)), (qf104, .inl (cf104, 8, .inl f104)), (qf102, .inl (cf102, 2048, .inl f102)), (qf100, .inl (cf100, 48000, .inl f100)), (qa2, .inl (ca2, na2, .inl fa2))]) [0, 1, 2, 3, 4] (by decide) rfl
            have hK9 := hK.sub (tys' := [(cf104, .int), (cf102, .int), (cf100, .int), (ca2, .int)]) [0, 1, 2, 3] rfl
            exact W.zret hx hb hr (by decide) (fun t ht hW => ⟨⟨(1), (z184), rfl, ⟨⟨rfl, Or.inr rfl⟩, hlh_184, hrh_184⟩, by rw [ht]; exact hP9, va_K.moved hW.alike hK9, hD9⟩, hS.F ht⟩) hS.2.2 dX13_isNamed_232
        · rw [if_neg c_23] at hsp
          refine lv_aload_n hx hb dX13_isNamed_196 rfl (lv_at hl 2 rfl) ?_
          refine va_get (D := (dC, dI)) (ci := 13) (v := .ref qf100) (C := RX13) (T := TX13) (N := 155) hx hb hts uV_h9_X13 hown hK hP 0 rfl rfl 100 (by decide) (hts (.fieldLink RX13 209 "ClassMillModel" "bytes" "[I") mw_h9_266) (fun _ h9 => h9) hfh_184_100 dX13_isNamed_197 ?_
          refine lv_iload hx hb dX13_isNamed_200 (lv_at hl 6 rfl) ?_
          refine lv_iconst (v := 1) hx hb dX13_isNamed_202 (by decide) ?_
          refine lv_iadd hx hb dX13_isNamed_203 ?_
          refine lv_iload hx hb dX13_isNamed_204 (lv_at hl 0 rfl) ?_
          refine lv_iadd hx hb dX13_isNamed_206 ?_
          obtain ⟨hi_24, hsp⟩ := ox_in hsp
          refine va_iald hx hb hK hP 3 2 rfl rfl (i := ((l5_184 + 1) + l7_184)) hi_24 dX13_isNamed_207 ?_
          refine lv_aload_n hx hb dX13_isNamed_208 rfl (lv_at hl 3 rfl) ?_
          refine lv_iload_n hx hb dX13_isNamed_209 rfl (lv_at hl 4 rfl) ?_
          refine lv_iload hx hb dX13_isNamed_210 (lv_at hl 0 rfl) ?_
          refine lv_iadd hx hb dX13_isNamed_212 ?_
          obtain ⟨hi_25, hsp⟩ := ox_in hsp
          refine va_iald hx hb hK hP 4 3 rfl rfl (i := (l3_184 + l7_184)) hi_25 dX13_isNamed_213 ?_
          refine lv_icmp_ne (tgt := 221) hx hb dX13_isNamed_214 (by decide) (fun c_26 => ?_) (fun c_26 => ?_)
          · rw [if_neg c_26] at hsp
            refine lv_iconst (v := 0) hx hb dX13_isNamed_221 (by decide) ?_
            refine lv_istore (lv' := [(6, .int 0), (7, .int l7_184), (0, .ref h0), (2, .ref qa2), (3, .int l3_184), (4, .int l4_184), (5, .int l5_184)]) hx hb dX13_isNamed_222 hl (by decide) rfl (fun ls hl => ?_)
            refine lv_iinc (v := (l7_184 + 1)) (lv' := [(7, .int (l7_184 + 1)), (6, .int 0), (0, .ref h0), (2, .ref qa2), (3, .int l3_184), (4, .int l4_184), (5, .int l5_184)]) hx hb dX13_isNamed_224 hl (k := 1) rfl rfl (by decide) rfl (fun ls hl => ?_)
            refine lv_goto (tgt := 184) hx hb dX13_isNamed_227 (by decide) ?_
            exact ih_184 H locs ls z184 l3_184 l4_184 l5_184 0 (l7_184 + 1) (hfh_184_100) (hfh_184_102) (hfh_184_104) hlh_184 hrh_184 (lv_sub hl [0, 1, 2, 3, 4, 5, 6] rfl) hS (hD.sub (ws' := [(h0, .inr (13, z184)), (qf104, .inl (cf104, 8, .inl f104)), (qf102, .inl (cf102, 2048, .inl f102)), (qf100, .inl (cf100, 48000, .inl f100)), (qa2, .inl (ca2, na2, .inl fa2))]) [0, 1, 2, 3, 4] (by decide) rfl) (hP.sub (ws' := [(h0, .inr (13, z184)), (qf104, .inl (cf104, 8, .inl f104)), (qf102, .inl (cf102, 2048, .inl f102)), (qf100, .inl (cf100, 48000, .inl f100)), (qa2, .inl (ca2, na2, .inl fa2))]) [0, 1, 2, 3, 4] rfl) hsp
          · rw [if_pos c_26] at hsp
            refine lv_iconst (v := 1) hx hb dX13_isNamed_217 (by decide) ?_
            refine lv_goto (tgt := 222) hx hb dX13_isNamed_218 (by decide) ?_
            refine lv_istore (lv' := [(6, .int 1), (7, .int l7_184), (0, .ref h0), (2, .ref qa2), (3, .int l3_184), (4, .int l4_184), (5, .int l5_184)]) hx hb dX13_isNamed_222 hl (by decide) rfl (fun ls hl => ?_)
            refine lv_iinc (v := (l7_184 + 1)) (lv' := [(7, .int (l7_184 + 1)), (6, .int 1), (0, .ref h0), (2, .ref qa2), (3, .int l3_184), (4, .int l4_184), (5, .int l5_184)]) hx hb dX13_isNamed_224 hl (k := 1) rfl rfl (by decide) rfl (fun ls hl => ?_)
            refine lv_goto (tgt := 184) hx hb dX13_isNamed_227 (by decide) ?_
            exact ih_184 H locs ls z184 l3_184 l4_184 l5_184 1 (l7_184 + 1) (hfh_184_100) (hfh_184_102) (hfh_184_104) hlh_184 hrh_184 (lv_sub hl [0, 1, 2, 3, 4, 5, 6] rfl) hS (hD.sub (ws' := [(h0, .inr (13, z184)), (qf104, .inl (cf104, 8, .inl f104)), (qf102, .inl (cf102, 2048, .inl f102)), (qf100, .inl (cf100, 48000, .inl f100)), (qa2, .inl (ca2, na2, .inl fa2))]) [0, 1, 2, 3, 4] (by decide) rfl) (hP.sub (ws' := [(h0, .inr (13, z184)), (qf104, .inl (cf104, 8, .inl f104)), (qf102, .inl (cf102, 2048, .inl f102)), (qf100, .inl (cf100, 48000, .inl f100)), (qa2, .inl (ca2, na2, .inl fa2))]) [0, 1, 2, 3, 4] rfl) hsp
  intro hj_179
  refine jn_use (α := Heap × List Loc × Array Slot × List Value × Int32 × Int32 × Int32 × Int32) (fun x9 => x9.1) (fun x9 => x9.2.1) (fun x9 => F0 m 92 x9.2.2.1 [.int (x9.2.2.2.2.2.2.2)]) (fun x9 => match x9 with | (H, locs, ls, z92, l3_92, l4_92, l6_92, s0_92) => lv_has ls 9 [(2, .ref qa2), (3, .int l3_92), (4, .int l4_92), (6, .int l6_92)] ∧ va_S A s.heap H locs ∧ va_D A [(h0, .inr (13, z92)), (qf104, .inl (cf104, 8, .inl f104)), (qf102, .inl (cf102, 2048, .inl f102)), (qf100, .inl (cf100, 48000, .inl f100)), (qa2, .inl (ca2, na2, .inl fa2))] ∧ va_P (dC, dI) vwCl [(h0, .inr (13, z92)), (qf104, .inl (cf104, 8, .inl f104)), (qf102, .inl (cf102, 2048, .inl f102)), (qf100, .inl (cf100, 48000, .inl f100)), (qa2, .inl (ca2, na2, .inl fa2))] H ∧ z92[100]? = some (.ref qf100) ∧ z92[102]? = some (.ref qf102) ∧ z92[104]? = some (.ref qf104) ∧ z92.length = 155 ∧ (∀ j : Nat, z92[j]? = zs[j]?) ∧ jn_vm_isNamed_92 nf a1 a3 a4 f104 f102 f100 na2 fa2 nS477 fS477 l3_92 l4_92 l6_92 s0_92 = some r0) ?_ ?_
  · intro x9 hJ9
    obtain ⟨H, locs, ls, z92, l3_92, l4_92, l6_92, s0_92⟩ := x9
    obtain ⟨hl, hS, hD, hP, hfh_92_100, hfh_92_102, hfh_92_104, hlh_92, hrh_92, hsp⟩ := hJ9
    replace hl : lv_has ls 9 [(2, .ref qa2), (3, .int l3_92), (4, .int l4_92), (6, .int l6_92)] := hl
    replace hS : va_S A s.heap H locs := hS
    replace hD : va_D A [(h0, .inr (13, z92)), (qf104, .inl (cf104, 8, .inl f104)), (qf102, .inl (cf102, 2048, .inl f102)), (qf100, .inl (cf100, 48000, .inl f100)), (qa2, .inl (ca2, na2, .inl fa2))] := hD
    replace hP : va_P (dC, dI) vwCl [(h0, .inr (13, z92)), (qf104, .inl (cf104, 8, .inl f104)), (qf102, .inl (cf102, 2048, .inl f102)), (qf100, .inl (cf100, 48000, .inl f100)), (qa2, .inl (ca2, na2, .inl fa2))] H := hP
    replace hsp : jn_vm_isNamed_92 nf a1 a3 a4 f104 f102 f100 na2 fa2 nS477 fS477 l3_92 l4_92 l6_92 s0_92 = some r0 := hsp
    show W _ _ _ _ _ _ _ _ _ _ H locs _ _ _ (F0 m 92 ls [.int s0_92])
    unfold jn_vm_isNamed_92 at hsp
    try dsimp only at hsp
    refine lv_istore (lv' := [(7, .int s0_92), (2, .ref qa2), (3, .int l3_92), (4, .int l4_92), (6, .int l6_92)]) hx hb dX13_isNamed_92 hl (by decide) rfl (fun ls hl => ?_)
    refine lv_iconst (v := 0) hx hb dX13_isNamed_94 (by decide) ?_
    refine lv_istore (lv' := [(8, .int 0), (7, .int s0_92), (2, .ref qa2), (3, .int l3_92), (4, .int l4_92), (6, .int l6_92)]) hx hb dX13_isNamed_95 hl (by decide) rfl (fun ls hl => ?_)
    replace hl : lv_has ls 9 [(8, .int 0), (7, .int s0_92), (2, .ref qa2), (3, .int l3_92), (4, .int l4_92), (6, .int l6_92)] := lv_sub hl [0, 1, 2, 3, 4, 5] rfl
    replace hP := hP.sub (ws' := [(h0, .inr (13, z92)), (qf104, .inl (cf104, 8, .inl f104)), (qf102, .inl (cf102, 2048, .inl f102)), (qf100, .inl (cf100, 48000, .inl f100)), (qa2, .inl (ca2, na2, .inl fa2))]) [0, 1, 2, 3, 4] rfl
    replace hD := hD.sub (ws' := [(h0, .inr (13, z92)), (qf104, .inl (cf104, 8, .inl f104)), (qf102, .inl (cf102, 2048, .inl f102)), (qf100, .inl (cf100, 48000, .inl f100)), (qa2, .inl (ca2, na2, .inl fa2))]) [0, 1, 2, 3, 4] (by decide) rfl
    replace hK := hK.sub (tys' := [(cf104, .int), (cf102, .int), (cf100, .int), (ca2, .int)]) [0, 1, 2, 3] rfl
    obtain ⟨n_97, hn_97⟩ : ∃ z : Nat, z = nf := ⟨_, rfl⟩
    obtain ⟨l3_97, el3_97⟩ : ∃ z : Int32, z = l3_92 := ⟨_, rfl⟩
    obtain ⟨l4_97, el4_97⟩ : ∃ z : Int32, z = l4_92 := ⟨_, rfl⟩
    obtain ⟨l6_97, el6_97⟩ : ∃ z : Int32, z = l6_92 := ⟨_, rfl⟩
    obtain ⟨l7_97, el7_97⟩ : ∃ z : Int32, z = s0_92 := ⟨_, rfl⟩
    obtain ⟨l8_97, el8_97⟩ : ∃ z : Int32, z = 0 := ⟨_, rfl⟩
    replace hsp : lp_vm_isNamed_97 nf n_97 a1 a3 a4 f104 f102 f100 na2 fa2 nS477 fS477 l3_97 l4_97 l6_97 l7_97 l8_97 = some r0 := by rw [hn_97, el3_97, el4_97, el6_97, el7_97, el8_97]; exact hsp
    replace hl : lv_has ls 9 [(8, .int l8_97), (7, .int l7_97), (2, .ref qa2), (3, .int l3_97), (4, .int l4_97), (6, .int l6_97)] := by rw [el3_97, el4_97, el6_97, el7_97, el8_97]; exact hl
    obtain ⟨z97, ez97⟩ : ∃ z : List Value, z = z92 := ⟨_, rfl⟩
    have hfh_97_100 : z97[100]? = some (.ref qf100) := by rw [ez97]; exact hfh_92_100
    have hfh_97_102 : z97[102]? = some (.ref qf102) := by rw [ez97]; exact hfh_92_102
    have hfh_97_104 : z97[104]? = some (.ref qf104) := by rw [ez97]; exact hfh_92_104
    have hlh_97 : z97.length = 155 := by rw [ez97]; exact hlh_92
    have hrh_97 : ∀ j : Nat, z97[j]? = zs[j]? := by rw [ez97]; exact hrh_92
    replace hP : va_P (dC, dI) vwCl [(h0, .inr (13, z97)), (qf104, .inl (cf104, 8, .inl f104)), (qf102, .inl (cf102, 2048, .inl f102)), (qf100, .inl (cf100, 48000, .inl f100)), (qa2, .inl (ca2, na2, .inl fa2))] H := by rw [ez97]; exact hP
    replace hD : va_D A [(h0, .inr (13, z97)), (qf104, .inl (cf104, 8, .inl f104)), (qf102, .inl (cf102, 2048, .inl f102)), (qf100, .inl (cf100, 48000, .inl f100)), (qa2, .inl (ca2, na2, .inl fa2))] := by rw [ez97]; exact hD
    clear hn_97 ez97 el3_97 el4_97 el6_97 el7_97 el8_97
    try clear hlo
    try clear hH
    revert hsp
    revert hP
    revert hD
    revert hS
    revert hl
    revert hrh_97
    revert hlh_97
    revert hfh_97_104
    revert hfh_97_102
    revert hfh_97_100
    revert l8_97
    revert l7_97
    revert l6_97
    revert l4_97
    revert l3_97
    revert z97
    revert ls
    revert locs
    revert H
    induction n_97 with
    | zero => intro H locs ls z97 l3_97 l4_97 l6_97 l7_97 l8_97 hfh_97_100 hfh_97_102 hfh_97_104 hlh_97 hrh_97 hl hS hD hP hsp; unfold lp_vm_isNamed_97 at hsp; cases hsp
    | succ n_97 ih_97 =>
      intro H locs ls z97 l3_97 l4_97 l6_97 l7_97 l8_97 hfh_97_100 hfh_97_102 hfh_97_104 hlh_97 hrh_97 hl hS hD hP hsp
      unfold lp_vm_isNamed_97 at hsp
      try dsimp only at hsp
      refine lv_iload hx hb dX13_isNamed_97 (lv_at hl 0 rfl) ?_
      refine lv_iload hx hb dX13_isNamed_99 (lv_at hl 4 rfl) ?_
      refine lv_icmp_ge (tgt := 144) hx hb dX13_isNamed_101 (by decide) (fun c_16 => ?_) (fun c_16 => ?_)
      · rw [if_pos c_16] at hsp
        refine lv_iload hx hb dX13_isNamed_144 (lv_at hl 1 rfl) ?_
        rcases ox_01 hsp with ⟨rfl, hsp⟩ | ⟨rfl, hsp⟩
        · skip
          have hr0 := Option.some.inj hsp
          clear hsp
          subst hr0
          have hP9 := hP.sub (ws' := [(h0, .inr (13, z97)), (qf104, .inl (cf104, 8, .inl f104)), (qf102, .inl (cf102, 2048, .inl f102)), (qf100, .inl (cf100, 48000, .inl f100)), (qa2, .inl (ca2, na2, .inl fa2))]) [0, 1, 2, 3, 4] rfl
          have hD9 := hD.sub (ws' := [(h0, .inr (13, z97)), (qf104, .inl (cf104, 8, .inl f104)), (qf102, .inl (cf102, 2048, .inl f102)), (qf100, .inl (cf100, 48000, .inl f100)), (qa2, .inl (ca2, na2, .inl fa2))]) [0, 1, 2, 3, 4] (by decide) rfl
          have hK9 := hK.sub (tys' := [(cf104, .int), (cf102, .int), (cf100, .int), (ca2, .int)]) [0, 1, 2, 3] rfl
          exact W.zret hx hb hr (by decide) (fun t ht hW => ⟨⟨(0), (z97), rfl, ⟨⟨rfl, Or.inl rfl⟩, hlh_97, hrh_97⟩, by rw [ht]; exact hP9, va_K.moved hW.alike hK9, hD9⟩, hS.F ht⟩) hS.2.2 dX13_isNamed_146
        · skip
          have hr0 := Option.some.inj hsp
          clear hsp
          subst hr0
          have hP9 := hP.sub (ws' := [(h0, .inr (13, z97)), (qf104, .inl (cf104, 8, .inl f104)), (qf102, .inl (cf102, 2048, .inl f102)), (qf100, .inl (cf100, 48000, .inl f100)), (qa2, .inl (ca2, na2, .inl fa2))]) [0, 1, 2, 3, 4] rfl
          have hD9 := hD.sub (ws' := [(h0, .inr (13, z97)), (qf104, .inl (cf104, 8, .inl f104)), (qf102, .inl (cf102, 2048, .inl f102)), (qf100, .inl (cf100, 48000, .inl f100)), (qa2, .inl (ca2, na2, .inl fa2))]) [0, 1, 2, 3, 4] (by decide) rfl
          have hK9 := hK.sub (tys' := [(cf104, .int), (cf102, .int), (cf100, .int), (ca2, .int)]) [0, 1, 2, 3] rfl
          exact W.zret hx hb hr (by decide) (fun t ht hW => ⟨⟨(1), (z97), rfl, ⟨⟨rfl, Or.inr rfl⟩, hlh_97, hrh_97⟩, by rw [ht]; exact hP9, va_K.moved hW.alike hK9, hD9⟩, hS.F ht⟩) hS.2.2 dX13_isNamed_146
      · rw [if_neg c_16] at hsp
        refine lv_iload hx hb dX13_isNamed_104 (lv_at hl 1 rfl) ?_
        refine lv_if_eq (tgt := 144) hx hb dX13_isNamed_106 (by decide) (fun c_17 => ?_) (fun c_17 => ?_)
        · rw [if_pos c_17] at hsp
          refine lv_iload hx hb dX13_isNamed_144 (lv_at hl 1 rfl) ?_
          rcases ox_01 hsp with ⟨rfl, hsp⟩ | ⟨rfl, hsp⟩
          · skip
            have hr0 := Option.some.inj hsp
            clear hsp
            subst hr0
            have hP9 := hP.sub (ws' := [(h0, .inr (13, z97)), (qf104, .inl (cf104, 8, .inl f104)), (qf102, .inl (cf102, 2048, .inl f102)), (qf100, .inl (cf100, 48000, .inl f100)), (qa2, .inl (ca2, na2, .inl fa2))]) [0, 1, 2, 3, 4] rfl
            have hD9 := hD.sub (ws' := [(h0, .inr (13, z97)), (qf104, .inl (cf104, 8, .inl f104)), (qf102, .inl (cf102, 2048, .inl f102)), (qf100, .inl (cf100, 48000, .inl f100)), (qa2, .inl (ca2, na2, .inl fa2))]) [0, 1, 2, 3, 4] (by decide) rfl
            have hK9 := hK.sub (tys' := [(cf104, .int), (cf102, .int), (cf100, .int), (ca2, .int)]) [0, 1, 2, 3] rfl
            exact W.zret hx hb hr (by decide) (fun t ht hW => ⟨⟨(0), (z97), rfl, ⟨⟨rfl, Or.inl rfl⟩, hlh_97, hrh_97⟩, by rw [ht]; exact hP9, va_K.moved hW.alike hK9, hD9⟩, hS.F ht⟩) hS.2.2 dX13_isNamed_146
          · skip
            have hr0 := Option.some.inj hsp
            clear hsp
            subst hr0
            have hP9 := hP.sub (ws' := [(h0, .inr (13, z97)), (qf104, .inl (cf104, 8, .inl f104)), (qf102, .inl (cf102, 2048, .inl f102)), (qf100, .inl (cf100, 48000, .inl f100)), (qa2, .inl (ca2, na2, .inl fa2))]) [0, 1, 2, 3, 4] rfl
            have hD9 := hD.sub (ws' := [(h0, .inr (13, z97)), (qf104, .inl (cf104, 8, .inl f104)), (qf102, .inl (cf102, 2048, .inl f102)), (qf100, .inl (cf100, 48000, .inl f100)), (qa2, .inl (ca2, na2, .inl fa2))]) [0, 1, 2, 3, 4] (by decide) rfl
            have hK9 := hK.sub (tys' := [(cf104, .int), (cf102, .int), (cf100, .int), (ca2, .int)]) [0, 1, 2, 3] rfl
            exact W.zret hx hb hr (by decide) (fun t ht hW => ⟨⟨(1), (z97), rfl, ⟨⟨rfl, Or.inr rfl⟩, hlh_97, hrh_97⟩, by rw [ht]; exact hP9, va_K.moved hW.alike hK9, hD9⟩, hS.F ht⟩) hS.2.2 dX13_isNamed_146
        · rw [if_neg c_17] at hsp
          refine pw_ldcwS hx hb hown hZRS477 dX13_isNamed_109 ?_
          refine lv_iload hx hb dX13_isNamed_112 (lv_at hl 5 rfl) ?_
          refine lv_iconst (v := 1) hx hb dX13_isNamed_114 (by decide) ?_
          refine lv_iadd hx hb dX13_isNamed_115 ?_
          refine lv_iload hx hb dX13_isNamed_116 (lv_at hl 0 rfl) ?_
          refine lv_iadd hx hb dX13_isNamed_118 ?_
          obtain ⟨⟨hk_18j, hk_181, hk_182, hk_183, hk_184⟩, hsp⟩ := ox_ch hsp
          rw [hk_181]
          have hPc := hP.sub (ws' := []) [] rfl
          have hDc := hD.sub (ws' := []) [] (by decide) rfl
          have hKc := hK.sub (tys' := []) [] rfl
          have hFc := va_free (wc := []) hD hS hA [] rfl
          refine va_calli (va_runV (As := [.int (nI hk_18j)]) (rest := []) ⟨hx, hb, hml, hown, hts⟩ (ct_charAt l dC dI H.size nS477 fS477 hS477 qS477 hk_18j hk_183 hk_184) (cwV 1 hts gv_h9_1 rfl rfl rfl (by decide +kernel) ⟨Nat.le_of_ble_eq_true rfl, Nat.le_of_ble_eq_true rfl⟩) ⟨fun a U g mk q => by obtain ⟨q0, q1, qP, qK, qD, qhZW⟩ := q; exact ⟨q0, q1, qP, va_K.moved (u := U) (U := U.calling g mk a) (Vm.Alike.refl U.vm) qK, qD, pz_W.moved (u := U) (U := U.calling g mk a) (Vm.Alike.refl U.vm) qhZW⟩, pz_recv hZWS477 hS, fun U hU hW => ⟨rfl, by rw [hU], by rw [hU]; exact hPc, va_K.moved hW.alike hKc, hDc.weaken (fun _ _ _ _ => trivial), by rw [hU]; exact ((pz_W.moved hW.alike hZWS477).kept hS.2.1).narrow hFc⟩⟩ rfl rfl hl.1 rfl (lv_room (Nat.le_of_ble_eq_true rfl)) dX13_isNamed_119 ⟨Nat.le_of_ble_eq_true rfl, Nat.le_of_ble_eq_true rfl⟩) hS (fun q _ h => hFc q h) hFc ?_
          clear hS
          intro r_19 u t H1 locs ht hvm hw hB hz1 hk1 hS
          obtain ⟨⟩ := u
          obtain ⟨hP1, hK1, hD1⟩ := hB
          rw [ht] at hP1
          try dsimp only at hw
          have hPD := va_join (wr := [(h0, .inr (13, z97)), (qf104, .inl (cf104, 8, .inl f104)), (qf102, .inl (cf102, 2048, .inl f102)), (qf100, .inl (cf100, 48000, .inl f100)), (qa2, .inl (ca2, na2, .inl fa2))]) (w1 := []) hP hD [] [0, 1, 2, 3, 4] rfl rfl (by decide) (by decide) hk1 hFc hP1 hD1
          clear hP hD
          obtain ⟨hP, hD⟩ := hPD
          clear hPc hDc hKc hFc hP1 hK1 hD1 hz1 hk1 ht hvm
          generalize H1 = H at hP hS ⊢
          replace hP : va_P (dC, dI) vwCl [(h0, .inr (13, z97)), (qf104, .inl (cf104, 8, .inl f104)), (qf102, .inl (cf102, 2048, .inl f102)), (qf100, .inl (cf100, 48000, .inl f100)), (qa2, .inl (ca2, na2, .inl fa2))] H := hP
          replace hD : va_D A [(h0, .inr (13, z97)), (qf104, .inl (cf104, 8, .inl f104)), (qf102, .inl (cf102, 2048, .inl f102)), (qf100, .inl (cf100, 48000, .inl f100)), (qa2, .inl (ca2, na2, .inl fa2))] := hD
          obtain rfl : r_19 = (((fS477 (((l6_97 + 1) + l8_97) : Int32).toNatClampNeg) &&& 255).toUInt32 % 65536).toInt32 := by rw [hk_182]; exact hw
          refine lv_aload_n hx hb dX13_isNamed_122 rfl (lv_at hl 2 rfl) ?_
          refine lv_iload_n hx hb dX13_isNamed_123 rfl (lv_at hl 3 rfl) ?_
          refine lv_iload hx hb dX13_isNamed_124 (lv_at hl 0 rfl) ?_
          refine lv_iadd hx hb dX13_isNamed_126 ?_
          obtain ⟨hi_20, hsp⟩ := ox_in hsp
          refine va_iald hx hb hK hP 4 3 rfl rfl (i := (l3_97 + l8_97)) hi_20 dX13_isNamed_127 ?_
          refine lv_icmp_ne (tgt := 135) hx hb dX13_isNamed_128 (by decide) (fun c_21 => ?_) (fun c_21 => ?_)
          · rw [if_neg c_21] at hsp
            refine lv_iconst (v := 0) hx hb dX13_isNamed_135 (by decide) ?_
            refine lv_istore (lv' := [(7, .int 0), (8, .int l8_97), (2, .ref qa2), (3, .int l3_97), (4, .int l4_97), (6, .int l6_97)]) hx hb dX13_isNamed_136 hl (by decide) rfl (fun ls hl => ?_)
            refine lv_iinc (v := (l8_97 + 1)) (lv' := [(8, .int (l8_97 + 1)), (7, .int 0), (2, .ref qa2), (3, .int l3_97), (4, .int l4_97), (6, .int l6_97)]) hx hb dX13_isNamed_138 hl (k := 1) rfl rfl (by decide) rfl (fun ls hl => ?_)
            refine lv_goto (tgt := 97) hx hb dX13_isNamed_141 (by decide) ?_
            exact ih_97 H locs ls z97 l3_97 l4_97 l6_97 0 (l8_97 + 1) (hfh_97_100) (hfh_97_102) (hfh_97_104) hlh_97 hrh_97 (lv_sub hl [0, 1, 2, 3, 4, 5] rfl) hS (hD.sub (ws' := [(h0, .inr (13, z97)), (qf104, .inl (cf104, 8, .inl f104)), (qf102, .inl (cf102, 2048, .inl f102)), (qf100, .inl (cf100, 48000, .inl f100)), (qa2, .inl (ca2, na2, .inl fa2))]) [0, 1, 2, 3, 4] (by decide) rfl) (hP.sub (ws' := [(h0, .inr (13, z97)), (qf104, .inl (cf104, 8, .inl f104)), (qf102, .inl (cf102, 2048, .inl f102)), (qf100, .inl (cf100, 48000, .inl f100)), (qa2, .inl (ca2, na2, .inl fa2))]) [0, 1, 2, 3, 4] rfl) hsp
          · rw [if_pos c_21] at hsp
            refine lv_iconst (v := 1) hx hb dX13_isNamed_131 (by decide) ?_
            refine lv_goto (tgt := 136) hx hb dX13_isNamed_132 (by decide) ?_
            refine lv_istore (lv' := [(7, .int 1), (8, .int l8_97), (2, .ref qa2), (3, .int l3_97), (4, .int l4_97), (6, .int l6_97)]) hx hb dX13_isNamed_136 hl (by decide) rfl (fun ls hl => ?_)
            refine lv_iinc (v := (l8_97 + 1)) (lv' := [(8, .int (l8_97 + 1)), (7, .int 1), (2, .ref qa2), (3, .int l3_97), (4, .int l4_97), (6, .int l6_97)]) hx hb dX13_isNamed_138 hl (k := 1) rfl rfl (by decide) rfl (fun ls hl => ?_)
            refine lv_goto (tgt := 97) hx hb dX13_isNamed_141 (by decide) ?_
            exact ih_97 H locs ls z97 l3_97 l4_97 l6_97 1 (l8_97 + 1) (hfh_97_100) (hfh_97_102) (hfh_97_104) hlh_97 hrh_97 (lv_sub hl [0, 1, 2, 3, 4, 5] rfl) hS (hD.sub (ws' := [(h0, .inr (13, z97)), (qf104, .inl (cf104, 8, .inl f104)), (qf102, .inl (cf102, 2048, .inl f102)), (qf100, .inl (cf100, 48000, .inl f100)), (qa2, .inl (ca2, na2, .inl fa2))]) [0, 1, 2, 3, 4] (by decide) rfl) (hP.sub (ws' := [(h0, .inr (13, z97)), (qf104, .inl (cf104, 8, .inl f104)), (qf102, .inl (cf102, 2048, .inl f102)), (qf100, .inl (cf100, 48000, .inl f100)), (qa2, .inl (ca2, na2, .inl fa2))]) [0, 1, 2, 3, 4] rfl) hsp
  intro hj_92
  refine jn_use (α := Heap × List Loc × Array Slot × List Value × Int32 × Int32 × Int32) (fun x9 => x9.1) (fun x9 => x9.2.1) (fun x9 => F0 m 91 x9.2.2.1 []) (fun x9 => match x9 with | (H, locs, ls, z91, l3_91, l4_91, l6_91) => lv_has ls 9 [(2, .ref qa2), (3, .int l3_91), (4, .int l4_91), (6, .int l6_91)] ∧ va_S A s.heap H locs ∧ va_D A [(h0, .inr (13, z91)), (qf104, .inl (cf104, 8, .inl f104)), (qf102, .inl (cf102, 2048, .inl f102)), (qf100, .inl (cf100, 48000, .inl f100)), (qa2, .inl (ca2, na2, .inl fa2))] ∧ va_P (dC, dI) vwCl [(h0, .inr (13, z91)), (qf104, .inl (cf104, 8, .inl f104)), (qf102, .inl (cf102, 2048, .inl f102)), (qf100, .inl (cf100, 48000, .inl f100)), (qa2, .inl (ca2, na2, .inl fa2))] H ∧ z91[100]? = some (.ref qf100) ∧ z91[102]? = some (.ref qf102) ∧ z91[104]? = some (.ref qf104) ∧ z91.length = 155 ∧ (∀ j : Nat, z91[j]? = zs[j]?) ∧ jn_vm_isNamed_91 nf a1 a3 a4 f104 f102 f100 na2 fa2 nS477 fS477 l3_91 l4_91 l6_91 = some r0) ?_ ?_
  · intro x9 hJ9
    obtain ⟨H, locs, ls, z91, l3_91, l4_91, l6_91⟩ := x9
    obtain ⟨hl, hS, hD, hP, hfh_91_100, hfh_91_102, hfh_91_104, hlh_91, hrh_91, hsp⟩ := hJ9
    replace hl : lv_has ls 9 [(2, .ref qa2), (3, .int l3_91), (4, .int l4_91), (6, .int l6_91)] := hl
    replace hS : va_S A s.heap H locs := hS
    replace hD : va_D A [(h0, .inr (13, z91)), (qf104, .inl (cf104, 8, .inl f104)), (qf102, .inl (cf102, 2048, .inl f102)), (qf100, .inl (cf100, 48000, .inl f100)), (qa2, .inl (ca2, na2, .inl fa2))] := hD
    replace hP : va_P (dC, dI) vwCl [(h0, .inr (13, z91)), (qf104, .inl (cf104, 8, .inl f104)), (qf102, .inl (cf102, 2048, .inl f102)), (qf100, .inl (cf100, 48000, .inl f100)), (qa2, .inl (ca2, na2, .inl fa2))] H := hP
    replace hsp : jn_vm_isNamed_91 nf a1 a3 a4 f104 f102 f100 na2 fa2 nS477 fS477 l3_91 l4_91 l6_91 = some r0 := hsp
    show W _ _ _ _ _ _ _ _ _ _ H locs _ _ _ (F0 m 91 ls [])
    unfold jn_vm_isNamed_91 at hsp
    try dsimp only at hsp
    refine lv_iconst (v := 0) hx hb dX13_isNamed_91 (by decide) ?_
    exact hj_92 (H, locs, ls, z91, l3_91, l4_91, l6_91, 0) ⟨lv_sub hl [0, 1, 2, 3] rfl, hS, hD.sub (ws' := [(h0, .inr (13, z91)), (qf104, .inl (cf104, 8, .inl f104)), (qf102, .inl (cf102, 2048, .inl f102)), (qf100, .inl (cf100, 48000, .inl f100)), (qa2, .inl (ca2, na2, .inl fa2))]) [0, 1, 2, 3, 4] (by decide) rfl, hP.sub (ws' := [(h0, .inr (13, z91)), (qf104, .inl (cf104, 8, .inl f104)), (qf102, .inl (cf102, 2048, .inl f102)), (qf100, .inl (cf100, 48000, .inl f100)), (qa2, .inl (ca2, na2, .inl fa2))]) [0, 1, 2, 3, 4] rfl, hfh_91_100, hfh_91_102, hfh_91_104, hlh_91, hrh_91, hsp⟩
  intro hj_91
  refine lv_iload_n hx hb dX13_isNamed_0 rfl (lv_at hl 1 rfl) ?_
  refine lv_bipush (v := 8) hx hb dX13_isNamed_1 (by decide) ?_
  refine lv_icmp_ge (tgt := 155) hx hb dX13_isNamed_3 (by decide) (fun c_1 => ?_) (fun c_1 => ?_)
  · rw [if_pos c_1] at hsp
    refine lv_aload_n hx hb dX13_isNamed_155 rfl (lv_at hl 0 rfl) ?_
    refine lv_iload_n hx hb dX13_isNamed_156 rfl (lv_at hl 1 rfl) ?_
    obtain ⟨u1_0, hu_1, hsp⟩ := ox_bind hsp
    try dsimp only at hsp
    have hPc := hP.sub (ws' := [(h0, .inr (13, zs)), (qf104, .inl (cf104, 8, .inl f104)), (qf102, .inl (cf102, 2048, .inl f102)), (qf100, .inl (cf100, 48000, .inl f100))]) [0, 1, 2, 3] rfl
    have hDc := hD.sub (ws' := [(h0, .inr (13, zs)), (qf104, .inl (cf104, 8, .inl f104)), (qf102, .inl (cf102, 2048, .inl f102)), (qf100, .inl (cf100, 48000, .inl f100))]) [0, 1, 2, 3] (by decide) rfl
    have hKc := hK.sub (tys' := [(cf104, .int), (cf102, .int), (cf100, .int)]) [0, 1, 2] rfl
    have hFc := va_free (wc := [(h0, .inr (13, zs)), (qf104, .inl (cf104, 8, .inl f104)), (qf102, .inl (cf102, 2048, .inl f102)), (qf100, .inl (cf100, 48000, .inl f100))]) hD hS hA [0, 1, 2, 3] rfl
    refine va_calli (va_runV (As := [.int a1]) (rest := []) ⟨hx, hb, hml, hown, hts⟩ (tm_nameAt l dC dI H.size h0 zs a1 qf100 qf102 qf104 cf104 f104 cf102 f102 cf100 f100 nf u1_0 hlen hf100 hf102 hf104 hu_1) (cwV 1 hts gv_h9_52 rfl rfl rfl (by decide +kernel) ⟨Nat.le_of_ble_eq_true rfl, Nat.le_of_ble_eq_true rfl⟩) ⟨fun a U g mk q => by obtain ⟨q0, q1, qP, qK, qD⟩ := q; exact ⟨q0, q1, qP, va_K.moved (u := U) (U := U.calling g mk a) (Vm.Alike.refl U.vm) qK, qD⟩, va_recv hKc hPc (ci := 13) (q0 := 0) rfl rfl, fun U hU hW => ⟨rfl, by rw [hU], by rw [hU]; exact hPc, va_K.moved hW.alike hKc, hDc.weaken (fun _ _ _ _ => trivial)⟩⟩ rfl rfl hl.1 rfl (lv_room (Nat.le_of_ble_eq_true rfl)) dX13_isNamed_157 ⟨Nat.le_of_ble_eq_true rfl, Nat.le_of_ble_eq_true rfl⟩) hS (fun q _ h => hFc q h) hFc ?_
    clear hS
    intro r_2 u t H1 locs ht hvm hw hB hz1 hk1 hS
    obtain ⟨z_1, rfl⟩ : ∃ z, z = u := ⟨_, rfl⟩
    obtain ⟨hP1, hK1, hD1⟩ := hB
    rw [ht] at hP1
    have hK1 := va_K.moved hvm.symm hK1
    try dsimp only at hw
    have hPD := va_join (wr := [(qa2, .inl (ca2, na2, .inl fa2))]) (w1 := [(h0, .inr (13, z_1)), (qf104, .inl (cf104, 8, .inl f104)), (qf102, .inl (cf102, 2048, .inl f102)), (qf100, .inl (cf100, 48000, .inl f100))]) hP hD [0, 1, 2, 3] [4] rfl rfl (by decide) (by decide) hk1 hFc hP1 hD1
    clear hP hD
    obtain ⟨hP, hD⟩ := hPD
    replace hK := (hK.sub (tys' := [(ca2, .int)]) [3] rfl).app hK1
    clear hPc hDc hKc hFc hP1 hK1 hD1 hz1 hk1 ht hvm
    generalize H1 = H at hP hS ⊢
    replace hP : va_P (dC, dI) vwCl [(qa2, .inl (ca2, na2, .inl fa2)), (h0, .inr (13, z_1)), (qf104, .inl (cf104, 8, .inl f104)), (qf102, .inl (cf102, 2048, .inl f102)), (qf100, .inl (cf100, 48000, .inl f100))] H := hP
    replace hD : va_D A [(qa2, .inl (ca2, na2, .inl fa2)), (h0, .inr (13, z_1)), (qf104, .inl (cf104, 8, .inl f104)), (qf102, .inl (cf102, 2048, .inl f102)), (qf100, .inl (cf100, 48000, .inl f100))] := hD
    replace hK : va_K (dC, dI) vwCl [(ca2, .int), (cf104, .int), (cf102, .int), (cf100, .int)] s := hK
    obtain ⟨hwa_1, hln_1, hre_1⟩ := hw
    have hfk_1_100 : z_1[100]? = some (.ref qf100) := (hre_1 100 ).trans (hf100)
    have hfk_1_102 : z_1[102]? = some (.ref qf102) := (hre_1 102 ).trans (hf102)
    have hfk_1_104 : z_1[104]? = some (.ref qf104) := (hre_1 104 ).trans (hf104)
    have hrq_1 : ∀ j : Nat, z_1[j]? = zs[j]? := fun j  => (hre_1 j ).trans (hrs0 j )
    obtain rfl := hwa_1
    refine lv_istore (lv' := [(5, .int u1_0), (0, .ref h0), (1, .int a1), (2, .ref qa2), (3, .int a3), (4, .int a4)]) hx hb dX13_isNamed_160 hl (by decide) rfl (fun ls hl => ?_)
    refine lv_aload_n hx hb dX13_isNamed_162 rfl (lv_at hl 1 rfl) ?_
    refine va_get (D := (dC, dI)) (ci := 13) (v := .ref qf100) (C := RX13) (T := TX13) (N := 155) hx hb hts uV_h9_X13 hown hK hP 1 rfl rfl 100 (by decide) (hts (.fieldLink RX13 209 "ClassMillModel" "bytes" "[I") mw_h9_266) (fun _ h9 => h9) hfk_1_100 dX13_isNamed_163 ?_
    refine lv_iload hx hb dX13_isNamed_166 (lv_at hl 0 rfl) ?_
    obtain ⟨hi_3, hsp⟩ := ox_in hsp
    refine va_iald hx hb hK hP 4 3 rfl rfl (i := u1_0) hi_3 dX13_isNamed_168 ?_
    refine lv_iload hx hb dX13_isNamed_169 (lv_at hl 5 rfl) ?_
    refine lv_icmp_ne (tgt := 178) hx hb dX13_isNamed_171 (by decide) (fun c_4 => ?_) (fun c_4 => ?_)
    · rw [if_neg c_4] at hsp
      refine lv_iconst (v := 0) hx hb dX13_isNamed_178 (by decide) ?_
      exact hj_179 (H, locs, ls, z_1, a3, a4, u1_0, 0) ⟨lv_sub hl [1, 3, 4, 5, 0] rfl, hS, hD.sub (ws' := [(h0, .inr (13, z_1)), (qf104, .inl (cf104, 8, .inl f104)), (qf102, .inl (cf102, 2048, .inl f102)), (qf100, .inl (cf100, 48000, .inl f100)), (qa2, .inl (ca2, na2, .inl fa2))]) [1, 2, 3, 4, 0] (by decide) rfl, hP.sub (ws' := [(h0, .inr (13, z_1)), (qf104, .inl (cf104, 8, .inl f104)), (qf102, .inl (cf102, 2048, .inl f102)), (qf100, .inl (cf100, 48000, .inl f100)), (qa2, .inl (ca2, na2, .inl fa2))]) [1, 2, 3, 4, 0] rfl, hfk_1_100, hfk_1_102, hfk_1_104, hln_1, hrq_1, hsp⟩
    · rw [if_pos c_4] at hsp
      refine lv_iconst (v := 1) hx hb dX13_isNamed_174 (by decide) ?_
      refine lv_goto (tgt := 179) hx hb dX13_isNamed_175 (by decide) ?_
      exact hj_179 (H, locs, ls, z_1, a3, a4, u1_0, 1) ⟨lv_sub hl [1, 3, 4, 5, 0] rfl, hS, hD.sub (ws' := [(h0, .inr (13, z_1)), (qf104, .inl (cf104, 8, .inl f104)), (qf102, .inl (cf102, 2048, .inl f102)), (qf100, .inl (cf100, 48000, .inl f100)), (qa2, .inl (ca2, na2, .inl fa2))]) [1, 2, 3, 4, 0] (by decide) rfl, hP.sub (ws' := [(h0, .inr (13, z_1)), (qf104, .inl (cf104, 8, .inl f104)), (qf102, .inl (cf102, 2048, .inl f102)), (qf100, .inl (cf100, 48000, .inl f100)), (qa2, .inl (ca2, na2, .inl fa2))]) [1, 2, 3, 4, 0] rfl, hfk_1_100, hfk_1_102, hfk_1_104, hln_1, hrq_1, hsp⟩
  · rw [if_neg c_1] at hsp
    refine lv_iconst (v := (-1)) hx hb dX13_isNamed_6 (by decide) ?_
    refine lv_istore (lv' := [(5, .int (-1)), (0, .ref h0), (1, .int a1), (2, .ref qa2), (3, .int a3), (4, .int a4)]) hx hb dX13_isNamed_7 hl (by decide) rfl (fun ls hl => ?_)
    refine lv_iconst (v := 0) hx hb dX13_isNamed_9 (by decide) ?_
    refine lv_istore (lv' := [(6, .int 0), (5, .int (-1)), (0, .ref h0), (1, .int a1), (2, .ref qa2), (3, .int a3), (4, .int a4)]) hx hb dX13_isNamed_10 hl (by decide) rfl (fun ls hl => ?_)
    replace hl : lv_has ls 9 [(6, .int 0), (5, .int (-1)), (1, .int a1), (2, .ref qa2), (3, .int a3), (4, .int a4)] := lv_sub hl [0, 1, 3, 4, 5, 6] rfl
    replace hP := hP.sub (ws' := [(h0, .inr (13, zs)), (qf104, .inl (cf104, 8, .inl f104)), (qf102, .inl (cf102, 2048, .inl f102)), (qf100, .inl (cf100, 48000, .inl f100)), (qa2, .inl (ca2, na2, .inl fa2))]) [0, 1, 2, 3, 4] rfl
    replace hD := hD.sub (ws' := [(h0, .inr (13, zs)), (qf104, .inl (cf104, 8, .inl f104)), (qf102, .inl (cf102, 2048, .inl f102)), (qf100, .inl (cf100, 48000, .inl f100)), (qa2, .inl (ca2, na2, .inl fa2))]) [0, 1, 2, 3, 4] (by decide) rfl
    replace hK := hK.sub (tys' := [(cf104, .int), (cf102, .int), (cf100, .int), (ca2, .int)]) [0, 1, 2, 3] rfl
    obtain ⟨n_12, hn_12⟩ : ∃ z : Nat, z = nf := ⟨_, rfl⟩
    obtain ⟨l1_12, el1_12⟩ : ∃ z : Int32, z = a1 := ⟨_, rfl⟩
    obtain ⟨l3_12, el3_12⟩ : ∃ z : Int32, z = a3 := ⟨_, rfl⟩
    obtain ⟨l4_12, el4_12⟩ : ∃ z : Int32, z = a4 := ⟨_, rfl⟩
    obtain ⟨l5_12, el5_12⟩ : ∃ z : Int32, z = (-1) := ⟨_, rfl⟩
    obtain ⟨l6_12, el6_12⟩ : ∃ z : Int32, z = 0 := ⟨_, rfl⟩
    replace hsp : lp_vm_isNamed_12 nf n_12 a1 a3 a4 f104 f102 f100 na2 fa2 nS477 fS477 l1_12 l3_12 l4_12 l5_12 l6_12 = some r0 := by rw [hn_12, el1_12, el3_12, el4_12, el5_12, el6_12]; exact hsp
    replace hl : lv_has ls 9 [(6, .int l6_12), (5, .int l5_12), (1, .int l1_12), (2, .ref qa2), (3, .int l3_12), (4, .int l4_12)] := by rw [el1_12, el3_12, el4_12, el5_12, el6_12]; exact hl
    obtain ⟨z12, ez12⟩ : ∃ z : List Value, z = zs := ⟨_, rfl⟩
    have hfh_12_100 : z12[100]? = some (.ref qf100) := by rw [ez12]; exact hf100
    have hfh_12_102 : z12[102]? = some (.ref qf102) := by rw [ez12]; exact hf102
    have hfh_12_104 : z12[104]? = some (.ref qf104) := by rw [ez12]; exact hf104
    have hlh_12 : z12.length = 155 := by rw [ez12]; exact hlen
    have hrh_12 : ∀ j : Nat, z12[j]? = zs[j]? := by rw [ez12]; exact hrs0
    replace hP : va_P (dC, dI) vwCl [(h0, .inr (13, z12)), (qf104, .inl (cf104, 8, .inl f104)), (qf102, .inl (cf102, 2048, .inl f102)), (qf100, .inl (cf100, 48000, .inl f100)), (qa2, .inl (ca2, na2, .inl fa2))] H := by rw [ez12]; exact hP
    replace hD : va_D A [(h0, .inr (13, z12)), (qf104, .inl (cf104, 8, .inl f104)), (qf102, .inl (cf102, 2048, .inl f102)), (qf100, .inl (cf100, 48000, .inl f100)), (qa2, .inl (ca2, na2, .inl fa2))] := by rw [ez12]; exact hD
    clear hn_12 ez12 el1_12 el3_12 el4_12 el5_12 el6_12
    try clear hlo
    try clear hH
    revert hsp
    revert hP
    revert hD
    revert hS
    revert hl
    revert hrh_12
    revert hlh_12
    revert hfh_12_104
    revert hfh_12_102
    revert hfh_12_100
    revert l6_12
    revert l5_12
    revert l4_12
    revert l3_12
    revert l1_12
    revert z12
    revert ls
    revert locs
    revert H
    induction n_12 with
    | zero => intro H locs ls z12 l1_12 l3_12 l4_12 l5_12 l6_12 hfh_12_100 hfh_12_102 hfh_12_104 hlh_12 hrh_12 hl hS hD hP hsp; unfold lp_vm_isNamed_12 at hsp; cases hsp
    | succ n_12 ih_12 =>
      intro H locs ls z12 l1_12 l3_12 l4_12 l5_12 l6_12 hfh_12_100 hfh_12_102 hfh_12_104 hlh_12 hrh_12 hl hS hD hP hsp
      unfold lp_vm_isNamed_12 at hsp
      try dsimp only at hsp
      refine lv_iload hx hb dX13_isNamed_12 (lv_at hl 0 rfl) ?_
      refine lv_iconst (v := 1) hx hb dX13_isNamed_14 (by decide) ?_
      refine lv_iadd hx hb dX13_isNamed_15 ?_
      refine pw_ldcwS hx hb hown hZRS477 dX13_isNamed_16 ?_
      have hPc := hP.sub (ws' := []) [] rfl
      have hDc := hD.sub (ws' := []) [] (by decide) rfl
      have hKc := hK.sub (tys' := []) [] rfl
      have hFc := va_free (wc := []) hD hS hA [] rfl
      refine va_calli (va_runV (As := []) (rest := [.int (l6_12 + 1)]) ⟨hx, hb, hml, hown, hts⟩ (ct_slen l dC dI H.size nS477 fS477 hS477 qS477) (cwV 0 hts gv_h9_0 rfl rfl rfl (by decide +kernel) ⟨Nat.le_of_ble_eq_true rfl, Nat.le_of_ble_eq_true rfl⟩) ⟨fun a U g mk q => by obtain ⟨q0, q1, qP, qK, qD, qhZW⟩ := q; exact ⟨q0, q1, qP, va_K.moved (u := U) (U := U.calling g mk a) (Vm.Alike.refl U.vm) qK, qD, pz_W.moved (u := U) (U := U.calling g mk a) (Vm.Alike.refl U.vm) qhZW⟩, pz_recv hZWS477 hS, fun U hU hW => ⟨rfl, by rw [hU], by rw [hU]; exact hPc, va_K.moved hW.alike hKc, hDc.weaken (fun _ _ _ _ => trivial), by rw [hU]; exact ((pz_W.moved hW.alike hZWS477).kept hS.2.1).narrow hFc⟩⟩ rfl rfl hl.1 rfl (lv_room (Nat.le_of_ble_eq_true rfl)) dX13_isNamed_19 ⟨Nat.le_of_ble_eq_true rfl, Nat.le_of_ble_eq_true rfl⟩) hS (fun q _ h => hFc q h) hFc ?_
      clear hS
      intro r_5 u t H1 locs ht hvm hw hB hz1 hk1 hS
      obtain ⟨⟩ := u
      obtain ⟨hP1, hK1, hD1⟩ := hB
      rw [ht] at hP1
      try dsimp only at hw
      have hPD := va_join (wr := [(h0, .inr (13, z12)), (qf104, .inl (cf104, 8, .inl f104)), (qf102, .inl (cf102, 2048, .inl f102)), (qf100, .inl (cf100, 48000, .inl f100)), (qa2, .inl (ca2, na2, .inl fa2))]) (w1 := []) hP hD [] [0, 1, 2, 3, 4] rfl rfl (by decide) (by decide) hk1 hFc hP1 hD1
      clear hP hD
      obtain ⟨hP, hD⟩ := hPD
      clear hPc hDc hKc hFc hP1 hK1 hD1 hz1 hk1 ht hvm
      generalize H1 = H at hP hS ⊢
      replace hP : va_P (dC, dI) vwCl [(h0, .inr (13, z12)), (qf104, .inl (cf104, 8, .inl f104)), (qf102, .inl (cf102, 2048, .inl f102)), (qf100, .inl (cf100, 48000, .inl f100)), (qa2, .inl (ca2, na2, .inl fa2))] H := hP
      replace hD : va_D A [(h0, .inr (13, z12)), (qf104, .inl (cf104, 8, .inl f104)), (qf102, .inl (cf102, 2048, .inl f102)), (qf100, .inl (cf100, 48000, .inl f100)), (qa2, .inl (ca2, na2, .inl fa2))] := hD
      obtain rfl : r_5 = (nI nS477) := hw
      refine lv_icmp_ge (tgt := 153) hx hb dX13_isNamed_22 (by decide) (fun c_6 => ?_) (fun c_6 => ?_)
      · rw [if_pos c_6] at hsp
        refine lv_iconst (v := 0) hx hb dX13_isNamed_153 (by decide) ?_
        have hr0 := Option.some.inj hsp
        clear hsp
        subst hr0
        have hP9 := hP.sub (ws' := [(h0, .inr (13, z12)), (qf104, .inl (cf104, 8, .inl f104)), (qf102, .inl (cf102, 2048, .inl f102)), (qf100, .inl (cf100, 48000, .inl f100)), (qa2, .inl (ca2, na2, .inl fa2))]) [0, 1, 2, 3, 4] rfl
        have hD9 := hD.sub (ws' := [(h0, .inr (13, z12)), (qf104, .inl (cf104, 8, .inl f104)), (qf102, .inl (cf102, 2048, .inl f102)), (qf100, .inl (cf100, 48000, .inl f100)), (qa2, .inl (ca2, na2, .inl fa2))]) [0, 1, 2, 3, 4] (by decide) rfl
        have hK9 := hK.sub (tys' := [(cf104, .int), (cf102, .int), (cf100, .int), (ca2, .int)]) [0, 1, 2, 3] rfl
        exact W.zret hx hb hr (by decide) (fun t ht hW => ⟨⟨(0), (z12), rfl, ⟨⟨rfl, Or.inl rfl⟩, hlh_12, hrh_12⟩, by rw [ht]; exact hP9, va_K.moved hW.alike hK9, hD9⟩, hS.F ht⟩) hS.2.2 dX13_isNamed_154
      · rw [if_neg c_6] at hsp
        refine pw_ldcwS hx hb hown hZRS477 dX13_isNamed_25 ?_
        refine lv_iload hx hb dX13_isNamed_28 (lv_at hl 0 rfl) ?_
        obtain ⟨⟨hk_7j, hk_71, hk_72, hk_73, hk_74⟩, hsp⟩ := ox_ch hsp
        rw [hk_71]
        have hPc := hP.sub (ws' := []) [] rfl
        have hDc := hD.sub (ws' := []) [] (by decide) rfl
        have hKc := hK.sub (tys' := []) [] rfl
        have hFc := va_free (wc := []) hD hS hA [] rfl
        refine va_calli (va_runV (As := [.int (nI hk_7j)]) (rest := []) ⟨hx, hb, hml, hown, hts⟩ (ct_charAt l dC dI H.size nS477 fS477 hS477 qS477 hk_7j hk_73 hk_74) (cwV 1 hts gv_h9_1 rfl rfl rfl (by decide +kernel) ⟨Nat.le_of_ble_eq_true rfl, Nat.le_of_ble_eq_true rfl⟩) ⟨fun a U g mk q => by obtain ⟨q0, q1, qP, qK, qD, qhZW⟩ := q; exact ⟨q0, q1, qP, va_K.moved (u := U) (U := U.calling g mk a) (Vm.Alike.refl U.vm) qK, qD, pz_W.moved (u := U) (U := U.calling g mk a) (Vm.Alike.refl U.vm) qhZW⟩, pz_recv hZWS477 hS, fun U hU hW => ⟨rfl, by rw [hU], by rw [hU]; exact hPc, va_K.moved hW.alike hKc, hDc.weaken (fun _ _ _ _ => trivial), by rw [hU]; exact ((pz_W.moved hW.alike hZWS477).kept hS.2.1).narrow hFc⟩⟩ rfl rfl hl.1 rfl (lv_room (Nat.le_of_ble_eq_true rfl)) dX13_isNamed_30 ⟨Nat.le_of_ble_eq_true rfl, Nat.le_of_ble_eq_true rfl⟩) hS (fun q _ h => hFc q h) hFc ?_
        clear hS
        intro r_8 u t H1 locs ht hvm hw hB hz1 hk1 hS
        obtain ⟨⟩ := u
        obtain ⟨hP1, hK1, hD1⟩ := hB
        rw [ht] at hP1
        try dsimp only at hw
        have hPD := va_join (wr := [(h0, .inr (13, z12)), (qf104, .inl (cf104, 8, .inl f104)), (qf102, .inl (cf102, 2048, .inl f102)), (qf100, .inl (cf100, 48000, .inl f100)), (qa2, .inl (ca2, na2, .inl fa2))]) (w1 := []) hP hD [] [0, 1, 2, 3, 4] rfl rfl (by decide) (by decide) hk1 hFc hP1 hD1
        clear hP hD
        obtain ⟨hP, hD⟩ := hPD
        clear hPc hDc hKc hFc hP1 hK1 hD1 hz1 hk1 ht hvm
        generalize H1 = H at hP hS ⊢
        replace hP : va_P (dC, dI) vwCl [(h0, .inr (13, z12)), (qf104, .inl (cf104, 8, .inl f104)), (qf102, .inl (cf102, 2048, .inl f102)), (qf100, .inl (cf100, 48000, .inl f100)), (qa2, .inl (ca2, na2, .inl fa2))] H := hP
        replace hD : va_D A [(h0, .inr (13, z12)), (qf104, .inl (cf104, 8, .inl f104)), (qf102, .inl (cf102, 2048, .inl f102)), (qf100, .inl (cf100, 48000, .inl f100)), (qa2, .inl (ca2, na2, .inl fa2))] := hD
        obtain rfl : r_8 = (((fS477 (l6_12 : Int32).toNatClampNeg) &&& 255).toUInt32 % 65536).toInt32 := by rw [hk_72]; exact hw
        refine lv_bipush (v := 32) hx hb dX13_isNamed_33 (by decide) ?_
        refine lv_icmp_eq (tgt := 41) hx hb dX13_isNamed_35 (by decide) (fun c_9 => ?_) (fun c_9 => ?_)
        · rw [if_pos c_9] at hsp
          refine lv_iinc (v := (l5_12 + 1)) (lv' := [(5, .int (l5_12 + 1)), (6, .int l6_12), (1, .int l1_12), (2, .ref qa2), (3, .int l3_12), (4, .int l4_12)]) hx hb dX13_isNamed_41 hl (k := 1) rfl rfl (by decide) rfl (fun ls hl => ?_)
          refine lv_iload hx hb dX13_isNamed_44 (lv_at hl 0 rfl) ?_
          refine lv_iload_n hx hb dX13_isNamed_46 rfl (lv_at hl 2 rfl) ?_
          refine lv_icmp_eq (tgt := 53) hx hb dX13_isNamed_47 (by decide) (fun c_10 => ?_) (fun c_10 => ?_)
          · rw [if_pos c_10] at hsp
            refine lv_iload hx hb dX13_isNamed_53 (lv_at hl 1 rfl) ?_
            refine lv_iload hx hb dX13_isNamed_55 (lv_at hl 5 rfl) ?_
            refine lv_iadd hx hb dX13_isNamed_57 ?_
            refine lv_iconst (v := 1) hx hb dX13_isNamed_58 (by decide) ?_
            refine lv_iadd hx hb dX13_isNamed_59 ?_
            refine pw_ldcwS hx hb hown hZRS477 dX13_isNamed_60 ?_
            have hPc := hP.sub (ws' := []) [] rfl
            have hDc := hD.sub (ws' := []) [] (by decide) rfl
            have hKc := hK.sub (tys' := []) [] rfl
            have hFc := va_free (wc := []) hD hS hA [] rfl
            refine va_calli (va_runV (As := []) (rest := [.int ((l6_12 + l4_12) + 1)]) ⟨hx, hb, hml, hown, hts⟩ (ct_slen l dC dI H.size nS477 fS477 hS477 qS477) (cwV 0 hts gv_h9_0 rfl rfl rfl (by decide +kernel) ⟨Nat.le_of_ble_eq_true rfl, Nat.le_of_ble_eq_true rfl⟩) ⟨fun a U g mk q => by obtain ⟨q0, q1, qP, qK, qD, qhZW⟩ := q; exact ⟨q0, q1, qP, va_K.moved (u := U) (U := U.calling g mk a) (Vm.Alike.refl U.vm) qK, qD, pz_W.moved (u := U) (U := U.calling g mk a) (Vm.Alike.refl U.vm) qhZW⟩, pz_recv hZWS477 hS, fun U hU hW => ⟨rfl, by rw [hU], by rw [hU]; exact hPc, va_K.moved hW.alike hKc, hDc.weaken (fun _ _ _ _ => trivial), by rw [hU]; exact ((pz_W.moved hW.alike hZWS477).kept hS.2.1).narrow hFc⟩⟩ rfl rfl hl.1 rfl (lv_room (Nat.le_of_ble_eq_true rfl)) dX13_isNamed_63 ⟨Nat.le_of_ble_eq_true rfl, Nat.le_of_ble_eq_true rfl⟩) hS (fun q _ h => hFc q h) hFc ?_
            clear hS
            intro r_11 u t H1 locs ht hvm hw hB hz1 hk1 hS
            obtain ⟨⟩ := u
            obtain ⟨hP1, hK1, hD1⟩ := hB
            rw [ht] at hP1
            try dsimp only at hw
            have hPD := va_join (wr := [(h0, .inr (13, z12)), (qf104, .inl (cf104, 8, .inl f104)), (qf102, .inl (cf102, 2048, .inl f102)), (qf100, .inl (cf100, 48000, .inl f100)), (qa2, .inl (ca2, na2, .inl fa2))]) (w1 := []) hP hD [] [0, 1, 2, 3, 4] rfl rfl (by decide) (by decide) hk1 hFc hP1 hD1
            clear hP hD
            obtain ⟨hP, hD⟩ := hPD
            clear hPc hDc hKc hFc hP1 hK1 hD1 hz1 hk1 ht hvm
            generalize H1 = H at hP hS ⊢
            replace hP : va_P (dC, dI) vwCl [(h0, .inr (13, z12)), (qf104, .inl (cf104, 8, .inl f104)), (qf102, .inl (cf102, 2048, .inl f102)), (qf100, .inl (cf100, 48000, .inl f100)), (qa2, .inl (ca2, na2, .inl fa2))] H := hP
            replace hD : va_D A [(h0, .inr (13, z12)), (qf104, .inl (cf104, 8, .inl f104)), (qf102, .inl (cf102, 2048, .inl f102)), (qf100, .inl (cf100, 48000, .inl f100)), (qa2, .inl (ca2, na2, .inl fa2))] := hD
            obtain rfl : r_11 = (nI nS477) := hw
            refine lv_icmp_ge (tgt := 91) hx hb dX13_isNamed_66 (by decide) (fun c_12 => ?_) (fun c_12 => ?_)
            · rw [if_pos c_12] at hsp
              exact hj_91 (H, locs, ls, z12, l3_12, l4_12, l6_12) ⟨lv_sub hl [3, 4, 5, 1] rfl, hS, hD.sub (ws' := [(h0, .inr (13, z12)), (qf104, .inl (cf104, 8, .inl f104)), (qf102, .inl (cf102, 2048, .inl f102)), (qf100, .inl (cf100, 48000, .inl f100)), (qa2, .inl (ca2, na2, .inl fa2))]) [0, 1, 2, 3, 4] (by decide) rfl, hP.sub (ws' := [(h0, .inr (13, z12)), (qf104, .inl (cf104, 8, .inl f104)), (qf102, .inl (cf102, 2048, .inl f102)), (qf100, .inl (cf100, 48000, .inl f100)), (qa2, .inl (ca2, na2, .inl fa2))]) [0, 1, 2, 3, 4] rfl, hfh_12_100, hfh_12_102, hfh_12_104, hlh_12, hrh_12, hsp⟩
            · rw [if_neg c_12] at hsp
              refine pw_ldcwS hx hb hown hZRS477 dX13_isNamed_69 ?_
              refine lv_iload hx hb dX13_isNamed_72 (lv_at hl 1 rfl) ?_
              refine lv_iload hx hb dX13_isNamed_74 (lv_at hl 5 rfl) ?_
              refine lv_iadd hx hb dX13_isNamed_76 ?_
              refine lv_iconst (v := 1) hx hb dX13_isNamed_77 (by decide) ?_
              refine lv_iadd hx hb dX13_isNamed_78 ?_
              obtain ⟨⟨hk_13j, hk_131, hk_132, hk_133, hk_134⟩, hsp⟩ := ox_ch hsp
              rw [hk_131]
              have hPc := hP.sub (ws' := []) [] rfl
              have hDc := hD.sub (ws' := []) [] (by decide) rfl
              have hKc := hK.sub (tys' := []) [] rfl
              have hFc := va_free (wc := []) hD hS hA [] rfl
              refine va_calli (va_runV (As := [.int (nI hk_13j)]) (rest := []) ⟨hx, hb, hml, hown, hts⟩ (ct_charAt l dC dI H.size nS477 fS477 hS477 qS477 hk_13j hk_133 hk_134) (cwV 1 hts gv_h9_1 rfl rfl rfl (by decide +kernel) ⟨Nat.le_of_ble_eq_true rfl, Nat.le_of_ble_eq_true rfl⟩) ⟨fun a U g mk q => by obtain ⟨q0, q1, qP, qK, qD, qhZW⟩ := q; exact ⟨q0, q1, qP, va_K.moved (u := U) (U := U.calling g mk a) (Vm.Alike.refl U.vm) qK, qD, pz_W.moved (u := U) (U := U.calling g mk a) (Vm.Alike.refl U.vm) qhZW⟩, pz_recv hZWS477 hS, fun U hU hW => ⟨rfl, by rw [hU], by rw [hU]; exact hPc, va_K.moved hW.alike hKc, hDc.weaken (fun _ _ _ _ => trivial), by rw [hU]; exact ((pz_W.moved hW.alike hZWS477).kept hS.2.1).narrow hFc⟩⟩ rfl rfl hl.1 rfl (lv_room (Nat.le_of_ble_eq_true rfl)) dX13_isNamed_79 ⟨Nat.le_of_ble_eq_true rfl, Nat.le_of_ble_eq_true rfl⟩) hS (fun q _ h => hFc q h) hFc ?_
              clear hS
              intro r_14 u t H1 locs ht hvm hw hB hz1 hk1 hS
              obtain ⟨⟩ := u
              obtain ⟨hP1, hK1, hD1⟩ := hB
              rw [ht] at hP1
              try dsimp only at hw
              have hPD := va_join (wr := [(h0, .inr (13, z12)), (qf104, .inl (cf104, 8, .inl f104)), (qf102, .inl (cf102, 2048, .inl f102)), (qf100, .inl (cf100, 48000, .inl f100)), (qa2, .inl (ca2, na2, .inl fa2))]) (w1 := []) hP hD [] [0, 1, 2, 3, 4] rfl rfl (by decide) (by decide) hk1 hFc hP1 hD1
              clear hP hD
              obtain ⟨hP, hD⟩ := hPD
              clear hPc hDc hKc hFc hP1 hK1 hD1 hz1 hk1 ht hvm
              generalize H1 = H at hP hS ⊢
              replace hP : va_P (dC, dI) vwCl [(h0, .inr (13, z12)), (qf104, .inl (cf104, 8, .inl f104)), (qf102, .inl (cf102, 2048, .inl f102)), (qf100, .inl (cf100, 48000, .inl f100)), (qa2, .inl (ca2, na2, .inl fa2))] H := hP
              replace hD : va_D A [(h0, .inr (13, z12)), (qf104, .inl (cf104, 8, .inl f104)), (qf102, .inl (cf102, 2048, .inl f102)), (qf100, .inl (cf100, 48000, .inl f100)), (qa2, .inl (ca2, na2, .inl fa2))] := hD
              obtain rfl : r_14 = (((fS477 (((l6_12 + l4_12) + 1) : Int32).toNatClampNeg) &&& 255).toUInt32 % 65536).toInt32 := by rw [hk_132]; exact hw
              refine lv_bipush (v := 32) hx hb dX13_isNamed_82 (by decide) ?_
              refine lv_icmp_ne (tgt := 91) hx hb dX13_isNamed_84 (by decide) (fun c_15 => ?_) (fun c_15 => ?_)
              · rw [if_neg c_15] at hsp
                exact hj_91 (H, locs, ls, z12, l3_12, l4_12, l6_12) ⟨lv_sub hl [3, 4, 5, 1] rfl, hS, hD.sub (ws' := [(h0, .inr (13, z12)), (qf104, .inl (cf104, 8, .inl f104)), (qf102, .inl (cf102, 2048, .inl f102)), (qf100, .inl (cf100, 48000, .inl f100)), (qa2, .inl (ca2, na2, .inl fa2))]) [0, 1, 2, 3, 4] (by decide) rfl, hP.sub (ws' := [(h0, .inr (13, z12)), (qf104, .inl (cf104, 8, .inl f104)), (qf102, .inl (cf102, 2048, .inl f102)), (qf100, .inl (cf100, 48000, .inl f100)), (qa2, .inl (ca2, na2, .inl fa2))]) [0, 1, 2, 3, 4] rfl, hfh_12_100, hfh_12_102, hfh_12_104, hlh_12, hrh_12, hsp⟩
              · rw [if_pos c_15] at hsp
                refine lv_iconst (v := 1) hx hb dX13_isNamed_87 (by decide) ?_
                refine lv_goto (tgt := 92) hx hb dX13_isNamed_88 (by decide) ?_
                exact hj_92 (H, locs, ls, z12, l3_12, l4_12, l6_12, 1) ⟨lv_sub hl [3, 4, 5, 1] rfl, hS, hD.sub (ws' := [(h0, .inr (13, z12)), (qf104, .inl (cf104, 8, .inl f104)), (qf102, .inl (cf102, 2048, .inl f102)), (qf100, .inl (cf100, 48000, .inl f100)), (qa2, .inl (ca2, na2, .inl fa2))]) [0, 1, 2, 3, 4] (by decide) rfl, hP.sub (ws' := [(h0, .inr (13, z12)), (qf104, .inl (cf104, 8, .inl f104)), (qf102, .inl (cf102, 2048, .inl f102)), (qf100, .inl (cf100, 48000, .inl f100)), (qa2, .inl (ca2, na2, .inl fa2))]) [0, 1, 2, 3, 4] rfl, hfh_12_100, hfh_12_102, hfh_12_104, hlh_12, hrh_12, hsp⟩
          · rw [if_neg c_10] at hsp
            refine lv_goto (tgt := 147) hx hb dX13_isNamed_50 (by decide) ?_
            refine lv_iinc (v := (l6_12 + 1)) (lv' := [(6, .int (l6_12 + 1)), (5, .int (l5_12 + 1)), (1, .int l1_12), (2, .ref qa2), (3, .int l3_12), (4, .int l4_12)]) hx hb dX13_isNamed_147 hl (k := 1) rfl rfl (by decide) rfl (fun ls hl => ?_)
            refine lv_goto (tgt := 12) hx hb dX13_isNamed_150 (by decide) ?_
            exact ih_12 H locs ls z12 l1_12 l3_12 l4_12 (l5_12 + 1) (l6_12 + 1) (hfh_12_100) (hfh_12_102) (hfh_12_104) hlh_12 hrh_12 (lv_sub hl [0, 1, 2, 3, 4, 5] rfl) hS (hD.sub (ws' := [(h0, .inr (13, z12)), (qf104, .inl (cf104, 8, .inl f104)), (qf102, .inl (cf102, 2048, .inl f102)), (qf100, .inl (cf100, 48000, .inl f100)), (qa2, .inl (ca2, na2, .inl fa2))]) [0, 1, 2, 3, 4] (by decide) rfl) (hP.sub (ws' := [(h0, .inr (13, z12)), (qf104, .inl (cf104, 8, .inl f104)), (qf102, .inl (cf102, 2048, .inl f102)), (qf100, .inl (cf100, 48000, .inl f100)), (qa2, .inl (ca2, na2, .inl fa2))]) [0, 1, 2, 3, 4] rfl) hsp
        · rw [if_neg c_9] at hsp
          refine lv_goto (tgt := 147) hx hb dX13_isNamed_38 (by decide) ?_
          refine lv_iinc (v := (l6_12 + 1)) (lv' := [(6, .int (l6_12 + 1)), (5, .int l5_12), (1, .int l1_12), (2, .ref qa2), (3, .int l3_12), (4, .int l4_12)]) hx hb dX13_isNamed_147 hl (k := 0) rfl rfl (by decide) rfl (fun ls hl => ?_)
          refine lv_goto (tgt := 12) hx hb dX13_isNamed_150 (by decide) ?_
          exact ih_12 H locs ls z12 l1_12 l3_12 l4_12 l5_12 (l6_12 + 1) (hfh_12_100) (hfh_12_102) (hfh_12_104) hlh_12 hrh_12 (lv_sub hl [0, 1, 2, 3, 4, 5] rfl) hS (hD.sub (ws' := [(h0, .inr (13, z12)), (qf104, .inl (cf104, 8, .inl f104)), (qf102, .inl (cf102, 2048, .inl f102)), (qf100, .inl (cf100, 48000, .inl f100)), (qa2, .inl (ca2, na2, .inl fa2))]) [0, 1, 2, 3, 4] (by decide) rfl) (hP.sub (ws' := [(h0, .inr (13, z12)), (qf104, .inl (cf104, 8, .inl f104)), (qf102, .inl (cf102, 2048, .inl f102)), (qf100, .inl (cf100, 48000, .inl f100)), (qa2, .inl (ca2, na2, .inl fa2))]) [0, 1, 2, 3, 4] rfl) hsp
def lp_vm_classNamed_3 (nf n : Nat) (a2 : Int32) (a3 : Int32) (v98 : Int32) (f104 : Nat → Int32) (f102 : Nat → Int32) (f100 : Nat → Int32) (na1 : Nat) (fa1 : Nat → Int32) (nS477 : Nat) (fS477 : Nat → Int32)  (l2_3 : Int32) (l3_3 : Int32) (l4_3 : Int32) : Option (Int32) := match n with
  | 0 => none
  | n + 1 => (if (8 + v98) ≤ l4_3 then (some (-1)) else ((sp_vm_isNamed nf l4_3 l2_3 l3_3 f104 f102 f100 na1 fa1 nS477 fS477).bind (fun p1 => (if p1 = 0 then (lp_vm_classNamed_3 nf n a2 a3 v98 f104 f102 f100 na1 fa1 nS477 fS477 l2_3 l3_3 (l4_3 + 1)) else (some l4_3)))))
def sp_vm_classNamed (nf : Nat) (a2 : Int32) (a3 : Int32) (v98 : Int32) (f104 : Nat → Int32) (f102 : Nat → Int32) (f100 : Nat → Int32) (na1 : Nat) (fa1 : Nat → Int32) (nS477 : Nat) (fS477 : Nat → Int32) : Option (Int32) := (lp_vm_classNamed_3 nf nf a2 a3 v98 f104 f102 f100 na1 fa1 nS477 fS477  a2 a3 0)

set_option maxHeartbeats 4000000 in
set_option maxRecDepth 100000 in
/-- ClassMillModel.isNamed -/
theorem vm_isNamedB (l : Launch) (dC : Nat → ClassId) (dI : Nat → Nat → Nat) (sz : Nat) (h0 : Nat) (zs : (List Value)) (a1 : Int32) (qf100 : Nat) (a3 : Int32) (a4 : Int32) (qf102 : Nat) (qf104 : Nat) (cf104 : ClassId) (f104 : (Nat → Int32)) (cf102 : ClassId) (f102 : (Nat → Int32)) (cf100 : ClassId) (f100 : (Nat → Int32)) (nS477 : Nat) (fS477 : (Nat → Int32)) (hS477 : Nat) (qS477 : Nat) (tS477 : String) (nf : Nat) (r0 : Int32) (hlen : zs.length = 155) (hf100 : zs[100]? = some (.ref qf100)) (hf102 : zs[102]? = some (.ref qf102)) (hf104 : zs[104]? = some (.ref qf104)) (hsp : sp_vm_isNamedB nf a1 a3 a4 f104 f102 f100 nS477 fS477 = some r0) : Met l yX13_isNamed (.code yX13_isNamed cX13_isNamed 9 (some .boolean) :: VS_h9) ({ frames := 4, cells := 0, slots := 0, locals := 85 }) (va_Pc [.ref h0, .int a1, .ref qf100, .int a3, .int a4] (fun U => U.heap.size = sz ∧ va_P (dC, dI) vwCl [(h0, .inr (13, zs)), (qf104, .inl (cf104, 8, .inl f104)), (qf102, .inl (cf102, 2048, .inl f102)), (qf100, .inl (cf100, 48000, .inl f100))] U.heap ∧ va_K (dC, dI) vwCl [(cf104, .int), (cf102, .int), (cf100, .int)] U ∧ va_D (fun _ => True) [(h0, .inr (13, zs)), (qf104, .inl (cf104, 8, .inl f104)), (qf102, .inl (cf102, 2048, .inl f102)), (qf100, .inl (cf100, 48000, .inl f100))] ∧ pz_W nS477 fS477 hS477 qS477 (va_A [(h0, .inr (13, zs)), (qf104, .inl (cf104, 8, .inl f104)), (qf102, .inl (cf102, 2048, .inl f102)), (qf100, .inl (cf100, 48000, .inl f100))] sz) U U.heap ∧ vk_R RX13 477 tS477 hS477 U)) (va_Qi (fun (r : Int32) (u : (List Value)) => match u with | (zo1) => (r0 = r ∧ (r0 = 0 ∨ r0 = 1)) ∧ zo1.length = 155 ∧ (∀ j : Nat, zo1[j]? = zs[j]?)) (fun (u : (List Value)) (t : State) => match u with | (zo1) => va_P (dC, dI) vwCl [(h0, .inr (13, zo1)), (qf104, .inl (cf104, 8, .inl f104)), (qf102, .inl (cf102, 2048, .inl f102)), (qf100, .inl (cf100, 48000, .inl f100))] t.heap ∧ va_K (dC, dI) vwCl [(cf104, .int), (cf102, .int), (cf100, .int)] t ∧ va_D (va_A [(h0, .inr (13, zs)), (qf104, .inl (cf104, 8, .inl f104)), (qf102, .inl (cf102, 2048, .inl f102)), (qf100, .inl (cf100, 48000, .inl f100))] sz) [(h0, .inr (13, zo1)), (qf104, .inl (cf104, 8, .inl f104)), (qf102, .inl (cf102, 2048, .inl f102)), (qf100, .inl (cf100, 48000, .inl f100))]) (va_A [(h0, .inr (13, zs)), (qf104, .inl (cf104, 8, .inl f104)), (qf102, .inl (cf102, 2048, .inl f102)), (qf100, .inl (cf100, 48000, .inl f100))] sz)) 0 0 (va_A [(h0, .inr (13, zs)), (qf104, .inl (cf104, 8, .inl f104)), (qf102, .inl (cf102, 2048, .inl f102)), (qf100, .inl (cf100, 48000, .inl f100))] sz) := by
  refine Met.ofW (cc := cX13_isNamed) (maxL := 9) (ret := (some .boolean)) (by decide) rfl ?_
  intro p e s m args below meth c s₁ B hml hv
  obtain ⟨rfl, hsz, hP, hK, hD0, hZWS477, hZRS477⟩ := hv
  have hx := B.exec
  have hb := B.bytes
  have hr := B.returns
  have hts := atoms_spec (ws := (.code yX13_isNamed cX13_isNamed 9 (some .boolean) :: VS_h9)) B.pre
  replace hts := fun w (h : w ∈ VS_h9) => hts w (List.mem_cons_of_mem _ h)
  have hown : s.vm.findClass RX13 = some m.cls := findClass_of_methodNamed B.named
  have hlocks := B.notSynchronized
  subst hsz
  have hD := hD0.self (sz := s.heap.size)
  generalize hAe : va_A [(h0, .inr (13, zs)), (qf104, .inl (cf104, 8, .inl f104)), (qf102, .inl (cf102, 2048, .inl f102)), (qf100, .inl (cf100, 48000, .inl f100))] s.heap.size = A at hD hZWS477 ⊢
  have hA : ∀ q : Nat, s.heap.size ≤ q → A q := fun q h => by rw [← hAe]; exact Or.inr h
  have hP : va_P (dC, dI) vwCl [(h0, .inr (13, zs)), (qf104, .inl (cf104, 8, .inl f104)), (qf102, .inl (cf102, 2048, .inl f102)), (qf100, .inl (cf100, 48000, .inl f100))] s.heap := hP
  have hl := lv_entry ([.ref h0, .int a1, .ref qf100, .int a3, .int a4]) (n := 9) (Nat.le_of_ble_eq_true rfl)
  rw [lg_entry_eq]
  generalize (lg_sl ([.ref h0, .int a1, .ref qf100, .int a3, .int a4]) ++ List.replicate (9 - (lg_sl ([.ref h0, .int a1, .ref qf100, .int a3, .int a4])).length) Slot.unset).toArray = ls at hl ⊢
  have hl : lv_has ls 9 [(0, .ref h0), (1, .int a1), (2, .ref qf100), (3, .int a3), (4, .int a4)] := hl
  obtain ⟨H, hH⟩ : ∃ H : Heap, s.heap = H := ⟨_, rfl⟩
  rw [hH] at hP ⊢
  have hS : va_S A s.heap H [] := by rw [← hH]; exact va_S.rf
  obtain ⟨locs, hlo⟩ : ∃ locs : List Loc, locs = [] := ⟨_, rfl⟩
  rw [← hlo] at hS ⊢
  have hrs0 : ∀ j : Nat, zs[j]? = zs[j]? := fun _  => rfl
  unfold sp_vm_isNamedB at hsp
  refine jn_use (α := Heap × List Loc × Array Slot × List Value × Int32 × Int32 × Int32 × Int32) (fun x9 => x9.1) (fun x9 => x9.2.1) (fun x9 => F0 m 179 x9.2.2.1 [.int (x9.2.2.2.2.2.2.2)]) (fun x9 => match x9 with | (H, locs, ls, z179, l3_179, l4_179, l5_179, s0_179) => lv_has ls 9 [(0, .ref h0), (2, .ref qf100), (3, .int l3_179), (4, .int l4_179), (5, .int l5_179)] ∧ va_S A s.heap H locs ∧ va_D A [(h0, .inr (13, z179)), (qf104, .inl (cf104, 8, .inl f104)), (qf102, .inl (cf102, 2048, .inl f102)), (qf100, .inl (cf100, 48000, .inl f100))] ∧ va_P (dC, dI) vwCl [(h0, .inr (13, z179)), (qf104, .inl (cf104, 8, .inl f104)), (qf102, .inl (cf102, 2048, .inl f102)), (qf100, .inl (cf100, 48000, .inl f100))] H ∧ z179[100]? = some (.ref qf100) ∧ z179[102]? = some (.ref qf102) ∧ z179[104]? = some (.ref qf104) ∧ z179.length = 155 ∧ (∀ j : Nat, z179[j]? = zs[j]?) ∧ jn_vm_isNamedB_179 nf a1 a3 a4 f104 f102 f100 nS477 fS477 l3_179 l4_179 l5_179 s0_179 = some r0) ?_ ?_
  · intro x9 hJ9
    obtain ⟨H, locs, ls, z179, l3_179, l4_179, l5_179, s0_179⟩ := x9
    obtain ⟨hl, hS, hD, hP, hfh_179_100, hfh_179_102, hfh_179_104, hlh_179, hrh_179, hsp⟩ := hJ9
    replace hl : lv_has ls 9 [(0, .ref h0), (2, .ref qf100), (3, .int l3_179), (4, .int l4_179), (5, .int l5_179)] := hl
    replace hS : va_S A s.heap H locs := hS
    replace hD : va_D A [(h0, .inr (13, z179)), (qf104, .inl (cf104, 8, .inl f104)), (qf102, .inl (cf102, 2048, .inl f102)), (qf100, .inl (cf100, 48000, .inl f100))] := hD
    replace hP : va_P (dC, dI) vwCl [(h0, .inr (13, z179)), (qf104, .inl (cf104, 8, .inl f104)), (qf102, .inl (cf102, 2048, .inl f102)), (qf100, .inl (cf100, 48000, .inl f100))] H := hP
    replace hsp : jn_vm_isNamedB_179 nf a1 a3 a4 f104 f102 f100 nS477 fS477 l3_179 l4_179 l5_179 s0_179 = some r0 := hsp
    show W _ _ _ _ _ _ _ _ _ _ H locs _ _ _ (F0 m 179 ls [.int s0_179])
    unfold jn_vm_isNamedB_179 at hsp
    try dsimp only at hsp
    refine lv_istore (lv' := [(6, .int s0_179), (0, .ref h0), (2, .ref qf100), (3, .int l3_179), (4, .int l4_179), (5, .int l5_179)]) hx hb dX13_isNamed_179 hl (by decide) rfl (fun ls hl => ?_)
    refine lv_iconst (v := 0) hx hb dX13_isNamed_181 (by decide) ?_
    refine lv_istore (lv' := [(7, .int 0), (6, .int s0_179), (0, .ref h0), (2, .ref qf100), (3, .int l3_179), (4, .int l4_179), (5, .int l5_179)]) hx hb dX13_isNamed_182 hl (by decide) rfl (fun ls hl => ?_)
    replace hl : lv_has ls 9 [(7, .int 0), (6, .int s0_179), (0, .ref h0), (2, .ref qf100), (3, .int l3_179), (4, .int l4_179), (5, .int l5_179)] := lv_sub hl [0, 1, 2, 3, 4, 5, 6] rfl
    replace hP := hP.sub (ws' := [(h0, .inr (13, z179)), (qf104, .inl (cf104, 8, .inl f104)), (qf102, .inl (cf102, 2048, .inl f102)), (qf100, .inl (cf100, 48000, .inl f100))]) [0, 1, 2, 3] rfl
    replace hD := hD.sub (ws' := [(h0, .inr (13, z179)), (qf104, .inl (cf104, 8, .inl f104)), (qf102, .inl (cf102, 2048, .inl f102)), (qf100, .inl (cf100, 48000, .inl f100))]) [0, 1, 2, 3] (by decide) rfl
    replace hK := hK.sub (tys' := [(cf104, .int), (cf102, .int), (cf100, .int)]) [0, 1, 2] rfl
    obtain ⟨n_184, hn_184⟩ : ∃ z : Nat, z = nf := ⟨_, rfl⟩
    obtain ⟨l3_184, el3_184⟩ : ∃ z : Int32, z = l3_179 := ⟨_, rfl⟩
    obtain ⟨l4_184, el4_184⟩ : ∃ z : Int32, z = l4_179 := ⟨_, rfl⟩
    obtain ⟨l5_184, el5_184⟩ : ∃ z : Int32, z = l5_179 := ⟨_, rfl⟩
    obtain ⟨l6_184, el6_184⟩ : ∃ z : Int32, z = s0_179 := ⟨_, rfl⟩
    obtain ⟨l7_184, el7_184⟩ : ∃ z : Int32, z = 0 := ⟨_, rfl⟩
    replace hsp : lp_vm_isNamedB_184 nf n_184 a1 a3 a4 f104 f102 f100 nS477 fS477 l3_184 l4_184 l5_184 l6_184 l7_184 = some r0 := by rw [hn_184, el3_184, el4_184, el5_184, el6_184, el7_184]; exact hsp
    replace hl : lv_has ls 9 [(7, .int l7_184), (6, .int l6_184), (0, .ref h0), (2, .ref qf100), (3, .int l3_184), (4, .int l4_184), (5, .int l5_184)] := by rw [el3_184, el4_184, el5_184, el6_184, el7_184]; exact hl
    obtain ⟨z184, ez184⟩ : ∃ z : List Value, z = z179 := ⟨_, rfl⟩
    have hfh_184_100 : z184[100]? = some (.ref qf100) := by rw [ez184]; exact hfh_179_100
    have hfh_184_102 : z184[102]? = some (.ref qf102) := by rw [ez184]; exact hfh_179_102
    have hfh_184_104 : z184[104]? = some (.ref qf104) := by rw [ez184]; exact hfh_179_104
    have hlh_184 : z184.length = 155 := by rw [ez184]; exact hlh_179
    have hrh_184 : ∀ j : Nat, z184[j]? = zs[j]? := by rw [ez184]; exact hrh_179
    replace hP : va_P (dC, dI) vwCl [(h0, .inr (13, z184)), (qf104, .inl (cf104, 8, .inl f104)), (qf102, .inl (cf102, 2048, .inl f102)), (qf100, .inl (cf100, 48000, .inl f100))] H := by rw [ez184]; exact hP
    replace hD : va_D A [(h0, .inr (13, z184)), (qf104, .inl (cf104, 8, .inl f104)), (qf102, .inl (cf102, 2048, .inl f102)), (qf100, .inl (cf100, 48000, .inl f100))] := by rw [ez184]; exact hD
    clear hn_184 ez184 el3_184 el4_184 el5_184 el6_184 el7_184
    try clear hlo
    try clear hH
    revert hsp
    revert hP
    revert hD
    revert hS
    revert hl
    revert hrh_184
    revert hlh_184
    revert hfh_184_104
    revert hfh_184_102
    revert hfh_184_100
    revert l7_184
    revert l6_184
    revert l5_184
    revert l4_184
    revert l3_184
    revert z184
    revert ls
    revert locs
    revert H
    induction n_184 with
    | zero => intro H locs ls z184 l3_184 l4_184 l5_184 l6_184 l7_184 hfh_184_100 hfh_184_102 hfh_184_104 hlh_184 hrh_184 hl hS hD hP hsp; unfold lp_vm_isNamedB_184 at hsp; cases hsp
    | succ n_184 ih_184 =>
      intro H locs ls z184 l3_184 l4_184 l5_184 l6_184 l7_184 hfh_184_100 hfh_184_102 hfh_184_104 hlh_184 hrh_184 hl hS hD hP hsp
      unfold lp_vm_isNamedB_184 at hsp
      try dsimp only at hsp
      refine lv_iload hx hb dX13_isNamed_184 (lv_at hl 0 rfl) ?_
      refine lv_iload hx hb dX13_isNamed_186 (lv_at hl 5 rfl) ?_
      refine lv_icmp_ge (tgt := 230) hx hb dX13_isNamed_188 (by decide) (fun c_22 => ?_) (fun c_22 => ?_)
      · rw [if_pos c_22] at hsp
        refine lv_iload hx hb dX13_isNamed_230 (lv_at hl 1 rfl) ?_
        rcases ox_01 hsp with ⟨rfl, hsp⟩ | ⟨rfl, hsp⟩
        · skip
          have hr0 := Option.some.inj hsp
          clear hsp
          subst hr0
          have hP9 := hP.sub (ws' := [(h0, .inr (13, z184)), (qf104, .inl (cf104, 8, .inl f104)), (qf102, .inl (cf102, 2048, .inl f102)), (qf100, .inl (cf100, 48000, .inl f100))]) [0, 1, 2, 3] rfl
          have hD9 := hD.sub (ws' := [(h0, .inr (13, z184)), (qf104, .inl (cf104, 8, .inl f104)), (qf102, .inl (cf102, 2048, .inl f102)), (qf100, .inl (cf100, 48000, .inl f100))]) [0, 1, 2, 3] (by decide) rfl
          have hK9 := hK.sub (tys' := [(cf104, .int), (cf102, .int), (cf100, .int)]) [0, 1, 2] rfl
          exact W.zret hx hb hr (by decide) (fun t ht hW => ⟨⟨(0), (z184), rfl, ⟨⟨rfl, Or.inl rfl⟩, hlh_184, hrh_184⟩, by rw [ht]; exact hP9, va_K.moved hW.alike hK9, hD9⟩, hS.F ht⟩) hS.2.2 dX13_isNamed_232
        · skip
          have hr0 := Option.some.inj hsp
          clear hsp
          subst hr0
          have hP9 := hP.sub (ws' := [(h0, .inr (13, z184)), (qf104, .inl (cf104, 8, .inl f104)), (qf102, .inl (cf102, 2048, .inl f102)), (qf100, .inl (cf100, 48000, .inl f100))]) [0, 1, 2, 3] rfl
          have hD9 := hD.sub (ws' := [(h0, .inr (13, z184)), (qf104, .inl (cf104, 8, .inl f104)), (qf102, .inl (cf102, 2048, .inl f102)), (qf100, .inl (cf100, 48000, .inl f100))]) [0, 1, 2, 3] (by decide) rfl
          have hK9 := hK.sub (tys' := [(cf104, .int), (cf102, .int), (cf100, .int)]) [0, 1, 2] rfl
          exact W.zret hx hb hr (by decide) (fun t ht hW => ⟨⟨(1), (z184), rfl, ⟨⟨rfl, Or.inr rfl⟩, hlh_184, hrh_184⟩, by rw [ht]; exact hP9, va_K.moved hW.alike hK9, hD9⟩, hS.F ht⟩) hS.2.2 dX13_isNamed_232
      · rw [if_neg c_22] at hsp
        refine lv_iload hx hb dX13_isNamed_191 (lv_at hl 1 rfl) ?_
        refine lv_if_eq (tgt := 230) hx hb dX13_isNamed_193 (by decide) (fun c_23 => ?_) (fun c_23 => ?_)
        · rw [if_pos c_23] at hsp
          refine lv_iload hx hb dX13_isNamed_230 (lv_at hl 1 rfl) ?_
          rcases ox_01 hsp with ⟨rfl, hsp⟩ | ⟨rfl, hsp⟩
          · skip
            have hr0 := Option.some.inj hsp
            clear hsp
            subst hr0
            have hP9 := hP.sub (ws' := [(h0, .inr (13, z184)), (qf104, .inl (cf104, 8, .inl f104)), (qf102, .inl (cf102, 2048, .inl f102)), (qf100, .inl (cf100, 48000, .inl f100))]) [0, 1, 2, 3] rfl
            have hD9 := hD.sub (ws' := [(h0, .inr (13, z184)), (qf104, .inl (cf104, 8, .inl f104)), (qf102, .inl (cf102, 2048, .inl f102)), (qf100, .inl (cf100, 48000, .inl f100))]) [0, 1, 2, 3] (by decide) rfl
            have hK9 := hK.sub (tys' := [(cf104, .int), (cf102, .int), (cf100, .int)]) [0, 1, 2] rfl
            exact W.zret hx hb hr (by decide) (fun t ht hW => ⟨⟨(0), (z184), rfl, ⟨⟨rfl, Or.inl rfl⟩, hlh_184, hrh_184⟩, by rw [ht]; exact hP9, va_K.moved hW.alike hK9, hD9⟩, hS.F ht⟩) hS.2.2 dX13_isNamed_232
          · skip
            have hr0 := Option.some.inj hsp
            clear hsp
            subst hr0
            have hP9 := hP.sub (ws' := [(h0, .inr (13, z184)), (qf104, .inl (cf104, 8, .inl f104)), (qf102, .inl (cf102, 2048, .inl f102)), (qf100, .inl (cf100, 48000, .inl f100))]) [0, 1, 2, 3] rfl
            have hD9 := hD.sub (ws' := [(h0, .inr (13, z184)), (qf104, .inl (cf104, 8, .inl f104)), (qf102, .inl (cf102, 2048, .inl f102)), (qf100, .inl (cf100, 48000, .inl f100))]) [0, 1, 2, 3] (by decide) rfl
            have hK9 := hK.sub (tys' := [(cf104, .int), (cf102, .int), (cf100, .int)]) [0, 1, 2] rfl
            exact W.zret hx hb hr (by decide) (fun t ht hW => ⟨⟨(1), (z184), rfl, ⟨⟨rfl, Or.inr rfl⟩, hlh_184, hrh_184⟩, by rw [ht]; exact hP9, va_K.moved hW.alike hK9, hD9⟩, hS.F ht⟩) hS.2.2 dX13_isNamed_232
        · rw [if_neg c_23] at hsp
          refine lv_aload_n hx hb dX13_isNamed_196 rfl (lv_at hl 2 rfl) ?_
          refine va_get (D := (dC, dI)) (ci := 13) (v := .ref qf100) (C := RX13) (T := TX13) (N := 155) hx hb hts uV_h9_X13 hown hK hP 0 rfl rfl 100 (by decide) (hts (.fieldLink RX13 209 "ClassMillModel" "bytes" "[I") mw_h9_266) (fun _ h9 => h9) hfh_184_100 dX13_isNamed_197 ?_
          refine lv_iload hx hb dX13_isNamed_200 (lv_at hl 6 rfl) ?_
          refine lv_iconst (v := 1) hx hb dX13_isNamed_202 (by decide) ?_
          refine lv_iadd hx hb dX13_isNamed_203 ?_
          refine lv_iload hx hb dX13_isNamed_204 (lv_at hl 0 rfl) ?_
          refine lv_iadd hx hb dX13_isNamed_206 ?_
          obtain ⟨hi_24, hsp⟩ := ox_in hsp
          refine va_iald hx hb hK hP 3 2 rfl rfl (i := ((l5_184 + 1) + l7_184)) hi_24 dX13_isNamed_207 ?_
          refine lv_aload_n hx hb dX13_isNamed_208 rfl (lv_at hl 3 rfl) ?_
          refine lv_iload_n hx hb dX13_isNamed_209 rfl (lv_at hl 4 rfl) ?_
          refine lv_iload hx hb dX13_isNamed_210 (lv_at hl 0 rfl) ?_
          refine lv_iadd hx hb dX13_isNamed_212 ?_
          obtain ⟨hi_25, hsp⟩ := ox_in hsp
          refine va_iald hx hb hK hP 3 2 rfl rfl (i := (l3_184 + l7_184)) hi_25 dX13_isNamed_213 ?_
          refine lv_icmp_ne (tgt := 221) hx hb dX13_isNamed_214 (by decide) (fun c_26 => ?_) (fun c_26 => ?_)
          · rw [if_neg c_26] at hsp
            refine lv_iconst (v := 0) hx hb dX13_isNamed_221 (by decide) ?_
            refine lv_istore (lv' := [(6, .int 0), (7, .int l7_184), (0, .ref h0), (2, .ref qf100), (3, .int l3_184), (4, .int l4_184), (5, .int l5_184)]) hx hb dX13_isNamed_222 hl (by decide) rfl (fun ls hl => ?_)
            refine lv_iinc (v := (l7_184 + 1)) (lv' := [(7, .int (l7_184 + 1)), (6, .int 0), (0, .ref h0), (2, .ref qf100), (3, .int l3_184), (4, .int l4_184), (5, .int l5_184)]) hx hb dX13_isNamed_224 hl (k := 1) rfl rfl (by decide) rfl (fun ls hl => ?_)
            refine lv_goto (tgt := 184) hx hb dX13_isNamed_227 (by decide) ?_
            exact ih_184 H locs ls z184 l3_184 l4_184 l5_184 0 (l7_184 + 1) (hfh_184_100) (hfh_184_102) (hfh_184_104) hlh_184 hrh_184 (lv_sub hl [0, 1, 2, 3, 4, 5, 6] rfl) hS (hD.sub (ws' := [(h0, .inr (13, z184)), (qf104, .inl (cf104, 8, .inl f104)), (qf102, .inl (cf102, 2048, .inl f102)), (qf100, .inl (cf100, 48000, .inl f100))]) [0, 1, 2, 3] (by decide) rfl) (hP.sub (ws' := [(h0, .inr (13, z184)), (qf104, .inl (cf104, 8, .inl f104)), (qf102, .inl (cf102, 2048, .inl f102)), (qf100, .inl (cf100, 48000, .inl f100))]) [0, 1, 2, 3] rfl) hsp
          · rw [if_pos c_26] at hsp
            refine lv_iconst (v := 1) hx hb dX13_isNamed_217 (by decide) ?_
            refine lv_goto (tgt := 222) hx hb dX13_isNamed_218 (by decide) ?_
            refine lv_istore (lv' := [(6, .int 1), (7, .int l7_184), (0, .ref h0), (2, .ref qf100), (3, .int l3_184), (4, .int l4_184), (5, .int l5_184)]) hx hb dX13_isNamed_222 hl (by decide) rfl (fun ls hl => ?_)
            refine lv_iinc (v := (l7_184 + 1)) (lv' := [(7, .int (l7_184 + 1)), (6, .int 1), (0, .ref h0), (2, .ref qf100), (3, .int l3_184), (4, .int l4_184), (5, .int l5_184)]) hx hb dX13_isNamed_224 hl (k := 1) rfl rfl (by decide) rfl (fun ls hl => ?_)
            refine lv_goto (tgt := 184) hx hb dX13_isNamed_227 (by decide) ?_
            exact ih_184 H locs ls z184 l3_184 l4_184 l5_184 1 (l7_184 + 1) (hfh_184_100) (hfh_184_102) (hfh_184_104) hlh_184 hrh_184 (lv_sub hl [0, 1, 2, 3, 4, 5, 6] rfl) hS (hD.sub (ws' := [(h0, .inr (13, z184)), (qf104, .inl (cf104, 8, .inl f104)), (qf102, .inl (cf102, 2048, .inl f102)), (qf100, .inl (cf100, 48000, .inl f100))]) [0, 1, 2, 3] (by decide) rfl) (hP.sub (ws' := [(h0, .inr (13, z184)), (qf104, .inl (cf104, 8, .inl f104)), (qf102, .inl (cf102, 2048, .inl f102)), (qf100, .inl (cf100, 48000, .inl f100))]) [0, 1, 2, 3] rfl) hsp
  intro hj_179
  refine jn_use (α := Heap × List Loc × Array Slot × List Value × Int32 × Int32 × Int32 × Int32) (fun x9 => x9.1) (fun x9 => x9.2.1) (fun x9 => F0 m 92 x9.2.2.1 [.int (x9.2.2.2.2.2.2.2)]) (fun x9 => match x9 with | (H, locs, ls, z92, l3_92, l4_92, l6_92, s0_92) => lv_has ls 9 [(2, .ref qf100), (3, .int l3_92), (4, .int l4_92), (6, .int l6_92)] ∧ va_S A s.heap H locs ∧ va_D A [(h0, .inr (13, z92)), (qf104, .inl (cf104, 8, .inl f104)), (qf102, .inl (cf102, 2048, .inl f102)), (qf100, .inl (cf100, 48000, .inl f100))] ∧ va_P (dC, dI) vwCl [(h0, .inr (13, z92)), (qf104, .inl (cf104, 8, .inl f104)), (qf102, .inl (cf102, 2048, .inl f102)), (qf100, .inl (cf100, 48000, .inl f100))] H ∧ z92[100]? = some (.ref qf100) ∧ z92[102]? = some (.ref qf102) ∧ z92[104]? = some (.ref qf104) ∧ z92.length = 155 ∧ (∀ j : Nat, z92[j]? = zs[j]?) ∧ jn_vm_isNamedB_92 nf a1 a3 a4 f104 f102 f100 nS477 fS477 l3_92 l4_92 l6_92 s0_92 = some r0) ?_ ?_
  · intro x9 hJ9
    obtain ⟨H, locs, ls, z92, l3_92, l4_92, l6_92, s0_92⟩ := x9
    obtain ⟨hl, hS, hD, hP, hfh_92_100, hfh_92_102, hfh_92_104, hlh_92, hrh_92, hsp⟩ := hJ9
    replace hl : lv_has ls 9 [(2, .ref qf100), (3, .int l3_92), (4, .int l4_92), (6, .int l6_92)] := hl
    replace hS : va_S A s.heap H locs := hS
    replace hD : va_D A [(h0, .inr (13, z92)), (qf104, .inl (cf104, 8, .inl f104)), (qf102, .inl (cf102, 2048, .inl f102)), (qf100, .inl (cf100, 48000, .inl f100))] := hD
    replace hP : va_P (dC, dI) vwCl [(h0, .inr (13, z92)), (qf104, .inl (cf104, 8, .inl f104)), (qf102, .inl (cf102, 2048, .inl f102)), (qf100, .inl (cf100, 48000, .inl f100))] H := hP
    replace hsp : jn_vm_isNamedB_92 nf a1 a3 a4 f104 f102 f100 nS477 fS477 l3_92 l4_92 l6_92 s0_92 = some r0 := hsp
    show W _ _ _ _ _ _ _ _ _ _ H locs _ _ _ (F0 m 92 ls [.int s0_92])
    unfold jn_vm_isNamedB_92 at hsp
    try dsimp only at hsp
    refine lv_istore (lv' := [(7, .int s0_92), (2, .ref qf100), (3, .int l3_92), (4, .int l4_92), (6, .int l6_92)]) hx hb dX13_isNamed_92 hl (by decide) rfl (fun ls hl => ?_)
    refine lv_iconst (v := 0) hx hb dX13_isNamed_94 (by decide) ?_
    refine lv_istore (lv' := [(8, .int 0), (7, .int s0_92), (2, .ref qf100), (3, .int l3_92), (4, .int l4_92), (6, .int l6_92)]) hx hb dX13_isNamed_95 hl (by decide) rfl (fun ls hl => ?_)
    replace hl : lv_has ls 9 [(8, .int 0), (7, .int s0_92), (2, .ref qf100), (3, .int l3_92), (4, .int l4_92), (6, .int l6_92)] := lv_sub hl [0, 1, 2, 3, 4, 5] rfl
    replace hP := hP.sub (ws' := [(h0, .inr (13, z92)), (qf104, .inl (cf104, 8, .inl f104)), (qf102, .inl (cf102, 2048, .inl f102)), (qf100, .inl (cf100, 48000, .inl f100))]) [0, 1, 2, 3] rfl
    replace hD := hD.sub (ws' := [(h0, .inr (13, z92)), (qf104, .inl (cf104, 8, .inl f104)), (qf102, .inl (cf102, 2048, .inl f102)), (qf100, .inl (cf100, 48000, .inl f100))]) [0, 1, 2, 3] (by decide) rfl
    replace hK := hK.sub (tys' := [(cf104, .int), (cf102, .int), (cf100, .int)]) [0, 1, 2] rfl
    obtain ⟨n_97, hn_97⟩ : ∃ z : Nat, z = nf := ⟨_, rfl⟩
    obtain ⟨l3_97, el3_97⟩ : ∃ z : Int32, z = l3_92 := ⟨_, rfl⟩
    obtain ⟨l4_97, el4_97⟩ : ∃ z : Int32, z = l4_92 := ⟨_, rfl⟩
    obtain ⟨l6_97, el6_97⟩ : ∃ z : Int32, z = l6_92 := ⟨_, rfl⟩
    obtain ⟨l7_97, el7_97⟩ : ∃ z : Int32, z = s0_92 := ⟨_, rfl⟩
    obtain ⟨l8_97, el8_97⟩ : ∃ z : Int32, z = 0 := ⟨_, rfl⟩
    replace hsp : lp_vm_isNamedB_97 nf n_97 a1 a3 a4 f104 f102 f100 nS477 fS477 l3_97 l4_97 l6_97 l7_97 l8_97 = some r0 := by rw [hn_97, el3_97, el4_97, el6_97, el7_97, el8_97]; exact hsp
    replace hl : lv_has ls 9 [(8, .int l8_97), (7, .int l7_97), (2, .ref qf100), (3, .int l3_97), (4, .int l4_97), (6, .int l6_97)] := by rw [el3_97, el4_97, el6_97, el7_97, el8_97]; exact hl
    obtain ⟨z97, ez97⟩ : ∃ z : List Value, z = z92 := ⟨_, rfl⟩
    have hfh_97_100 : z97[100]? = some (.ref qf100) := by rw [ez97]; exact hfh_92_100
    have hfh_97_102 : z97[102]? = some (.ref qf102) := by rw [ez97]; exact hfh_92_102
    have hfh_97_104 : z97[104]? = some (.ref qf104) := by rw [ez97]; exact hfh_92_104
    have hlh_97 : z97.length = 155 := by rw [ez97]; exact hlh_92
    have hrh_97 : ∀ j : Nat, z97[j]? = zs[j]? := by rw [ez97]; exact hrh_92
    replace hP : va_P (dC, dI) vwCl [(h0, .inr (13, z97)), (qf104, .inl (cf104, 8, .inl f104)), (qf102, .inl (cf102, 2048, .inl f102)), (qf100, .inl (cf100, 48000, .inl f100))] H := by rw [ez97]; exact hP
    replace hD : va_D A [(h0, .inr (13, z97)), (qf104, .inl (cf104, 8, .inl f104)), (qf102, .inl (cf102, 2048, .inl f102)), (qf100, .inl (cf100, 48000, .inl f100))] := by rw [ez97]; exact hD
    clear hn_97 ez97 el3_97 el4_97 el6_97 el7_97 el8_97
    try clear hlo
    try clear hH
    revert hsp
    revert hP
    revert hD
    revert hS
    revert hl
    revert hrh_97
    revert hlh_97
    revert hfh_97_104
    revert hfh_97_102
    revert hfh_97_100
    revert l8_97
    revert l7_97
    revert l6_97
    revert l4_97
    revert l3_97
    revert z97
    revert ls
    revert locs
    revert H
    induction n_97 with
    | zero => intro H locs ls z97 l3_97 l4_97 l6_97 l7_97 l8_97 hfh_97_100 hfh_97_102 hfh_97_104 hlh_97 hrh_97 hl hS hD hP hsp; unfold lp_vm_isNamedB_97 at hsp; cases hsp
    | succ n_97 ih_97 =>
      intro H locs ls z97 l3_97 l4_97 l6_97 l7_97 l8_97 hfh_97_100 hfh_97_102 hfh_97_104 hlh_97 hrh_97 hl hS hD hP hsp
      unfold lp_vm_isNamedB_97 at hsp
      try dsimp only at hsp
      refine lv_iload hx hb dX13_isNamed_97 (lv_at hl 0 rfl) ?_
      refine lv_iload hx hb dX13_isNamed_99 (lv_at hl 4 rfl) ?_
      refine lv_icmp_ge (tgt := 144) hx hb dX13_isNamed_101 (by decide) (fun c_16 => ?_) (fun c_16 => ?_)
      · rw [if_pos c_16] at hsp
        refine lv_iload hx hb dX13_isNamed_144 (lv_at hl 1 rfl) ?_
        rcases ox_01 hsp with ⟨rfl, hsp⟩ | ⟨rfl, hsp⟩
        · skip
          have hr0 := Option.some.inj hsp
          clear hsp
          subst hr0
          have hP9 := hP.sub (ws' := [(h0, .inr (13, z97)), (qf104, .inl (cf104, 8, .inl f104)), (qf102, .inl (cf102, 2048, .inl f102)), (qf100, .inl (cf100, 48000, .inl f100))]) [0, 1, 2, 3] rfl
          have hD9 := hD.sub (ws' := [(h0, .inr (13, z97)), (qf104, .inl (cf104, 8, .inl f104)), (qf102, .inl (cf102, 2048, .inl f102)), (qf100, .inl (cf100, 48000, .inl f100))]) [0, 1, 2, 3] (by decide) rfl
          have hK9 := hK.sub (tys' := [(cf104, .int), (cf102, .int), (cf100, .int)]) [0, 1, 2] rfl
          exact W.zret hx hb hr (by decide) (fun t ht hW => ⟨⟨(0), (z97), rfl, ⟨⟨rfl, Or.inl rfl⟩, hlh_97, hrh_97⟩, by rw [ht]; exact hP9, va_K.moved hW.alike hK9, hD9⟩, hS.F ht⟩) hS.2.2 dX13_isNamed_146
        · skip
          have hr0 := Option.some.inj hsp
          clear hsp
          subst hr0
          have hP9 := hP.sub (ws' := [(h0, .inr (13, z97)), (qf104, .inl (cf104, 8, .inl f104)), (qf102, .inl (cf102, 2048, .inl f102)), (qf100, .inl (cf100, 48000, .inl f100))]) [0, 1, 2, 3] rfl
          have hD9 := hD.sub (ws' := [(h0, .inr (13, z97)), (qf104, .inl (cf104, 8, .inl f104)), (qf102, .inl (cf102, 2048, .inl f102)), (qf100, .inl (cf100, 48000, .inl f100))]) [0, 1, 2, 3] (by decide) rfl
          have hK9 := hK.sub (tys' := [(cf104, .int), (cf102, .int), (cf100, .int)]) [0, 1, 2] rfl
          exact W.zret hx hb hr (by decide) (fun t ht hW => ⟨⟨(1), (z97), rfl, ⟨⟨rfl, Or.inr rfl⟩, hlh_97, hrh_97⟩, by rw [ht]; exact hP9, va_K.moved hW.alike hK9, hD9⟩, hS.F ht⟩) hS.2.2 dX13_isNamed_146
      · rw [if_neg c_16] at hsp
        refine lv_iload hx hb dX13_isNamed_104 (lv_at hl 1 rfl) ?_
        refine lv_if_eq (tgt := 144) hx hb dX13_isNamed_106 (by decide) (fun c_17 => ?_) (fun c_17 => ?_)
        · rw [if_pos c_17] at hsp
          refine lv_iload hx hb dX13_isNamed_144 (lv_at hl 1 rfl) ?_
          rcases ox_01 hsp with ⟨rfl, hsp⟩ | ⟨rfl, hsp⟩
          · skip
            have hr0 := Option.some.inj hsp
            clear hsp
            subst hr0
            have hP9 := hP.sub (ws' := [(h0, .inr (13, z97)), (qf104, .inl (cf104, 8, .inl f104)), (qf102, .inl (cf102, 2048, .inl f102)), (qf100, .inl (cf100, 48000, .inl f100))]) [0, 1, 2, 3] rfl
            have hD9 := hD.sub (ws' := [(h0, .inr (13, z97)), (qf104, .inl (cf104, 8, .inl f104)), (qf102, .inl (cf102, 2048, .inl f102)), (qf100, .inl (cf100, 48000, .inl f100))]) [0, 1, 2, 3] (by decide) rfl
            have hK9 := hK.sub (tys' := [(cf104, .int), (cf102, .int), (cf100, .int)]) [0, 1, 2] rfl
            exact W.zret hx hb hr (by decide) (fun t ht hW => ⟨⟨(0), (z97), rfl, ⟨⟨rfl, Or.inl rfl⟩, hlh_97, hrh_97⟩, by rw [ht]; exact hP9, va_K.moved hW.alike hK9, hD9⟩, hS.F ht⟩) hS.2.2 dX13_isNamed_146
          · skip
            have hr0 := Option.some.inj hsp
            clear hsp
            subst hr0
            have hP9 := hP.sub (ws' := [(h0, .inr (13, z97)), (qf104, .inl (cf104, 8, .inl f104)), (qf102, .inl (cf102, 2048, .inl f102)), (qf100, .inl (cf100, 48000, .inl f100))]) [0, 1, 2, 3] rfl
            have hD9 := hD.sub (ws' := [(h0, .inr (13, z97)), (qf104, .inl (cf104, 8, .inl f104)), (qf102, .inl (cf102, 2048, .inl f102)), (qf100, .inl (cf100, 48000, .inl f100))]) [0, 1, 2, 3] (by decide) rfl
            have hK9 := hK.sub (tys' := [(cf104, .int), (cf102, .int), (cf100, .int)]) [0, 1, 2] rfl
            exact W.zret hx hb hr (by decide) (fun t ht hW => ⟨⟨(1), (z97), rfl, ⟨⟨rfl, Or.inr rfl⟩, hlh_97, hrh_97⟩, by rw [ht]; exact hP9, va_K.moved hW.alike hK9, hD9⟩, hS.F ht⟩) hS.2.2 dX13_isNamed_146
        · rw [if_neg c_17] at hsp
          refine pw_ldcwS hx hb hown hZRS477 dX13_isNamed_109 ?_
          refine lv_iload hx hb dX13_isNamed_112 (lv_at hl 5 rfl) ?_
          refine lv_iconst (v := 1) hx hb dX13_isNamed_114 (by decide) ?_
          refine lv_iadd hx hb dX13_isNamed_115 ?_
          refine lv_iload hx hb dX13_isNamed_116 (lv_at hl 0 rfl) ?_
          refine lv_iadd hx hb dX13_isNamed_118 ?_
          obtain ⟨⟨hk_18j, hk_181, hk_182, hk_183, hk_184⟩, hsp⟩ := ox_ch hsp
          rw [hk_181]
          have hPc := hP.sub (ws' := []) [] rfl
          have hDc := hD.sub (ws' := []) [] (by decide) rfl
          have hKc := hK.sub (tys' := []) [] rfl
          have hFc := va_free (wc := []) hD hS hA [] rfl
          refine va_calli (va_runV (As := [.int (nI hk_18j)]) (rest := []) ⟨hx, hb, hml, hown, hts⟩ (ct_charAt l dC dI H.size nS477 fS477 hS477 qS477 hk_18j hk_183 hk_184) (cwV 1 hts gv_h9_1 rfl rfl rfl (by decide +kernel) ⟨Nat.le_of_ble_eq_true rfl, Nat.le_of_ble_eq_true rfl⟩) ⟨fun a U g mk q => by obtain ⟨q0, q1, qP, qK, qD, qhZW⟩ := q; exact ⟨q0, q1, qP, va_K.moved (u := U) (U := U.calling g mk a) (Vm.Alike.refl U.vm) qK, qD, pz_W.moved (u := U) (U := U.calling g mk a) (Vm.Alike.refl U.vm) qhZW⟩, pz_recv hZWS477 hS, fun U hU hW => ⟨rfl, by rw [hU], by rw [hU]; exact hPc, va_K.moved hW.alike hKc, hDc.weaken (fun _ _ _ _ => trivial), by rw [hU]; exact ((pz_W.moved hW.alike hZWS477).kept hS.2.1).narrow hFc⟩⟩ rfl rfl hl.1 rfl (lv_room (Nat.le_of_ble_eq_true rfl)) dX13_isNamed_119 ⟨Nat.le_of_ble_eq_true rfl, Nat.le_of_ble_eq_true rfl⟩) hS (fun q _ h => hFc q h) hFc ?_
          clear hS
          intro r_19 u t H1 locs ht hvm hw hB hz1 hk1 hS
          obtain ⟨⟩ := u
          obtain ⟨hP1, hK1, hD1⟩ := hB
          rw [ht] at hP1
          try dsimp only at hw
          have hPD := va_join (wr := [(h0, .inr (13, z97)), (qf104, .inl (cf104, 8, .inl f104)), (qf102, .inl (cf102, 2048, .inl f102)), (qf100, .inl (cf100, 48000, .inl f100))]) (w1 := []) hP hD [] [0, 1, 2, 3] rfl rfl (by decide) (by decide) hk1 hFc hP1 hD1
          clear hP hD
          obtain ⟨hP, hD⟩ := hPD
          clear hPc hDc hKc hFc hP1 hK1 hD1 hz1 hk1 ht hvm
          generalize H1 = H at hP hS ⊢
          replace hP : va_P (dC, dI) vwCl [(h0, .inr (13, z97)), (qf104, .inl (cf104, 8, .inl f104)), (qf102, .inl (cf102, 2048, .inl f102)), (qf100, .inl (cf100, 48000, .inl f100))] H := hP
          replace hD : va_D A [(h0, .inr (13, z97)), (qf104, .inl (cf104, 8, .inl f104)), (qf102, .inl (cf102, 2048, .inl f102)), (qf100, .inl (cf100, 48000, .inl f100))] := hD
          obtain rfl : r_19 = (((fS477 (((l6_97 + 1) + l8_97) : Int32).toNatClampNeg) &&& 255).toUInt32 % 65536).toInt32 := by rw [hk_182]; exact hw
          refine lv_aload_n hx hb dX13_isNamed_122 rfl (lv_at hl 2 rfl) ?_
          refine lv_iload_n hx hb dX13_isNamed_123 rfl (lv_at hl 3 rfl) ?_
          refine lv_iload hx hb dX13_isNamed_124 (lv_at hl 0 rfl) ?_
          refine lv_iadd hx hb dX13_isNamed_126 ?_
          obtain ⟨hi_20, hsp⟩ := ox_in hsp
          refine va_iald hx hb hK hP 3 2 rfl rfl (i := (l3_97 + l8_97)) hi_20 dX13_isNamed_127 ?_
          refine lv_icmp_ne (tgt := 135) hx hb dX13_isNamed_128 (by decide) (fun c_21 => ?_) (fun c_21 => ?_)
          · rw [if_neg c_21] at hsp
            refine lv_iconst (v := 0) hx hb dX13_isNamed_135 (by decide) ?_
            refine lv_istore (lv' := [(7, .int 0), (8, .int l8_97), (2, .ref qf100), (3, .int l3_97), (4, .int l4_97), (6, .int l6_97)]) hx hb dX13_isNamed_136 hl (by decide) rfl (fun ls hl => ?_)
            refine lv_iinc (v := (l8_97 + 1)) (lv' := [(8, .int (l8_97 + 1)), (7, .int 0), (2, .ref qf100), (3, .int l3_97), (4, .int l4_97), (6, .int l6_97)]) hx hb dX13_isNamed_138 hl (k := 1) rfl rfl (by decide) rfl (fun ls hl => ?_)
            refine lv_goto (tgt := 97) hx hb dX13_isNamed_141 (by decide) ?_
            exact ih_97 H locs ls z97 l3_97 l4_97 l6_97 0 (l8_97 + 1) (hfh_97_100) (hfh_97_102) (hfh_97_104) hlh_97 hrh_97 (lv_sub hl [0, 1, 2, 3, 4, 5] rfl) hS (hD.sub (ws' := [(h0, .inr (13, z97)), (qf104, .inl (cf104, 8, .inl f104)), (qf102, .inl (cf102, 2048, .inl f102)), (qf100, .inl (cf100, 48000, .inl f100))]) [0, 1, 2, 3] (by decide) rfl) (hP.sub (ws' := [(h0, .inr (13, z97)), (qf104, .inl (cf104, 8, .inl f104)), (qf102, .inl (cf102, 2048, .inl f102)), (qf100, .inl (cf100, 48000, .inl f100))]) [0, 1, 2, 3] rfl) hsp
          · rw [if_pos c_21] at hsp
            refine lv_iconst (v := 1) hx hb dX13_isNamed_131 (by decide) ?_
            refine lv_goto (tgt := 136) hx hb dX13_isNamed_132 (by decide) ?_
            refine lv_istore (lv' := [(7, .int 1), (8, .int l8_97), (2, .ref qf100), (3, .int l3_97), (4, .int l4_97), (6, .int l6_97)]) hx hb dX13_isNamed_136 hl (by decide) rfl (fun ls hl => ?_)
            refine lv_iinc (v := (l8_97 + 1)) (lv' := [(8, .int (l8_97 + 1)), (7, .int 1), (2, .ref qf100), (3, .int l3_97), (4, .int l4_97), (6, .int l6_97)]) hx hb dX13_isNamed_138 hl (k := 1) rfl rfl (by decide) rfl (fun ls hl => ?_)
            refine lv_goto (tgt := 97) hx hb dX13_isNamed_141 (by decide) ?_
            exact ih_97 H locs ls z97 l3_97 l4_97 l6_97 1 (l8_97 + 1) (hfh_97_100) (hfh_97_102) (hfh_97_104) hlh_97 hrh_97 (lv_sub hl [0, 1, 2, 3, 4, 5] rfl) hS (hD.sub (ws' := [(h0, .inr (13, z97)), (qf104, .inl (cf104, 8, .inl f104)), (qf102, .inl (cf102, 2048, .inl f102)), (qf100, .inl (cf100, 48000, .inl f100))]) [0, 1, 2, 3] (by decide) rfl) (hP.sub (ws' := [(h0, .inr (13, z97)), (qf104, .inl (cf104, 8, .inl f104)), (qf102, .inl (cf102, 2048, .inl f102)), (qf100, .inl (cf100, 48000, .inl f100))]) [0, 1, 2, 3] rfl) hsp
  intro hj_92
  refine jn_use (α := Heap × List Loc × Array Slot × List Value × Int32 × Int32 × Int32) (fun x9 => x9.1) (fun x9 => x9.2.1) (fun x9 => F0 m 91 x9.2.2.1 []) (fun x9 => match x9 with | (H, locs, ls, z91, l3_91, l4_91, l6_91) => lv_has ls 9 [(2, .ref qf100), (3, .int l3_91), (4, .int l4_91), (6, .int l6_91)] ∧ va_S A s.heap H locs ∧ va_D A [(h0, .inr (13, z91)), (qf104, .inl (cf104, 8, .inl f104)), (qf102, .inl (cf102, 2048, .inl f102)), (qf100, .inl (cf100, 48000, .inl f100))] ∧ va_P (dC, dI) vwCl [(h0, .inr (13, z91)), (qf104, .inl (cf104, 8, .inl f104)), (qf102, .inl (cf102, 2048, .inl f102)), (qf100, .inl (cf100, 48000, .inl f100))] H ∧ z91[100]? = some (.ref qf100) ∧ z91[102]? = some (.ref qf102) ∧ z91[104]? = some (.ref qf104) ∧ z91.length = 155 ∧ (∀ j : Nat, z91[j]? = zs[j]?) ∧ jn_vm_isNamedB_91 nf a1 a3 a4 f104 f102 f100 nS477 fS477 l3_91 l4_91 l6_91 = some r0) ?_ ?_
  · intro x9 hJ9
    obtain ⟨H, locs, ls, z91, l3_91, l4_91, l6_91⟩ := x9
    obtain ⟨hl, hS, hD, hP, hfh_91_100, hfh_91_102, hfh_91_104, hlh_91, hrh_91, hsp⟩ := hJ9
    replace hl : lv_has ls 9 [(2, .ref qf100), (3, .int l3_91), (4, .int l4_91), (6, .int l6_91)] := hl
    replace hS : va_S A s.heap H locs := hS
    replace hD : va_D A [(h0, .inr (13, z91)), (qf104, .inl (cf104, 8, .inl f104)), (qf102, .inl (cf102, 2048, .inl f102)), (qf100, .inl (cf100, 48000, .inl f100))] := hD
    replace hP : va_P (dC, dI) vwCl [(h0, .inr (13, z91)), (qf104, .inl (cf104, 8, .inl f104)), (qf102, .inl (cf102, 2048, .inl f102)), (qf100, .inl (cf100, 48000, .inl f100))] H := hP
    replace hsp : jn_vm_isNamedB_91 nf a1 a3 a4 f104 f102 f100 nS477 fS477 l3_91 l4_91 l6_91 = some r0 := hsp
    show W _ _ _ _ _ _ _ _ _ _ H locs _ _ _ (F0 m 91 ls [])
    unfold jn_vm_isNamedB_91 at hsp
    try dsimp only at hsp
    refine lv_iconst (v := 0) hx hb dX13_isNamed_91 (by decide) ?_
    exact hj_92 (H, locs, ls, z91, l3_91, l4_91, l6_91, 0) ⟨lv_sub hl [0, 1, 2, 3] rfl, hS, hD.sub (ws' := [(h0, .inr (13, z91)), (qf104, .inl (cf104, 8, .inl f104)), (qf102, .inl (cf102, 2048, .inl f102)), (qf100, .inl (cf100, 48000, .inl f100))]) [0, 1, 2, 3] (by decide) rfl, hP.sub (ws' := [(h0, .inr (13, z91)), (qf104, .inl (cf104, 8, .inl f104)), (qf102, .inl (cf102, 2048, .inl f102)), (qf100, .inl (cf100, 48000, .inl f100))]) [0, 1, 2, 3] rfl, hfh_91_100, hfh_91_102, hfh_91_104, hlh_91, hrh_91, hsp⟩
  intro hj_91
  refine lv_iload_n hx hb dX13_isNamed_0 rfl (lv_at hl 1 rfl) ?_
  refine lv_bipush (v := 8) hx hb dX13_isNamed_1 (by decide) ?_
  refine lv_icmp_ge (tgt := 155) hx hb dX13_isNamed_3 (by decide) (fun c_1 => ?_) (fun c_1 => ?_)
  · rw [if_pos c_1] at hsp
    refine lv_aload_n hx hb dX13_isNamed_155 rfl (lv_at hl 0 rfl) ?_
    refine lv_iload_n hx hb dX13_isNamed_156 rfl (lv_at hl 1 rfl) ?_
    obtain ⟨u1_0, hu_1, hsp⟩ := ox_bind hsp
    try dsimp only at hsp
    have hPc := hP.sub (ws' := [(h0, .inr (13, zs)), (qf104, .inl (cf104, 8, .inl f104)), (qf102, .inl (cf102, 2048, .inl f102)), (qf100, .inl (cf100, 48000, .inl f100))]) [0, 1, 2, 3] rfl
    have hDc := hD.sub (ws' := [(h0, .inr (13, zs)), (qf104, .inl (cf104, 8, .inl f104)), (qf102, .inl (cf102, 2048, .inl f102)), (qf100, .inl (cf100, 48000, .inl f100))]) [0, 1, 2, 3] (by decide) rfl
    have hKc := hK.sub (tys' := [(cf104, .int), (cf102, .int), (cf100, .int)]) [0, 1, 2] rfl
    have hFc := va_free (wc := [(h0, .inr (13, zs)), (qf104, .inl (cf104, 8, .inl f104)), (qf102, .inl (cf102, 2048, .inl f102)), (qf100, .inl (cf100, 48000, .inl f100))]) hD hS hA [0, 1, 2, 3] rfl
    refine va_calli (va_runV (As := [.int a1]) (rest := []) ⟨hx, hb, hml, hown, hts⟩ (tm_nameAt l dC dI H.size h0 zs a1 qf100 qf102 qf104 cf104 f104 cf102 f102 cf100 f100 nf u1_0 hlen hf100 hf102 hf104 hu_1) (cwV 1 hts gv_h9_52 rfl rfl rfl (by decide +kernel) ⟨Nat.le_of_ble_eq_true rfl, Nat.le_of_ble_eq_true rfl⟩) ⟨fun a U g mk q => by obtain ⟨q0, q1, qP, qK, qD⟩ := q; exact ⟨q0, q1, qP, va_K.moved (u := U) (U := U.calling g mk a) (Vm.Alike.refl U.vm) qK, qD⟩, va_recv hKc hPc (ci := 13) (q0 := 0) rfl rfl, fun U hU hW => ⟨rfl, by rw [hU], by rw [hU]; exact hPc, va_K.moved hW.alike hKc, hDc.weaken (fun _ _ _ _ => trivial)⟩⟩ rfl rfl hl.1 rfl (lv_room (Nat.le_of_ble_eq_true rfl)) dX13_isNamed_157 ⟨Nat.le_of_ble_eq_true rfl, Nat.le_of_ble_eq_true rfl⟩) hS (fun q _ h => hFc q h) hFc ?_
    clear hS
    intro r_2 u t H1 locs ht hvm hw hB hz1 hk1 hS
    obtain ⟨z_1, rfl⟩ : ∃ z, z = u := ⟨_, rfl⟩
    obtain ⟨hP1, hK1, hD1⟩ := hB
    rw [ht] at hP1
    have hK1 := va_K.moved hvm.symm hK1
    try dsimp only at hw
    have hPD := va_join (wr := []) (w1 := [(h0, .inr (13, z_1)), (qf104, .inl (cf104, 8, .inl f104)), (qf102, .inl (cf102, 2048, .inl f102)), (qf100, .inl (cf100, 48000, .inl f100))]) hP hD [0, 1, 2, 3] [] rfl rfl (by decide) (by decide) hk1 hFc hP1 hD1
    clear hP hD
    obtain ⟨hP, hD⟩ := hPD
    replace hK := (hK.sub (tys' := []) [] rfl).app hK1
    clear hPc hDc hKc hFc hP1 hK1 hD1 hz1 hk1 ht hvm
    generalize H1 = H at hP hS ⊢
    replace hP : va_P (dC, dI) vwCl [(h0, .inr (13, z_1)), (qf104, .inl (cf104, 8, .inl f104)), (qf102, .inl (cf102, 2048, .inl f102)), (qf100, .inl (cf100, 48000, .inl f100))] H := hP
    replace hD : va_D A [(h0, .inr (13, z_1)), (qf104, .inl (cf104, 8, .inl f104)), (qf102, .inl (cf102, 2048, .inl f102)), (qf100, .inl (cf100, 48000, .inl f100))] := hD
    replace hK : va_K (dC, dI) vwCl [(cf104, .int), (cf102, .int), (cf100, .int)] s := hK
    obtain ⟨hwa_1, hln_1, hre_1⟩ := hw
    have hfk_1_100 : z_1[100]? = some (.ref qf100) := (hre_1 100 ).trans (hf100)
    have hfk_1_102 : z_1[102]? = some (.ref qf102) := (hre_1 102 ).trans (hf102)
    have hfk_1_104 : z_1[104]? = some (.ref qf104) := (hre_1 104 ).trans (hf104)
    have hrq_1 : ∀ j : Nat, z_1[j]? = zs[j]? := fun j  => (hre_1 j ).trans (hrs0 j )
    obtain rfl := hwa_1
    refine lv_istore (lv' := [(5, .int u1_0), (0, .ref h0), (1, .int a1), (2, .ref qf100), (3, .int a3), (4, .int a4)]) hx hb dX13_isNamed_160 hl (by decide) rfl (fun ls hl => ?_)
    refine lv_aload_n hx hb dX13_isNamed_162 rfl (lv_at hl 1 rfl) ?_
    refine va_get (D := (dC, dI)) (ci := 13) (v := .ref qf100) (C := RX13) (T := TX13) (N := 155) hx hb hts uV_h9_X13 hown hK hP 0 rfl rfl 100 (by decide) (hts (.fieldLink RX13 209 "ClassMillModel" "bytes" "[I") mw_h9_266) (fun _ h9 => h9) hfk_1_100 dX13_isNamed_163 ?_
    refine lv_iload hx hb dX13_isNamed_166 (lv_at hl 0 rfl) ?_
    obtain ⟨hi_3, hsp⟩ := ox_in hsp
    refine va_iald hx hb hK hP 3 2 rfl rfl (i := u1_0) hi_3 dX13_isNamed_168 ?_
    refine lv_iload hx hb dX13_isNamed_169 (lv_at hl 5 rfl) ?_
    refine lv_icmp_ne (tgt := 178) hx hb dX13_isNamed_171 (by decide) (fun c_4 => ?_) (fun c_4 => ?_)
    · rw [if_neg c_4] at hsp
      refine lv_iconst (v := 0) hx hb dX13_isNamed_178 (by decide) ?_
      exact hj_179 (H, locs, ls, z_1, a3, a4, u1_0, 0) ⟨lv_sub hl [1, 3, 4, 5, 0] rfl, hS, hD.sub (ws' := [(h0, .inr (13, z_1)), (qf104, .inl (cf104, 8, .inl f104)), (qf102, .inl (cf102, 2048, .inl f102)), (qf100, .inl (cf100, 48000, .inl f100))]) [0, 1, 2, 3] (by decide) rfl, hP.sub (ws' := [(h0, .inr (13, z_1)), (qf104, .inl (cf104, 8, .inl f104)), (qf102, .inl (cf102, 2048, .inl f102)), (qf100, .inl (cf100, 48000, .inl f100))]) [0, 1, 2, 3] rfl, hfk_1_100, hfk_1_102, hfk_1_104, hln_1, hrq_1, hsp⟩
    · rw [if_pos c_4] at hsp
      refine lv_iconst (v := 1) hx hb dX13_isNamed_174 (by decide) ?_
      refine lv_goto (tgt := 179) hx hb dX13_isNamed_175 (by decide) ?_
      exact hj_179 (H, locs, ls, z_1, a3, a4, u1_0, 1) ⟨lv_sub hl [1, 3, 4, 5, 0] rfl, hS, hD.sub (ws' := [(h0, .inr (13, z_1)), (qf104, .inl (cf104, 8, .inl f104)), (qf102, .inl (cf102, 2048, .inl f102)), (qf100, .inl (cf100, 48000, .inl f100))]) [0, 1, 2, 3] (by decide) rfl, hP.sub (ws' := [(h0, .inr (13, z_1)), (qf104, .inl (cf104, 8, .inl f104)), (qf102, .inl (cf102, 2048, .inl f102)), (qf100, .inl (cf100, 48000, .inl f100))]) [0, 1, 2, 3] rfl, hfk_1_100, hfk_1_102, hfk_1_104, hln_1, hrq_1, hsp⟩
  · rw [if_neg c_1] at hsp
    refine lv_iconst (v := (-1)) hx hb dX13_isNamed_6 (by decide) ?_
    refine lv_istore (lv' := [(5, .int (-1)), (0, .ref h0), (1, .int a1), (2, .ref qf100), (3, .int a3), (4, .int a4)]) hx hb dX13_isNamed_7 hl (by decide) rfl (fun ls hl => ?_)
    refine lv_iconst (v := 0) hx hb dX13_isNamed_9 (by decide) ?_
    refine lv_istore (lv' := [(6, .int 0), (5, .int (-1)), (0, .ref h0), (1, .int a1), (2, .ref qf100), (3, .int a3), (4, .int a4)]) hx hb dX13_isNamed_10 hl (by decide) rfl (fun ls hl => ?_)
    replace hl : lv_has ls 9 [(6, .int 0), (5, .int (-1)), (1, .int a1), (2, .ref qf100), (3, .int a3), (4, .int a4)] := lv_sub hl [0, 1, 3, 4, 5, 6] rfl
    replace hP := hP.sub (ws' := [(h0, .inr (13, zs)), (qf104, .inl (cf104, 8, .inl f104)), (qf102, .inl (cf102, 2048, .inl f102)), (qf100, .inl (cf100, 48000, .inl f100))]) [0, 1, 2, 3] rfl
    replace hD := hD.sub (ws' := [(h0, .inr (13, zs)), (qf104, .inl (cf104, 8, .inl f104)), (qf102, .inl (cf102, 2048, .inl f102)), (qf100, .inl (cf100, 48000, .inl f100))]) [0, 1, 2, 3] (by decide) rfl
    replace hK := hK.sub (tys' := [(cf104, .int), (cf102, .int), (cf100, .int)]) [0, 1, 2] rfl
    obtain ⟨n_12, hn_12⟩ : ∃ z : Nat, z = nf := ⟨_, rfl⟩
    obtain ⟨l1_12, el1_12⟩ : ∃ z : Int32, z = a1 := ⟨_, rfl⟩
    obtain ⟨l3_12, el3_12⟩ : ∃ z : Int32, z = a3 := ⟨_, rfl⟩
    obtain ⟨l4_12, el4_12⟩ : ∃ z : Int32, z = a4 := ⟨_, rfl⟩
    obtain ⟨l5_12, el5_12⟩ : ∃ z : Int32, z = (-1) := ⟨_, rfl⟩
    obtain ⟨l6_12, el6_12⟩ : ∃ z : Int32, z = 0 := ⟨_, rfl⟩
    replace hsp : lp_vm_isNamedB_12 nf n_12 a1 a3 a4 f104 f102 f100 nS477 fS477 l1_12 l3_12 l4_12 l5_12 l6_12 = some r0 := by rw [hn_12, el1_12, el3_12, el4_12, el5_12, el6_12]; exact hsp
    replace hl : lv_has ls 9 [(6, .int l6_12), (5, .int l5_12), (1, .int l1_12), (2, .ref qf100), (3, .int l3_12), (4, .int l4_12)] := by rw [el1_12, el3_12, el4_12, el5_12, el6_12]; exact hl
    obtain ⟨z12, ez12⟩ : ∃ z : List Value, z = zs := ⟨_, rfl⟩
    have hfh_12_100 : z12[100]? = some (.ref qf100) := by rw [ez12]; exact hf100
    have hfh_12_102 : z12[102]? = some (.ref qf102) := by rw [ez12]; exact hf102
    have hfh_12_104 : z12[104]? = some (.ref qf104) := by rw [ez12]; exact hf104
    have hlh_12 : z12.length = 155 := by rw [ez12]; exact hlen
    have hrh_12 : ∀ j : Nat, z12[j]? = zs[j]? := by rw [ez12]; exact hrs0
    replace hP : va_P (dC, dI) vwCl [(h0, .inr (13, z12)), (qf104, .inl (cf104, 8, .inl f104)), (qf102, .inl (cf102, 2048, .inl f102)), (qf100, .inl (cf100, 48000, .inl f100))] H := by rw [ez12]; exact hP
    replace hD : va_D A [(h0, .inr (13, z12)), (qf104, .inl (cf104, 8, .inl f104)), (qf102, .inl (cf102, 2048, .inl f102)), (qf100, .inl (cf100, 48000, .inl f100))] := by rw [ez12]; exact hD
    clear hn_12 ez12 el1_12 el3_12 el4_12 el5_12 el6_12
    try clear hlo
    try clear hH
    revert hsp
    revert hP
    revert hD
    revert hS
    revert hl
    revert hrh_12
    revert hlh_12
    revert hfh_12_104
    revert hfh_12_102
    revert hfh_12_100
    revert l6_12
    revert l5_12
    revert l4_12
    revert l3_12
    revert l1_12
    revert z12
    revert ls
    revert locs
    revert H
    induction n_12 with
    | zero => intro H locs ls z12 l1_12 l3_12 l4_12 l5_12 l6_12 hfh_12_100 hfh_12_102 hfh_12_104 hlh_12 hrh_12 hl hS hD hP hsp; unfold lp_vm_isNamedB_12 at hsp; cases hsp
    | succ n_12 ih_12 =>
      intro H locs ls z12 l1_12 l3_12 l4_12 l5_12 l6_12 hfh_12_100 hfh_12_102 hfh_12_104 hlh_12 hrh_12 hl hS hD hP hsp
      unfold lp_vm_isNamedB_12 at hsp
      try dsimp only at hsp
      refine lv_iload hx hb dX13_isNamed_12 (lv_at hl 0 rfl) ?_
      refine lv_iconst (v := 1) hx hb dX13_isNamed_14 (by decide) ?_
      refine lv_iadd hx hb dX13_isNamed_15 ?_
      refine pw_ldcwS hx hb hown hZRS477 dX13_isNamed_16 ?_
      have hPc := hP.sub (ws' := []) [] rfl
      have hDc := hD.sub (ws' := []) [] (by decide) rfl
      have hKc := hK.sub (tys' := []) [] rfl
      have hFc := va_free (wc := []) hD hS hA [] rfl
      refine va_calli (va_runV (As := []) (rest := [.int (l6_12 + 1)]) ⟨hx, hb, hml, hown, hts⟩ (ct_slen l dC dI H.size nS477 fS477 hS477 qS477) (cwV 0 hts gv_h9_0 rfl rfl rfl (by decide +kernel) ⟨Nat.le_of_ble_eq_true rfl, Nat.le_of_ble_eq_true rfl⟩) ⟨fun a U g mk q => by obtain ⟨q0, q1, qP, qK, qD, qhZW⟩ := q; exact ⟨q0, q1, qP, va_K.moved (u := U) (U := U.calling g mk a) (Vm.Alike.refl U.vm) qK, qD, pz_W.moved (u := U) (U := U.calling g mk a) (Vm.Alike.refl U.vm) qhZW⟩, pz_recv hZWS477 hS, fun U hU hW => ⟨rfl, by rw [hU], by rw [hU]; exact hPc, va_K.moved hW.alike hKc, hDc.weaken (fun _ _ _ _ => trivial), by rw [hU]; exact ((pz_W.moved hW.alike hZWS477).kept hS.2.1).narrow hFc⟩⟩ rfl rfl hl.1 rfl (lv_room (Nat.le_of_ble_eq_true rfl)) dX13_isNamed_19 ⟨Nat.le_of_ble_eq_true rfl, Nat.le_of_ble_eq_true rfl⟩) hS (fun q _ h => hFc q h) hFc ?_
      clear hS
      intro r_5 u t H1 locs ht hvm hw hB hz1 hk1 hS
      obtain ⟨⟩ := u
      obtain ⟨hP1, hK1, hD1⟩ := hB
      rw [ht] at hP1
      try dsimp only at hw
      have hPD := va_join (wr := [(h0, .inr (13, z12)), (qf104, .inl (cf104, 8, .inl f104)), (qf102, .inl (cf102, 2048, .inl f102)), (qf100, .inl (cf100, 48000, .inl f100))]) (w1 := []) hP hD [] [0, 1, 2, 3] rfl rfl (by decide) (by decide) hk1 hFc hP1 hD1
      clear hP hD
      obtain ⟨hP, hD⟩ := hPD
      clear hPc hDc hKc hFc hP1 hK1 hD1 hz1 hk1 ht hvm
      generalize H1 = H at hP hS ⊢
      replace hP : va_P (dC, dI) vwCl [(h0, .inr (13, z12)), (qf104, .inl (cf104, 8, .inl f104)), (qf102, .inl (cf102, 2048, .inl f102)), (qf100, .inl (cf100, 48000, .inl f100))] H := hP
      replace hD : va_D A [(h0, .inr (13, z12)), (qf104, .inl (cf104, 8, .inl f104)), (qf102, .inl (cf102, 2048, .inl f102)), (qf100, .inl (cf100, 48000, .inl f100))] := hD
      obtain rfl : r_5 = (nI nS477) := hw
      refine lv_icmp_ge (tgt := 153) hx hb dX13_isNamed_22 (by decide) (fun c_6 => ?_) (fun c_6 => ?_)
      · rw [if_pos c_6] at hsp
        refine lv_iconst (v := 0) hx hb dX13_isNamed_153 (by decide) ?_
        have hr0 := Option.some.inj hsp
        clear hsp
        subst hr0
        have hP9 := hP.sub (ws' := [(h0, .inr (13, z12)), (qf104, .inl (cf104, 8, .inl f104)), (qf102, .inl (cf102, 2048, .inl f102)), (qf100, .inl (cf100, 48000, .inl f100))]) [0, 1, 2, 3] rfl
        have hD9 := hD.sub (ws' := [(h0, .inr (13, z12)), (qf104, .inl (cf104, 8, .inl f104)), (qf102, .inl (cf102, 2048, .inl f102)), (qf100, .inl (cf100, 48000, .inl f100))]) [0, 1, 2, 3] (by decide) rfl
        have hK9 := hK.sub (tys' := [(cf104, .int), (cf102, .int), (cf100, .int)]) [0, 1, 2] rfl
        exact W.zret hx hb hr (by decide) (fun t ht hW => ⟨⟨(0), (z12), rfl, ⟨⟨rfl, Or.inl rfl⟩, hlh_12, hrh_12⟩, by rw [ht]; exact hP9, va_K.moved hW.alike hK9, hD9⟩, hS.F ht⟩) hS.2.2 dX13_isNamed_154
      · rw [if_neg c_6] at hsp
        refine pw_ldcwS hx hb hown hZRS477 dX13_isNamed_25 ?_
        refine lv_iload hx hb dX13_isNamed_28 (lv_at hl 0 rfl) ?_
        obtain ⟨⟨hk_7j, hk_71, hk_72, hk_73, hk_74⟩, hsp⟩ := ox_ch hsp
        rw [hk_71]
        have hPc := hP.sub (ws' := []) [] rfl
        have hDc := hD.sub (ws' := []) [] (by decide) rfl
        have hKc := hK.sub (tys' := []) [] rfl
        have hFc := va_free (wc := []) hD hS hA [] rfl
        refine va_calli (va_runV (As := [.int (nI hk_7j)]) (rest := []) ⟨hx, hb, hml, hown, hts⟩ (ct_charAt l dC dI H.size nS477 fS477 hS477 qS477 hk_7j hk_73 hk_74) (cwV 1 hts gv_h9_1 rfl rfl rfl (by decide +kernel) ⟨Nat.le_of_ble_eq_true rfl, Nat.le_of_ble_eq_true rfl⟩) ⟨fun a U g mk q => by obtain ⟨q0, q1, qP, qK, qD, qhZW⟩ := q; exact ⟨q0, q1, qP, va_K.moved (u := U) (U := U.calling g mk a) (Vm.Alike.refl U.vm) qK, qD, pz_W.moved (u := U) (U := U.calling g mk a) (Vm.Alike.refl U.vm) qhZW⟩, pz_recv hZWS477 hS, fun U hU hW => ⟨rfl, by rw [hU], by rw [hU]; exact hPc, va_K.moved hW.alike hKc, hDc.weaken (fun _ _ _ _ => trivial), by rw [hU]; exact ((pz_W.moved hW.alike hZWS477).kept hS.2.1).narrow hFc⟩⟩ rfl rfl hl.1 rfl (lv_room (Nat.le_of_ble_eq_true rfl)) dX13_isNamed_30 ⟨Nat.le_of_ble_eq_true rfl, Nat.le_of_ble_eq_true rfl⟩) hS (fun q _ h => hFc q h) hFc ?_
        clear hS
        intro r_8 u t H1 locs ht hvm hw hB hz1 hk1 hS
        obtain ⟨⟩ := u
        obtain ⟨hP1, hK1, hD1⟩ := hB
        rw [ht] at hP1
        try dsimp only at hw
        have hPD := va_join (wr := [(h0, .inr (13, z12)), (qf104, .inl (cf104, 8, .inl f104)), (qf102, .inl (cf102, 2048, .inl f102)), (qf100, .inl (cf100, 48000, .inl f100))]) (w1 := []) hP hD [] [0, 1, 2, 3] rfl rfl (by decide) (by decide) hk1 hFc hP1 hD1
        clear hP hD
        obtain ⟨hP, hD⟩ := hPD
        clear hPc hDc hKc hFc hP1 hK1 hD1 hz1 hk1 ht hvm
        generalize H1 = H at hP hS ⊢
        replace hP : va_P (dC, dI) vwCl [(h0, .inr (13, z12)), (qf104, .inl (cf104, 8, .inl f104)), (qf102, .inl (cf102, 2048, .inl f102)), (qf100, .inl (cf100, 48000, .inl f100))] H := hP
        replace hD : va_D A [(h0, .inr (13, z12)), (qf104, .inl (cf104, 8, .inl f104)), (qf102, .inl (cf102, 2048, .inl f102)), (qf100, .inl (cf100, 48000, .inl f100))] := hD
        obtain rfl : r_8 = (((fS477 (l6_12 : Int32).toNatClampNeg) &&& 255).toUInt32 % 65536).toInt32 := by rw [hk_72]; exact hw
        refine lv_bipush (v := 32) hx hb dX13_isNamed_33 (by decide) ?_
        refine lv_icmp_eq (tgt := 41) hx hb dX13_isNamed_35 (by decide) (fun c_9 => ?_) (fun c_9 => ?_)
        · rw [if_pos c_9] at hsp
          refine lv_iinc (v := (l5_12 + 1)) (lv' := [(5, .int (l5_12 + 1)), (6, .int l6_12), (1, .int l1_12), (2, .ref qf100), (3, .int l3_12), (4, .int l4_12)]) hx hb dX13_isNamed_41 hl (k := 1) rfl rfl (by decide) rfl (fun ls hl => ?_)
          refine lv_iload hx hb dX13_isNamed_44 (lv_at hl 0 rfl) ?_
          refine lv_iload_n hx hb dX13_isNamed_46 rfl (lv_at hl 2 rfl) ?_
          refine lv_icmp_eq (tgt := 53) hx hb dX13_isNamed_47 (by decide) (fun c_10 => ?_) (fun c_10 => ?_)
          · rw [if_pos c_10] at hsp
            refine lv_iload hx hb dX13_isNamed_53 (lv_at hl 1 rfl) ?_
            refine lv_iload hx hb dX13_isNamed_55 (lv_at hl 5 rfl) ?_
            refine lv_iadd hx hb dX13_isNamed_57 ?_
            refine lv_iconst (v := 1) hx hb dX13_isNamed_58 (by decide) ?_
            refine lv_iadd hx hb dX13_isNamed_59 ?_
            refine pw_ldcwS hx hb hown hZRS477 dX13_isNamed_60 ?_
            have hPc := hP.sub (ws' := []) [] rfl
            have hDc := hD.sub (ws' := []) [] (by decide) rfl
            have hKc := hK.sub (tys' := []) [] rfl
            have hFc := va_free (wc := []) hD hS hA [] rfl
            refine va_calli (va_runV (As := []) (rest := [.int ((l6_12 + l4_12) + 1)]) ⟨hx, hb, hml, hown, hts⟩ (ct_slen l dC dI H.size nS477 fS477 hS477 qS477) (cwV 0 hts gv_h9_0 rfl rfl rfl (by decide +kernel) ⟨Nat.le_of_ble_eq_true rfl, Nat.le_of_ble_eq_true rfl⟩) ⟨fun a U g mk q => by obtain ⟨q0, q1, qP, qK, qD, qhZW⟩ := q; exact ⟨q0, q1, qP, va_K.moved (u := U) (U := U.calling g mk a) (Vm.Alike.refl U.vm) qK, qD, pz_W.moved (u := U) (U := U.calling g mk a) (Vm.Alike.refl U.vm) qhZW⟩, pz_recv hZWS477 hS, fun U hU hW => ⟨rfl, by rw [hU], by rw [hU]; exact hPc, va_K.moved hW.alike hKc, hDc.weaken (fun _ _ _ _ => trivial), by rw [hU]; exact ((pz_W.moved hW.alike hZWS477).kept hS.2.1).narrow hFc⟩⟩ rfl rfl hl.1 rfl (lv_room (Nat.le_of_ble_eq_true rfl)) dX13_isNamed_63 ⟨Nat.le_of_ble_eq_true rfl, Nat.le_of_ble_eq_true rfl⟩) hS (fun q _ h => hFc q h) hFc ?_
            clear hS
            intro r_11 u t H1 locs ht hvm hw hB hz1 hk1 hS
            obtain ⟨⟩ := u
            obtain ⟨hP1, hK1, hD1⟩ := hB
            rw [ht] at hP1
            try dsimp only at hw
            have hPD := va_join (wr := [(h0, .inr (13, z12)), (qf104, .inl (cf104, 8, .inl f104)), (qf102, .inl (cf102, 2048, .inl f102)), (qf100, .inl (cf100, 48000, .inl f100))]) (w1 := []) hP hD [] [0, 1, 2, 3] rfl rfl (by decide) (by decide) hk1 hFc hP1 hD1
            clear hP hD
            obtain ⟨hP, hD⟩ := hPD
            clear hPc hDc hKc hFc hP1 hK1 hD1 hz1 hk1 ht hvm
            generalize H1 = H at hP hS ⊢
            replace hP : va_P (dC, dI) vwCl [(h0, .inr (13, z12)), (qf104, .inl (cf104, 8, .inl f104)), (qf102, .inl (cf102, 2048, .inl f102)), (qf100, .inl (cf100, 48000, .inl f100))] H := hP
            replace hD : va_D A [(h0, .inr (13, z12)), (qf104, .inl (cf104, 8, .inl f104)), (qf102, .inl (cf102, 2048, .inl f102)), (qf100, .inl (cf100, 48000, .inl f100))] := hD
            obtain rfl : r_11 = (nI nS477) := hw
            refine lv_icmp_ge (tgt := 91) hx hb dX13_isNamed_66 (by decide) (fun c_12 => ?_) (fun c_12 => ?_)
            · rw [if_pos c_12] at hsp
              exact hj_91 (H, locs, ls, z12, l3_12, l4_12, l6_12) ⟨lv_sub hl [3, 4, 5, 1] rfl, hS, hD.sub (ws' := [(h0, .inr (13, z12)), (qf104, .inl (cf104, 8, .inl f104)), (qf102, .inl (cf102, 2048, .inl f102)), (qf100, .inl (cf100, 48000, .inl f100))]) [0, 1, 2, 3] (by decide) rfl, hP.sub (ws' := [(h0, .inr (13, z12)), (qf104, .inl (cf104, 8, .inl f104)), (qf102, .inl (cf102, 2048, .inl f102)), (qf100, .inl (cf100, 48000, .inl f100))]) [0, 1, 2, 3] rfl, hfh_12_100, hfh_12_102, hfh_12_104, hlh_12, hrh_12, hsp⟩
            · rw [if_neg c_12] at hsp
              refine pw_ldcwS hx hb hown hZRS477 dX13_isNamed_69 ?_
              refine lv_iload hx hb dX13_isNamed_72 (lv_at hl 1 rfl) ?_
              refine lv_iload hx hb dX13_isNamed_74 (lv_at hl 5 rfl) ?_
              refine lv_iadd hx hb dX13_isNamed_76 ?_
              refine lv_iconst (v := 1) hx hb dX13_isNamed_77 (by decide) ?_
              refine lv_iadd hx hb dX13_isNamed_78 ?_
              obtain ⟨⟨hk_13j, hk_131, hk_132, hk_133, hk_134⟩, hsp⟩ := ox_ch hsp
              rw [hk_131]
              have hPc := hP.sub (ws' := []) [] rfl
              have hDc := hD.sub (ws' := []) [] (by decide) rfl
              have hKc := hK.sub (tys' := []) [] rfl
              have hFc := va_free (wc := []) hD hS hA [] rfl
              refine va_calli (va_runV (As := [.int (nI hk_13j)]) (rest := []) ⟨hx, hb, hml, hown, hts⟩ (ct_charAt l dC dI H.size nS477 fS477 hS477 qS477 hk_13j hk_133 hk_134) (cwV 1 hts gv_h9_1 rfl rfl rfl (by decide +kernel) ⟨Nat.le_of_ble_eq_true rfl, Nat.le_of_ble_eq_true rfl⟩) ⟨fun a U g mk q => by obtain ⟨q0, q1, qP, qK, qD, qhZW⟩ := q; exact ⟨q0, q1, qP, va_K.moved (u := U) (U := U.calling g mk a) (Vm.Alike.refl U.vm) qK, qD, pz_W.moved (u := U) (U := U.calling g mk a) (Vm.Alike.refl U.vm) qhZW⟩, pz_recv hZWS477 hS, fun U hU hW => ⟨rfl, by rw [hU], by rw [hU]; exact hPc, va_K.moved hW.alike hKc, hDc.weaken (fun _ _ _ _ => trivial), by rw [hU]; exact ((pz_W.moved hW.alike hZWS477).kept hS.2.1).narrow hFc⟩⟩ rfl rfl hl.1 rfl (lv_room (Nat.le_of_ble_eq_true rfl)) dX13_isNamed_79 ⟨Nat.le_of_ble_eq_true rfl, Nat.le_of_ble_eq_true rfl⟩) hS (fun q _ h => hFc q h) hFc ?_
              clear hS
              intro r_14 u t H1 locs ht hvm hw hB hz1 hk1 hS
              obtain ⟨⟩ := u
              obtain ⟨hP1, hK1, hD1⟩ := hB
              rw [ht] at hP1
              try dsimp only at hw
              have hPD := va_join (wr := [(h0, .inr (13, z12)), (qf104, .inl (cf104, 8, .inl f104)), (qf102, .inl (cf102, 2048, .inl f102)), (qf100, .inl (cf100, 48000, .inl f100))]) (w1 := []) hP hD [] [0, 1, 2, 3] rfl rfl (by decide) (by decide) hk1 hFc hP1 hD1
              clear hP hD
              obtain ⟨hP, hD⟩ := hPD
              clear hPc hDc hKc hFc hP1 hK1 hD1 hz1 hk1 ht hvm
              generalize H1 = H at hP hS ⊢
              replace hP : va_P (dC, dI) vwCl [(h0, .inr (13, z12)), (qf104, .inl (cf104, 8, .inl f104)), (qf102, .inl (cf102, 2048, .inl f102)), (qf100, .inl (cf100, 48000, .inl f100))] H := hP
              replace hD : va_D A [(h0, .inr (13, z12)), (qf104, .inl (cf104, 8, .inl f104)), (qf102, .inl (cf102, 2048, .inl f102)), (qf100, .inl (cf100, 48000, .inl f100))] := hD
              obtain rfl : r_14 = (((fS477 (((l6_12 + l4_12) + 1) : Int32).toNatClampNeg) &&& 255).toUInt32 % 65536).toInt32 := by rw [hk_132]; exact hw
              refine lv_bipush (v := 32) hx hb dX13_isNamed_82 (by decide) ?_
              refine lv_icmp_ne (tgt := 91) hx hb dX13_isNamed_84 (by decide) (fun c_15 => ?_) (fun c_15 => ?_)
              · rw [if_neg c_15] at hsp
                exact hj_91 (H, locs, ls, z12, l3_12, l4_12, l6_12) ⟨lv_sub hl [3, 4, 5, 1] rfl, hS, hD.sub (ws' := [(h0, .inr (13, z12)), (qf104, .inl (cf104, 8, .inl f104)), (qf102, .inl (cf102, 2048, .inl f102)), (qf100, .inl (cf100, 48000, .inl f100))]) [0, 1, 2, 3] (by decide) rfl, hP.sub (ws' := [(h0, .inr (13, z12)), (qf104, .inl (cf104, 8, .inl f104)), (qf102, .inl (cf102, 2048, .inl f102)), (qf100, .inl (cf100, 48000, .inl f100))]) [0, 1, 2, 3] rfl, hfh_12_100, hfh_12_102, hfh_12_104, hlh_12, hrh_12, hsp⟩
              · rw [if_pos c_15] at hsp
                refine lv_iconst (v := 1) hx hb dX13_isNamed_87 (by decide) ?_
                refine lv_goto (tgt := 92) hx hb dX13_isNamed_88 (by decide) ?_
                exact hj_92 (H, locs, ls, z12, l3_12, l4_12, l6_12, 1) ⟨lv_sub hl [3, 4, 5, 1] rfl, hS, hD.sub (ws' := [(h0, .inr (13, z12)), (qf104, .inl (cf104, 8, .inl f104)), (qf102, .inl (cf102, 2048, .inl f102)), (qf100, .inl (cf100, 48000, .inl f100))]) [0, 1, 2, 3] (by decide) rfl, hP.sub (ws' := [(h0, .inr (13, z12)), (qf104, .inl (cf104, 8, .inl f104)), (qf102, .inl (cf102, 2048, .inl f102)), (qf100, .inl (cf100, 48000, .inl f100))]) [0, 1, 2, 3] rfl, hfh_12_100, hfh_12_102, hfh_12_104, hlh_12, hrh_12, hsp⟩
          · rw [if_neg c_10] at hsp
            refine lv_goto (tgt := 147) hx hb dX13_isNamed_50 (by decide) ?_
            refine lv_iinc (v := (l6_12 + 1)) (lv' := [(6, .int (l6_12 + 1)), (5, .int (l5_12 + 1)), (1, .int l1_12), (2, .ref qf100), (3, .int l3_12), (4, .int l4_12)]) hx hb dX13_isNamed_147 hl (k := 1) rfl rfl (by decide) rfl (fun ls hl => ?_)
            refine lv_goto (tgt := 12) hx hb dX13_isNamed_150 (by decide) ?_
            exact ih_12 H locs ls z12 l1_12 l3_12 l4_12 (l5_12 + 1) (l6_12 + 1) (hfh_12_100) (hfh_12_102) (hfh_12_104) hlh_12 hrh_12 (lv_sub hl [0, 1, 2, 3, 4, 5] rfl) hS (hD.sub (ws' := [(h0, .inr (13, z12)), (qf104, .inl (cf104, 8, .inl f104)), (qf102, .inl (cf102, 2048, .inl f102)), (qf100, .inl (cf100, 48000, .inl f100))]) [0, 1, 2, 3] (by decide) rfl) (hP.sub (ws' := [(h0, .inr (13, z12)), (qf104, .inl (cf104, 8, .inl f104)), (qf102, .inl (cf102, 2048, .inl f102)), (qf100, .inl (cf100, 48000, .inl f100))]) [0, 1, 2, 3] rfl) hsp
        · rw [if_neg c_9] at hsp
          refine lv_goto (tgt := 147) hx hb dX13_isNamed_38 (by decide) ?_
          refine lv_iinc (v := (l6_12 + 1)) (lv' := [(6, .int (l6_12 + 1)), (5, .int l5_12), (1, .int l1_12), (2, .ref qf100), (3, .int l3_12), (4, .int l4_12)]) hx hb dX13_isNamed_147 hl (k := 0) rfl rfl (by decide) rfl (fun ls hl => ?_)
          refine lv_goto (tgt := 12) hx hb dX13_isNamed_150 (by decide) ?_
          exact ih_12 H locs ls z12 l1_12 l3_12 l4_12 l5_12 (l6_12 + 1) (hfh_12_100) (hfh_12_102) (hfh_12_104) hlh_12 hrh_12 (lv_sub hl [0, 1, 2, 3, 4, 5] rfl) hS (hD.sub (ws' := [(h0, .inr (13, z12)), (qf104, .inl (cf104, 8, .inl f104)), (qf102, .inl (cf102, 2048, .inl f102)), (qf100, .inl (cf100, 48000, .inl f100))]) [0, 1, 2, 3] (by decide) rfl) (hP.sub (ws' := [(h0, .inr (13, z12)), (qf104, .inl (cf104, 8, .inl f104)), (qf102, .inl (cf102, 2048, .inl f102)), (qf100, .inl (cf100, 48000, .inl f100))]) [0, 1, 2, 3] rfl) hsp
def lp_vm_classNamedB_3 (nf n : Nat) (a2 : Int32) (a3 : Int32) (v98 : Int32) (f104 : Nat → Int32) (f102 : Nat → Int32) (f100 : Nat → Int32) (nS477 : Nat) (fS477 : Nat → Int32)  (l2_3 : Int32) (l3_3 : Int32) (l4_3 : Int32) : Option (Int32) := match n with
  | 0 => none
  | n + 1 => (if (8 + v98) ≤ l4_3 then (some (-1)) else ((sp_vm_isNamedB nf l4_3 l2_3 l3_3 f104 f102 f100 nS477 fS477).bind (fun p1 => (if p1 = 0 then (lp_vm_classNamedB_3 nf n a2 a3 v98 f104 f102 f100 nS477 fS477 l2_3 l3_3 (l4_3 + 1)) else (some l4_3)))))
def sp_vm_classNamedB (nf : Nat) (a2 : Int32) (a3 : Int32) (v98 : Int32) (f104 : Nat → Int32) (f102 : Nat → Int32) (f100 : Nat → Int32) (nS477 : Nat) (fS477 : Nat → Int32) : Option (Int32) := (lp_vm_classNamedB_3 nf nf a2 a3 v98 f104 f102 f100 nS477 fS477  a2 a3 0)
set_option maxHeartbeats 4000000 in
set_option maxRecDepth 100000 in
/-- ClassMillModel.classNamed -/
theorem vm_classNamedB (l : Launch) (dC : Nat → ClassId) (dI : Nat → Nat → Nat) (sz : Nat) (h0 : Nat) (zs : (List Value)) (qf100 : Nat) (a2 : Int32) (a3 : Int32) (v98 : Int32) (qf102 : Nat) (qf104 : Nat) (cf104 : ClassId) (f104 : (Nat → Int32)) (cf102 : ClassId) (f102 : (Nat → Int32)) (cf100 : ClassId) (f100 : (Nat → Int32)) (nS477 : Nat) (fS477 : (Nat → Int32)) (hS477 : Nat) (qS477 : Nat) (tS477 : String) (nf : Nat) (r0 : Int32) (hlen : zs.length = 155) (hf98 : zs[98]? = some (.int v98)) (hf100 : zs[100]? = some (.ref qf100)) (hf102 : zs[102]? = some (.ref qf102)) (hf104 : zs[104]? = some (.ref qf104)) (hsp : sp_vm_classNamedB nf a2 a3 v98 f104 f102 f100 nS477 fS477 = some r0) : Met l yX13_classNamed (.code yX13_classNamed cX13_classNamed 5 (some .int) :: VS_h9) ({ frames := 5, cells := 0, slots := 0, locals := 113 }) (va_Pc [.ref h0, .ref qf100, .int a2, .int a3] (fun U => U.heap.size = sz ∧ va_P (dC, dI) vwCl [(h0, .inr (13, zs)), (qf104, .inl (cf104, 8, .inl f104)), (qf102, .inl (cf102, 2048, .inl f102)), (qf100, .inl (cf100, 48000, .inl f100))] U.heap ∧ va_K (dC, dI) vwCl [(cf104, .int), (cf102, .int), (cf100, .int)] U ∧ va_D (fun _ => True) [(h0, .inr (13, zs)), (qf104, .inl (cf104, 8, .inl f104)), (qf102, .inl (cf102, 2048, .inl f102)), (qf100, .inl (cf100, 48000, .inl f100))] ∧ pz_W nS477 fS477 hS477 qS477 (va_A [(h0, .inr (13, zs)), (qf104, .inl (cf104, 8, .inl f104)), (qf102, .inl (cf102, 2048, .inl f102)), (qf100, .inl (cf100, 48000, .inl f100))] sz) U U.heap ∧ vk_R RX13 477 tS477 hS477 U)) (va_Qi (fun (r : Int32) (u : (List Value)) => match u with | (zo1) => r0 = r ∧ zo1.length = 155 ∧ (∀ j : Nat, zo1[j]? = zs[j]?)) (fun (u : (List Value)) (t : State) => match u with | (zo1) => va_P (dC, dI) vwCl [(h0, .inr (13, zo1)), (qf104, .inl (cf104, 8, .inl f104)), (qf102, .inl (cf102, 2048, .inl f102)), (qf100, .inl (cf100, 48000, .inl f100))] t.heap ∧ va_K (dC, dI) vwCl [(cf104, .int), (cf102, .int), (cf100, .int)] t ∧ va_D (va_A [(h0, .inr (13, zs)), (qf104, .inl (cf104, 8, .inl f104)), (qf102, .inl (cf102, 2048, .inl f102)), (qf100, .inl (cf100, 48000, .inl f100))] sz) [(h0, .inr (13, zo1)), (qf104, .inl (cf104, 8, .inl f104)), (qf102, .inl (cf102, 2048, .inl f102)), (qf100, .inl (cf100, 48000, .inl f100))]) (va_A [(h0, .inr (13, zs)), (qf104, .inl (cf104, 8, .inl f104)), (qf102, .inl (cf102, 2048, .inl f102)), (qf100, .inl (cf100, 48000, .inl f100))] sz)) 0 0 (va_A [(h0, .inr (13, zs)), (qf104, .inl (cf104, 8, .inl f104)), (qf102, .inl (cf102, 2048, .inl f102)), (qf100, .inl (cf100, 48000, .inl f100))] sz) := by
  refine Met.ofW (cc := cX13_classNamed) (maxL := 5) (ret := (some .int)) (by decide) rfl ?_
  intro p e s m args below meth c s₁ B hml hv
  obtain ⟨rfl, hsz, hP, hK, hD0, hZWS477, hZRS477⟩ := hv
  have hx := B.exec
  have hb := B.bytes
  have hr := B.returns
  have hts := atoms_spec (ws := (.code yX13_classNamed cX13_classNamed 5 (some .int) :: VS_h9)) B.pre
  replace hts := fun w (h : w ∈ VS_h9) => hts w (List.mem_cons_of_mem _ h)
  have hown : s.vm.findClass RX13 = some m.cls := findClass_of_methodNamed B.named
  have hlocks := B.notSynchronized
  subst hsz
  have hD := hD0.self (sz := s.heap.size)
  generalize hAe : va_A [(h0, .inr (13, zs)), (qf104, .inl (cf104, 8, .inl f104)), (qf102, .inl (cf102, 2048, .inl f102)), (qf100, .inl (cf100, 48000, .inl f100))] s.heap.size = A at hD hZWS477 ⊢
  have hA : ∀ q : Nat, s.heap.size ≤ q → A q := fun q h => by rw [← hAe]; exact Or.inr h
  have hP : va_P (dC, dI) vwCl [(h0, .inr (13, zs)), (qf104, .inl (cf104, 8, .inl f104)), (qf102, .inl (cf102, 2048, .inl f102)), (qf100, .inl (cf100, 48000, .inl f100))] s.heap := hP
  have hl := lv_entry ([.ref h0, .ref qf100, .int a2, .int a3]) (n := 5) (Nat.le_of_ble_eq_true rfl)
  rw [lg_entry_eq]
  generalize (lg_sl ([.ref h0, .ref qf100, .int a2, .int a3]) ++ List.replicate (5 - (lg_sl ([.ref h0, .ref qf100, .int a2, .int a3])).length) Slot.unset).toArray = ls at hl ⊢
  have hl : lv_has ls 5 [(0, .ref h0), (1, .ref qf100), (2, .int a2), (3, .int a3)] := hl
  obtain ⟨H, hH⟩ : ∃ H : Heap, s.heap = H := ⟨_, rfl⟩
  rw [hH] at hP ⊢
  have hS : va_S A s.heap H [] := by rw [← hH]; exact va_S.rf
  obtain ⟨locs, hlo⟩ : ∃ locs : List Loc, locs = [] := ⟨_, rfl⟩
  rw [← hlo] at hS ⊢
  have hrs0 : ∀ j : Nat, zs[j]? = zs[j]? := fun _  => rfl
  unfold sp_vm_classNamedB at hsp
  refine lv_iconst (v := 0) hx hb dX13_classNamed_0 (by decide) ?_
  refine lv_istore (lv' := [(4, .int 0), (0, .ref h0), (1, .ref qf100), (2, .int a2), (3, .int a3)]) hx hb dX13_classNamed_1 hl (by decide) rfl (fun ls hl => ?_)
  replace hl : lv_has ls 5 [(4, .int 0), (0, .ref h0), (1, .ref qf100), (2, .int a2), (3, .int a3)] := lv_sub hl [0, 1, 2, 3, 4] rfl
  replace hP := hP.sub (ws' := [(h0, .inr (13, zs)), (qf104, .inl (cf104, 8, .inl f104)), (qf102, .inl (cf102, 2048, .inl f102)), (qf100, .inl (cf100, 48000, .inl f100))]) [0, 1, 2, 3] rfl
  replace hD := hD.sub (ws' := [(h0, .inr (13, zs)), (qf104, .inl (cf104, 8, .inl f104)), (qf102, .inl (cf102, 2048, .inl f102)), (qf100, .inl (cf100, 48000, .inl f100))]) [0, 1, 2, 3] (by decide) rfl
  replace hK := hK.sub (tys' := [(cf104, .int), (cf102, .int), (cf100, .int)]) [0, 1, 2] rfl
  obtain ⟨n_3, hn_3⟩ : ∃ z : Nat, z = nf := ⟨_, rfl⟩
  obtain ⟨l2_3, el2_3⟩ : ∃ z : Int32, z = a2 := ⟨_, rfl⟩
  obtain ⟨l3_3, el3_3⟩ : ∃ z : Int32, z = a3 := ⟨_, rfl⟩
  obtain ⟨l4_3, el4_3⟩ : ∃ z : Int32, z = 0 := ⟨_, rfl⟩
  replace hsp : lp_vm_classNamedB_3 nf n_3 a2 a3 v98 f104 f102 f100 nS477 fS477 l2_3 l3_3 l4_3 = some r0 := by rw [hn_3, el2_3, el3_3, el4_3]; exact hsp
  replace hl : lv_has ls 5 [(4, .int l4_3), (0, .ref h0), (1, .ref qf100), (2, .int l2_3), (3, .int l3_3)] := by rw [el2_3, el3_3, el4_3]; exact hl
  obtain ⟨z3, ez3⟩ : ∃ z : List Value, z = zs := ⟨_, rfl⟩
  have hfh_3_98 : z3[98]? = some (.int v98) := by rw [ez3]; exact hf98
  have hfh_3_100 : z3[100]? = some (.ref qf100) := by rw [ez3]; exact hf100
  have hfh_3_102 : z3[102]? = some (.ref qf102) := by rw [ez3]; exact hf102
  have hfh_3_104 : z3[104]? = some (.ref qf104) := by rw [ez3]; exact hf104
  have hlh_3 : z3.length = 155 := by rw [ez3]; exact hlen
  have hrh_3 : ∀ j : Nat, z3[j]? = zs[j]? := by rw [ez3]; exact hrs0
  replace hP : va_P (dC, dI) vwCl [(h0, .inr (13, z3)), (qf104, .inl (cf104, 8, .inl f104)), (qf102, .inl (cf102, 2048, .inl f102)), (qf100, .inl (cf100, 48000, .inl f100))] H := by rw [ez3]; exact hP
  replace hD : va_D A [(h0, .inr (13, z3)), (qf104, .inl (cf104, 8, .inl f104)), (qf102, .inl (cf102, 2048, .inl f102)), (qf100, .inl (cf100, 48000, .inl f100))] := by rw [ez3]; exact hD
  clear hn_3 ez3 el2_3 el3_3 el4_3
  try clear hlo
  try clear hH
  revert hsp
  revert hP
  revert hD
  revert hS
  revert hl
  revert hrh_3
  revert hlh_3
  revert hfh_3_104
  revert hfh_3_102
  revert hfh_3_100
  revert hfh_3_98
  revert l4_3
  revert l3_3
  revert l2_3
  revert z3
  revert ls
  revert locs
  revert H
  induction n_3 with
  | zero => intro H locs ls z3 l2_3 l3_3 l4_3 hfh_3_98 hfh_3_100 hfh_3_102 hfh_3_104 hlh_3 hrh_3 hl hS hD hP hsp; unfold lp_vm_classNamedB_3 at hsp; cases hsp
  | succ n_3 ih_3 =>
    intro H locs ls z3 l2_3 l3_3 l4_3 hfh_3_98 hfh_3_100 hfh_3_102 hfh_3_104 hlh_3 hrh_3 hl hS hD hP hsp
    unfold lp_vm_classNamedB_3 at hsp
    try dsimp only at hsp
    refine lv_iload hx hb dX13_classNamed_3 (lv_at hl 0 rfl) ?_
    refine lv_bipush (v := 8) hx hb dX13_classNamed_5 (by decide) ?_
    refine lv_aload_n hx hb dX13_classNamed_7 rfl (lv_at hl 1 rfl) ?_
    refine va_get (D := (dC, dI)) (ci := 13) (v := .int v98) (C := RX13) (T := TX13) (N := 155) hx hb hts uV_h9_X13 hown hK hP 0 rfl rfl 98 (by decide) (hts (.fieldLink RX13 833 "ClassMillModel" "there" "I") mw_h9_276) (fun _ h9 => h9) hfh_3_98 dX13_classNamed_8 ?_
    refine lv_iadd hx hb dX13_classNamed_11 ?_
    refine lv_icmp_ge (tgt := 36) hx hb dX13_classNamed_12 (by decide) (fun c_1 => ?_) (fun c_1 => ?_)
    · rw [if_pos c_1] at hsp
      refine lv_iconst (v := (-1)) hx hb dX13_classNamed_36 (by decide) ?_
      have hr0 := Option.some.inj hsp
      clear hsp
      subst hr0
      have hP9 := hP.sub (ws' := [(h0, .inr (13, z3)), (qf104, .inl (cf104, 8, .inl f104)), (qf102, .inl (cf102, 2048, .inl f102)), (qf100, .inl (cf100, 48000, .inl f100))]) [0, 1, 2, 3] rfl
      have hD9 := hD.sub (ws' := [(h0, .inr (13, z3)), (qf104, .inl (cf104, 8, .inl f104)), (qf102, .inl (cf102, 2048, .inl f102)), (qf100, .inl (cf100, 48000, .inl f100))]) [0, 1, 2, 3] (by decide) rfl
      have hK9 := hK.sub (tys' := [(cf104, .int), (cf102, .int), (cf100, .int)]) [0, 1, 2] rfl
      exact W.iret hx hb hr (fun t ht hW => ⟨⟨((-1)), (z3), rfl, ⟨rfl, hlh_3, hrh_3⟩, by rw [ht]; exact hP9, va_K.moved hW.alike hK9, hD9⟩, hS.F ht⟩) hS.2.2 dX13_classNamed_37
    · rw [if_neg c_1] at hsp
      refine lv_aload_n hx hb dX13_classNamed_15 rfl (lv_at hl 1 rfl) ?_
      refine lv_iload hx hb dX13_classNamed_16 (lv_at hl 0 rfl) ?_
      refine lv_aload_n hx hb dX13_classNamed_18 rfl (lv_at hl 2 rfl) ?_
      refine lv_iload_n hx hb dX13_classNamed_19 rfl (lv_at hl 3 rfl) ?_
      refine lv_iload_n hx hb dX13_classNamed_20 rfl (lv_at hl 4 rfl) ?_
      obtain ⟨u1_0, hu_1, hsp⟩ := ox_bind hsp
      try dsimp only at hsp
      have hPc := hP.sub (ws' := [(h0, .inr (13, z3)), (qf104, .inl (cf104, 8, .inl f104)), (qf102, .inl (cf102, 2048, .inl f102)), (qf100, .inl (cf100, 48000, .inl f100))]) [0, 1, 2, 3] rfl
      have hDc := hD.sub (ws' := [(h0, .inr (13, z3)), (qf104, .inl (cf104, 8, .inl f104)), (qf102, .inl (cf102, 2048, .inl f102)), (qf100, .inl (cf100, 48000, .inl f100))]) [0, 1, 2, 3] (by decide) rfl
      have hKc := hK.sub (tys' := [(cf104, .int), (cf102, .int), (cf100, .int)]) [0, 1, 2] rfl
      have hFc := va_free (wc := [(h0, .inr (13, z3)), (qf104, .inl (cf104, 8, .inl f104)), (qf102, .inl (cf102, 2048, .inl f102)), (qf100, .inl (cf100, 48000, .inl f100))]) hD hS hA [0, 1, 2, 3] rfl
      refine va_calli (va_runV (As := [.int l4_3, .ref qf100, .int l2_3, .int l3_3]) (rest := []) ⟨hx, hb, hml, hown, hts⟩ (vm_isNamedB l dC dI H.size h0 z3 l4_3 qf100 l2_3 l3_3 qf102 qf104 cf104 f104 cf102 f102 cf100 f100 nS477 fS477 hS477 qS477 tS477 nf u1_0 hlh_3 hfh_3_100 hfh_3_102 hfh_3_104 hu_1) (cwV 4 hts gv_h9_95 rfl rfl rfl (by decide +kernel) ⟨Nat.le_of_ble_eq_true rfl, Nat.le_of_ble_eq_true rfl⟩) ⟨fun a U g mk q => by obtain ⟨q0, q1, qP, qK, qD, qhZWS477, qhZRS477⟩ := q; exact ⟨q0, q1, qP, va_K.moved (u := U) (U := U.calling g mk a) (Vm.Alike.refl U.vm) qK, qD, pz_W.moved (u := U) (U := U.calling g mk a) (Vm.Alike.refl U.vm) qhZWS477, vk_R.same rfl qhZRS477⟩, va_recv hKc hPc (ci := 13) (q0 := 0) rfl rfl, fun U hU hW => ⟨rfl, by rw [hU], by rw [hU]; exact hPc, va_K.moved hW.alike hKc, hDc.weaken (fun _ _ _ _ => trivial), by rw [hU]; exact ((pz_W.moved hW.alike hZWS477).kept hS.2.1).narrow hFc, vk_R.warm hW hZRS477⟩⟩ rfl rfl hl.1 rfl (lv_room (Nat.le_of_ble_eq_true rfl)) dX13_classNamed_21 ⟨Nat.le_of_ble_eq_true rfl, Nat.le_of_ble_eq_true rfl⟩) hS (fun q _ h => hFc q h) hFc ?_
      clear hS
      intro r_2 u t H1 locs ht hvm hw hB hz1 hk1 hS
      obtain ⟨z_1, rfl⟩ : ∃ z, z = u := ⟨_, rfl⟩
      obtain ⟨hP1, hK1, hD1⟩ := hB
      rw [ht] at hP1
      have hK1 := va_K.moved hvm.symm hK1
      try dsimp only at hw
      have hPD := va_join (wr := []) (w1 := [(h0, .inr (13, z_1)), (qf104, .inl (cf104, 8, .inl f104)), (qf102, .inl (cf102, 2048, .inl f102)), (qf100, .inl (cf100, 48000, .inl f100))]) hP hD [0, 1, 2, 3] [] rfl rfl (by decide) (by decide) hk1 hFc hP1 hD1
      clear hP hD
      obtain ⟨hP, hD⟩ := hPD
      replace hK := (hK.sub (tys' := []) [] rfl).app hK1
      clear hPc hDc hKc hFc hP1 hK1 hD1 hz1 hk1 ht hvm
      generalize H1 = H at hP hS ⊢
      replace hP : va_P (dC, dI) vwCl [(h0, .inr (13, z_1)), (qf104, .inl (cf104, 8, .inl f104)), (qf102, .inl (cf102, 2048, .inl f102)), (qf100, .inl (cf100, 48000, .inl f100))] H := hP
      replace hD : va_D A [(h0, .inr (13, z_1)), (qf104, .inl (cf104, 8, .inl f104)), (qf102, .inl (cf102, 2048, .inl f102)), (qf100, .inl (cf100, 48000, .inl f100))] := hD
      replace hK : va_K (dC, dI) vwCl [(cf104, .int), (cf102, .int), (cf100, .int)] s := hK
      obtain ⟨hwa_1, hln_1, hre_1⟩ := hw
      have hfk_1_98 : z_1[98]? = some (.int v98) := (hre_1 98 ).trans (hfh_3_98)
      have hfk_1_100 : z_1[100]? = some (.ref qf100) := (hre_1 100 ).trans (hfh_3_100)
      have hfk_1_102 : z_1[102]? = some (.ref qf102) := (hre_1 102 ).trans (hfh_3_102)
      have hfk_1_104 : z_1[104]? = some (.ref qf104) := (hre_1 104 ).trans (hfh_3_104)
      have hrq_1 : ∀ j : Nat, z_1[j]? = zs[j]? := fun j  => (hre_1 j ).trans (hrh_3 j )
      obtain ⟨rfl, hz_1⟩ := hwa_1
      rcases hz_1 with rfl | rfl
      · rw [if_pos rfl] at hsp
        refine lv_if_eq (tgt := 30) hx hb dX13_classNamed_24 (by decide) (fun c_3 => ?_) (fun c_3 => (show False by revert c_3; decide).elim)
        refine lv_iinc (v := (l4_3 + 1)) (lv' := [(4, .int (l4_3 + 1)), (0, .ref h0), (1, .ref qf100), (2, .int l2_3), (3, .int l3_3)]) hx hb dX13_classNamed_30 hl (k := 0) rfl rfl (by decide) rfl (fun ls hl => ?_)
        refine lv_goto (tgt := 3) hx hb dX13_classNamed_33 (by decide) ?_
        exact ih_3 H locs ls z_1 l2_3 l3_3 (l4_3 + 1) (hfk_1_98) (hfk_1_100) (hfk_1_102) (hfk_1_104) hln_1 hrq_1 (lv_sub hl [0, 1, 2, 3, 4] rfl) hS (hD.sub (ws' := [(h0, .inr (13, z_1)), (qf104, .inl (cf104, 8, .inl f104)), (qf102, .inl (cf102, 2048, .inl f102)), (qf100, .inl (cf100, 48000, .inl f100))]) [0, 1, 2, 3] (by decide) rfl) (hP.sub (ws' := [(h0, .inr (13, z_1)), (qf104, .inl (cf104, 8, .inl f104)), (qf102, .inl (cf102, 2048, .inl f102)), (qf100, .inl (cf100, 48000, .inl f100))]) [0, 1, 2, 3] rfl) hsp
      · rw [if_neg (by decide)] at hsp
        refine lv_if_eq (tgt := 30) hx hb dX13_classNamed_24 (by decide) (fun c_4 => (show False by revert c_4; decide).elim) (fun c_4 => ?_)
        refine lv_iload hx hb dX13_classNamed_27 (lv_at hl 0 rfl) ?_
        have hr0 := Option.some.inj hsp
        clear hsp
        subst hr0
        have hP9 := hP.sub (ws' := [(h0, .inr (13, z_1)), (qf104, .inl (cf104, 8, .inl f104)), (qf102, .inl (cf102, 2048, .inl f102)), (qf100, .inl (cf100, 48000, .inl f100))]) [0, 1, 2, 3] rfl
        have hD9 := hD.sub (ws' := [(h0, .inr (13, z_1)), (qf104, .inl (cf104, 8, .inl f104)), (qf102, .inl (cf102, 2048, .inl f102)), (qf100, .inl (cf100, 48000, .inl f100))]) [0, 1, 2, 3] (by decide) rfl
        have hK9 := hK.sub (tys' := [(cf104, .int), (cf102, .int), (cf100, .int)]) [0, 1, 2] rfl
        exact W.iret hx hb hr (fun t ht hW => ⟨⟨(l4_3), (z_1), rfl, ⟨rfl, hln_1, hrq_1⟩, by rw [ht]; exact hP9, va_K.moved hW.alike hK9, hD9⟩, hS.F ht⟩) hS.2.2 dX13_classNamed_29
def sp_vm_classAtText (nf : Nat) (a1 : Int32) (a2 : Int32) (v98 : Int32) (f102 : Nat → Int32) (f100 : Nat → Int32) (f104 : Nat → Int32) (nS477 : Nat) (fS477 : Nat → Int32) : Option (Int32) := (if ((256 * a1) + a2) < 0 then none else if 2048 ≤ (((256 * a1) + a2) : Int32).toNatClampNeg then none else (if (((6000 * a1) + (f102 (((256 * a1) + a2) : Int32).toNatClampNeg)) + 1) < 0 then none else if 48000 ≤ ((((6000 * a1) + (f102 (((256 * a1) + a2) : Int32).toNatClampNeg)) + 1) : Int32).toNatClampNeg then none else ((sp_vm_classNamedB nf (((6000 * a1) + (f102 (((256 * a1) + a2) : Int32).toNatClampNeg)) + 2) (f100 ((((6000 * a1) + (f102 (((256 * a1) + a2) : Int32).toNatClampNeg)) + 1) : Int32).toNatClampNeg) v98 f104 f102 f100 nS477 fS477).bind (fun p1 => (some p1)))))
set_option maxHeartbeats 4000000 in
set_option maxRecDepth 100000 in
/-- ClassMillModel.classAtText -/
theorem vm_classAtText (l : Launch) (dC : Nat → ClassId) (dI : Nat → Nat → Nat) (sz : Nat) (h0 : Nat) (zs : (List Value)) (a1 : Int32) (a2 : Int32) (v98 : Int32) (qf100 : Nat) (qf102 : Nat) (qf104 : Nat) (cf102 : ClassId) (f102 : (Nat → Int32)) (cf100 : ClassId) (f100 : (Nat → Int32)) (cf104 : ClassId) (f104 : (Nat → Int32)) (nS477 : Nat) (fS477 : (Nat → Int32)) (hS477 : Nat) (qS477 : Nat) (tS477 : String) (nf : Nat) (r0 : Int32) (hlen : zs.length = 155) (hf98 : zs[98]? = some (.int v98)) (hf100 : zs[100]? = some (.ref qf100)) (hf102 : zs[102]? = some (.ref qf102)) (hf104 : zs[104]? = some (.ref qf104)) (hsp : sp_vm_classAtText nf a1 a2 v98 f102 f100 f104 nS477 fS477 = some r0) : Met l yX13_classAtText (.code yX13_classAtText cX13_classAtText 4 (some .int) :: VS_h9) ({ frames := 6, cells := 0, slots := 0, locals := 137 }) (va_Pc [.ref h0, .int a1, .int a2] (fun U => U.heap.size = sz ∧ va_P (dC, dI) vwCl [(h0, .inr (13, zs)), (qf102, .inl (cf102, 2048, .inl f102)), (qf100, .inl (cf100, 48000, .inl f100)), (qf104, .inl (cf104, 8, .inl f104))] U.heap ∧ va_K (dC, dI) vwCl [(cf102, .int), (cf100, .int), (cf104, .int)] U ∧ va_D (fun _ => True) [(h0, .inr (13, zs)), (qf102, .inl (cf102, 2048, .inl f102)), (qf100, .inl (cf100, 48000, .inl f100)), (qf104, .inl (cf104, 8, .inl f104))] ∧ pz_W nS477 fS477 hS477 qS477 (va_A [(h0, .inr (13, zs)), (qf102, .inl (cf102, 2048, .inl f102)), (qf100, .inl (cf100, 48000, .inl f100)), (qf104, .inl (cf104, 8, .inl f104))] sz) U U.heap ∧ vk_R RX13 477 tS477 hS477 U)) (va_Qi (fun (r : Int32) (u : (List Value)) => match u with | (zo1) => r0 = r ∧ zo1.length = 155 ∧ (∀ j : Nat, zo1[j]? = zs[j]?)) (fun (u : (List Value)) (t : State) => match u with | (zo1) => va_P (dC, dI) vwCl [(h0, .inr (13, zo1)), (qf102, .inl (cf102, 2048, .inl f102)), (qf100, .inl (cf100, 48000, .inl f100)), (qf104, .inl (cf104, 8, .inl f104))] t.heap ∧ va_K (dC, dI) vwCl [(cf102, .int), (cf100, .int), (cf104, .int)] t ∧ va_D (va_A [(h0, .inr (13, zs)), (qf102, .inl (cf102, 2048, .inl f102)), (qf100, .inl (cf100, 48000, .inl f100)), (qf104, .inl (cf104, 8, .inl f104))] sz) [(h0, .inr (13, zo1)), (qf102, .inl (cf102, 2048, .inl f102)), (qf100, .inl (cf100, 48000, .inl f100)), (qf104, .inl (cf104, 8, .inl f104))]) (va_A [(h0, .inr (13, zs)), (qf102, .inl (cf102, 2048, .inl f102)), (qf100, .inl (cf100, 48000, .inl f100)), (qf104, .inl (cf104, 8, .inl f104))] sz)) 0 0 (va_A [(h0, .inr (13, zs)), (qf102, .inl (cf102, 2048, .inl f102)), (qf100, .inl (cf100, 48000, .inl f100)), (qf104, .inl (cf104, 8, .inl f104))] sz) := by
  refine Met.ofW (cc := cX13_classAtText) (maxL := 4) (ret := (some .int)) (by decide) rfl ?_
  intro p e s m args below meth c s₁ B hml hv
  obtain ⟨rfl, hsz, hP, hK, hD0, hZWS477, hZRS477⟩ := hv
  have hx := B.exec
  have hb := B.bytes
  have hr := B.returns
  have hts := atoms_spec (ws := (.code yX13_classAtText cX13_classAtText 4 (some .int) :: VS_h9)) B.pre
  replace hts := fun w (h : w ∈ VS_h9) => hts w (List.mem_cons_of_mem _ h)
  have hown : s.vm.findClass RX13 = some m.cls := findClass_of_methodNamed B.named
  have hlocks := B.notSynchronized
  subst hsz
  have hD := hD0.self (sz := s.heap.size)
  generalize hAe : va_A [(h0, .inr (13, zs)), (qf102, .inl (cf102, 2048, .inl f102)), (qf100, .inl (cf100, 48000, .inl f100)), (qf104, .inl (cf104, 8, .inl f104))] s.heap.size = A at hD hZWS477 ⊢
  have hA : ∀ q : Nat, s.heap.size ≤ q → A q := fun q h => by rw [← hAe]; exact Or.inr h
  have hP : va_P (dC, dI) vwCl [(h0, .inr (13, zs)), (qf102, .inl (cf102, 2048, .inl f102)), (qf100, .inl (cf100, 48000, .inl f100)), (qf104, .inl (cf104, 8, .inl f104))] s.heap := hP
  have hl := lv_entry ([.ref h0, .int a1, .int a2]) (n := 4) (Nat.le_of_ble_eq_true rfl)
  rw [lg_entry_eq]
  generalize (lg_sl ([.ref h0, .int a1, .int a2]) ++ List.replicate (4 - (lg_sl ([.ref h0, .int a1, .int a2])).length) Slot.unset).toArray = ls at hl ⊢
  have hl : lv_has ls 4 [(0, .ref h0), (1, .int a1), (2, .int a2)] := hl
  obtain ⟨H, hH⟩ : ∃ H : Heap, s.heap = H := ⟨_, rfl⟩
  rw [hH] at hP ⊢
  have hS : va_S A s.heap H [] := by rw [← hH]; exact va_S.rf
  obtain ⟨locs, hlo⟩ : ∃ locs : List Loc, locs = [] := ⟨_, rfl⟩
  rw [← hlo] at hS ⊢
  have hrs0 : ∀ j : Nat, zs[j]? = zs[j]? := fun _  => rfl
  unfold sp_vm_classAtText at hsp
  refine lv_sipush (v := 6000) hx hb dX13_classAtText_0 (by decide) ?_
  refine lv_iload_n hx hb dX13_classAtText_3 rfl (lv_at hl 1 rfl) ?_
  refine lv_imul hx hb dX13_classAtText_4 ?_
  refine lv_aload_n hx hb dX13_classAtText_5 rfl (lv_at hl 0 rfl) ?_
  refine va_get (D := (dC, dI)) (ci := 13) (v := .ref qf102) (C := RX13) (T := TX13) (N := 155) hx hb hts uV_h9_X13 hown hK hP 0 rfl rfl 102 (by decide) (hts (.fieldLink RX13 215 "ClassMillModel" "constantAt" "[I") mw_h9_267) (fun _ h9 => h9) hf102 dX13_classAtText_6 ?_
  refine lv_sipush (v := 256) hx hb dX13_classAtText_9 (by decide) ?_
  refine lv_iload_n hx hb dX13_classAtText_12 rfl (lv_at hl 1 rfl) ?_
  refine lv_imul hx hb dX13_classAtText_13 ?_
  refine lv_iload_n hx hb dX13_classAtText_14 rfl (lv_at hl 2 rfl) ?_
  refine lv_iadd hx hb dX13_classAtText_15 ?_
  obtain ⟨hi_1, hsp⟩ := ox_in hsp
  refine va_iald hx hb hK hP 1 0 rfl rfl (i := ((256 * a1) + a2)) hi_1 dX13_classAtText_16 ?_
  refine lv_iadd hx hb dX13_classAtText_17 ?_
  refine lv_istore_n (lv' := [(3, .int ((6000 * a1) + (f102 (((256 * a1) + a2) : Int32).toNatClampNeg))), (0, .ref h0), (1, .int a1), (2, .int a2)]) hx hb dX13_classAtText_18 rfl hl (by decide) rfl (fun ls hl => ?_)
  refine lv_aload_n hx hb dX13_classAtText_19 rfl (lv_at hl 1 rfl) ?_
  refine lv_aload_n hx hb dX13_classAtText_20 rfl (lv_at hl 1 rfl) ?_
  refine va_get (D := (dC, dI)) (ci := 13) (v := .ref qf100) (C := RX13) (T := TX13) (N := 155) hx hb hts uV_h9_X13 hown hK hP 0 rfl rfl 100 (by decide) (hts (.fieldLink RX13 209 "ClassMillModel" "bytes" "[I") mw_h9_266) (fun _ h9 => h9) hf100 dX13_classAtText_21 ?_
  refine lv_iload_n hx hb dX13_classAtText_24 rfl (lv_at hl 0 rfl) ?_
  refine lv_iconst (v := 2) hx hb dX13_classAtText_25 (by decide) ?_
  refine lv_iadd hx hb dX13_classAtText_26 ?_
  refine lv_aload_n hx hb dX13_classAtText_27 rfl (lv_at hl 1 rfl) ?_
  refine va_get (D := (dC, dI)) (ci := 13) (v := .ref qf100) (C := RX13) (T := TX13) (N := 155) hx hb hts uV_h9_X13 hown hK hP 0 rfl rfl 100 (by decide) (hts (.fieldLink RX13 209 "ClassMillModel" "bytes" "[I") mw_h9_266) (fun _ h9 => h9) hf100 dX13_classAtText_28 ?_
  refine lv_iload_n hx hb dX13_classAtText_31 rfl (lv_at hl 0 rfl) ?_
  refine lv_iconst (v := 1) hx hb dX13_classAtText_32 (by decide) ?_
  refine lv_iadd hx hb dX13_classAtText_33 ?_
  obtain ⟨hi_2, hsp⟩ := ox_in hsp
  refine va_iald hx hb hK hP 2 1 rfl rfl (i := (((6000 * a1) + (f102 (((256 * a1) + a2) : Int32).toNatClampNeg)) + 1)) hi_2 dX13_classAtText_34 ?_
  obtain ⟨u1_0, hu_1, hsp⟩ := ox_bind hsp
  try dsimp only at hsp
  have hPc := hP.sub (ws' := [(h0, .inr (13, zs)), (qf104, .inl (cf104, 8, .inl f104)), (qf102, .inl (cf102, 2048, .inl f102)), (qf100, .inl (cf100, 48000, .inl f100))]) [0, 3, 1, 2] rfl
  have hDc := hD.sub (ws' := [(h0, .inr (13, zs)), (qf104, .inl (cf104, 8, .inl f104)), (qf102, .inl (cf102, 2048, .inl f102)), (qf100, .inl (cf100, 48000, .inl f100))]) [0, 3, 1, 2] (by decide) rfl
  have hKc := hK.sub (tys' := [(cf104, .int), (cf102, .int), (cf100, .int)]) [2, 0, 1] rfl
  have hFc := va_free (wc := [(h0, .inr (13, zs)), (qf104, .inl (cf104, 8, .inl f104)), (qf102, .inl (cf102, 2048, .inl f102)), (qf100, .inl (cf100, 48000, .inl f100))]) hD hS hA [0, 3, 1, 2] rfl
  refine va_calli (va_runV (As := [.ref qf100, .int (((6000 * a1) + (f102 (((256 * a1) + a2) : Int32).toNatClampNeg)) + 2), .int (f100 ((((6000 * a1) + (f102 (((256 * a1) + a2) : Int32).toNatClampNeg)) + 1) : Int32).toNatClampNeg)]) (rest := []) ⟨hx, hb, hml, hown, hts⟩ (vm_classNamedB l dC dI H.size h0 zs qf100 ((((6000 * a1) + (f102 (((256 * a1) + a2) : Int32).toNatClampNeg)) + 2)) ((f100 ((((6000 * a1) + (f102 (((256 * a1) + a2) : Int32).toNatClampNeg)) + 1) : Int32).toNatClampNeg)) v98 qf102 qf104 cf104 f104 cf102 f102 cf100 f100 nS477 fS477 hS477 qS477 tS477 nf u1_0 hlen hf98 hf100 hf102 hf104 hu_1) (cwV 3 hts gv_h9_96 rfl rfl rfl (by decide +kernel) ⟨Nat.le_of_ble_eq_true rfl, Nat.le_of_ble_eq_true rfl⟩) ⟨fun a U g mk q => by obtain ⟨q0, q1, qP, qK, qD, qhZWS477, qhZRS477⟩ := q; exact ⟨q0, q1, qP, va_K.moved (u := U) (U := U.calling g mk a) (Vm.Alike.refl U.vm) qK, qD, pz_W.moved (u := U) (U := U.calling g mk a) (Vm.Alike.refl U.vm) qhZWS477, vk_R.same rfl qhZRS477⟩, va_recv hKc hPc (ci := 13) (q0 := 0) rfl rfl, fun U hU hW => ⟨rfl, by rw [hU], by rw [hU]; exact hPc, va_K.moved hW.alike hKc, hDc.weaken (fun _ _ _ _ => trivial), by rw [hU]; exact ((pz_W.moved hW.alike hZWS477).kept hS.2.1).narrow hFc, vk_R.warm hW hZRS477⟩⟩ rfl rfl hl.1 rfl (lv_room (Nat.le_of_ble_eq_true rfl)) dX13_classAtText_35 ⟨Nat.le_of_ble_eq_true rfl, Nat.le_of_ble_eq_true rfl⟩) hS (fun q _ h => hFc q h) hFc ?_
  clear hS
  intro r_3 u t H1 locs ht hvm hw hB hz1 hk1 hS
  obtain ⟨z_1, rfl⟩ : ∃ z, z = u := ⟨_, rfl⟩
  obtain ⟨hP1, hK1, hD1⟩ := hB
  rw [ht] at hP1
  have hK1 := va_K.moved hvm.symm hK1
  try dsimp only at hw
  have hPD := va_join (wr := []) (w1 := [(h0, .inr (13, z_1)), (qf104, .inl (cf104, 8, .inl f104)), (qf102, .inl (cf102, 2048, .inl f102)), (qf100, .inl (cf100, 48000, .inl f100))]) hP hD [0, 3, 1, 2] [] rfl rfl (by decide) (by decide) hk1 hFc hP1 hD1
  clear hP hD
  obtain ⟨hP, hD⟩ := hPD
  replace hK := (hK.sub (tys' := []) [] rfl).app hK1
  clear hPc hDc hKc hFc hP1 hK1 hD1 hz1 hk1 ht hvm
  generalize H1 = H at hP hS ⊢
  replace hP : va_P (dC, dI) vwCl [(h0, .inr (13, z_1)), (qf104, .inl (cf104, 8, .inl f104)), (qf102, .inl (cf102, 2048, .inl f102)), (qf100, .inl (cf100, 48000, .inl f100))] H := hP
  replace hD : va_D A [(h0, .inr (13, z_1)), (qf104, .inl (cf104, 8, .inl f104)), (qf102, .inl (cf102, 2048, .inl f102)), (qf100, .inl (cf100, 48000, .inl f100))] := hD
  replace hK : va_K (dC, dI) vwCl [(cf104, .int), (cf102, .int), (cf100, .int)] s := hK
  obtain ⟨hwa_1, hln_1, hre_1⟩ := hw
  have hfk_1_98 : z_1[98]? = some (.int v98) := (hre_1 98 ).trans (hf98)
  have hfk_1_100 : z_1[100]? = some (.ref qf100) := (hre_1 100 ).trans (hf100)
  have hfk_1_102 : z_1[102]? = some (.ref qf102) := (hre_1 102 ).trans (hf102)
  have hfk_1_104 : z_1[104]? = some (.ref qf104) := (hre_1 104 ).trans (hf104)
  have hrq_1 : ∀ j : Nat, z_1[j]? = zs[j]? := fun j  => (hre_1 j ).trans (hrs0 j )
  obtain rfl := hwa_1
  have hr0 := Option.some.inj hsp
  clear hsp
  subst hr0
  have hP9 := hP.sub (ws' := [(h0, .inr (13, z_1)), (qf102, .inl (cf102, 2048, .inl f102)), (qf100, .inl (cf100, 48000, .inl f100)), (qf104, .inl (cf104, 8, .inl f104))]) [0, 2, 3, 1] rfl
  have hD9 := hD.sub (ws' := [(h0, .inr (13, z_1)), (qf102, .inl (cf102, 2048, .inl f102)), (qf100, .inl (cf100, 48000, .inl f100)), (qf104, .inl (cf104, 8, .inl f104))]) [0, 2, 3, 1] (by decide) rfl
  have hK9 := hK.sub (tys' := [(cf102, .int), (cf100, .int), (cf104, .int)]) [1, 2, 0] rfl
  exact W.iret hx hb hr (fun t ht hW => ⟨⟨(u1_0), (z_1), rfl, ⟨rfl, hln_1, hrq_1⟩, by rw [ht]; exact hP9, va_K.moved hW.alike hK9, hD9⟩, hS.F ht⟩) hS.2.2 dX13_classAtText_38
def sp_vm_superOf (nf : Nat) (a1 : Int32) (v98 : Int32) (f105 : Nat → Int32) (f102 : Nat → Int32) (f100 : Nat → Int32) (f104 : Nat → Int32) (nS477 : Nat) (fS477 : Nat → Int32) : Option (Int32) := (if 8 ≤ a1 then (if (a1 - 8) < 0 then none else if 8 ≤ ((a1 - 8) : Int32).toNatClampNeg then none else ((sp_tm_textOfClass nf (a1 - 8) (f105 ((a1 - 8) : Int32).toNatClampNeg) f102 f100).bind (fun p1 => ((sp_vm_classAtText nf (a1 - 8) p1 v98 f102 f100 f104 nS477 fS477).bind (fun p2 => (some p2)))))) else (if a1 = 0 then (some (-1)) else (if a1 = 1 then (some 0) else (some 1))))
set_option maxHeartbeats 4000000 in
set_option maxRecDepth 100000 in
/-- ClassMillModel.superOf -/
theorem vm_superOf (l : Launch) (dC : Nat → ClassId) (dI : Nat → Nat → Nat) (sz : Nat) (h0 : Nat) (zs : (List Value)) (a1 : Int32) (v98 : Int32) (qf100 : Nat) (qf102 : Nat) (qf104 : Nat) (qf105 : Nat) (cf105 : ClassId) (f105 : (Nat → Int32)) (cf102 : ClassId) (f102 : (Nat → Int32)) (cf100 : ClassId) (f100 : (Nat → Int32)) (cf104 : ClassId) (f104 : (Nat → Int32)) (nS477 : Nat) (fS477 : (Nat → Int32)) (hS477 : Nat) (qS477 : Nat) (tS477 : String) (nf : Nat) (r0 : Int32) (hlen : zs.length = 155) (hf98 : zs[98]? = some (.int v98)) (hf100 : zs[100]? = some (.ref qf100)) (hf102 : zs[102]? = some (.ref qf102)) (hf104 : zs[104]? = some (.ref qf104)) (hf105 : zs[105]? = some (.ref qf105)) (hsp : sp_vm_superOf nf a1 v98 f105 f102 f100 f104 nS477 fS477 = some r0) : Met l yX13_superOf (.code yX13_superOf cX13_superOf 2 (some .int) :: VS_h9) ({ frames := 7, cells := 0, slots := 0, locals := 160 }) (va_Pc [.ref h0, .int a1] (fun U => U.heap.size = sz ∧ va_P (dC, dI) vwCl [(h0, .inr (13, zs)), (qf105, .inl (cf105, 8, .inl f105)), (qf102, .inl (cf102, 2048, .inl f102)), (qf100, .inl (cf100, 48000, .inl f100)), (qf104, .inl (cf104, 8, .inl f104))] U.heap ∧ va_K (dC, dI) vwCl [(cf105, .int), (cf102, .int), (cf100, .int), (cf104, .int)] U ∧ va_D (fun _ => True) [(h0, .inr (13, zs)), (qf105, .inl (cf105, 8, .inl f105)), (qf102, .inl (cf102, 2048, .inl f102)), (qf100, .inl (cf100, 48000, .inl f100)), (qf104, .inl (cf104, 8, .inl f104))] ∧ pz_W nS477 fS477 hS477 qS477 (va_A [(h0, .inr (13, zs)), (qf105, .inl (cf105, 8, .inl f105)), (qf102, .inl (cf102, 2048, .inl f102)), (qf100, .inl (cf100, 48000, .inl f100)), (qf104, .inl (cf104, 8, .inl f104))] sz) U U.heap ∧ vk_R RX13 477 tS477 hS477 U)) (va_Qi (fun (r : Int32) (u : (List Value)) => match u with | (zo1) => r0 = r ∧ zo1.length = 155 ∧ (∀ j : Nat, zo1[j]? = zs[j]?)) (fun (u : (List Value)) (t : State) => match u with | (zo1) => va_P (dC, dI) vwCl [(h0, .inr (13, zo1)), (qf105, .inl (cf105, 8, .inl f105)), (qf102, .inl (cf102, 2048, .inl f102)), (qf100, .inl (cf100, 48000, .inl f100)), (qf104, .inl (cf104, 8, .inl f104))] t.heap ∧ va_K (dC, dI) vwCl [(cf105, .int), (cf102, .int), (cf100, .int), (cf104, .int)] t ∧ va_D (va_A [(h0, .inr (13, zs)), (qf105, .inl (cf105, 8, .inl f105)), (qf102, .inl (cf102, 2048, .inl f102)), (qf100, .inl (cf100, 48000, .inl f100)), (qf104, .inl (cf104, 8, .inl f104))] sz) [(h0, .inr (13, zo1)), (qf105, .inl (cf105, 8, .inl f105)), (qf102, .inl (cf102, 2048, .inl f102)), (qf100, .inl (cf100, 48000, .inl f100)), (qf104, .inl (cf104, 8, .inl f104))]) (va_A [(h0, .inr (13, zs)), (qf105, .inl (cf105, 8, .inl f105)), (qf102, .inl (cf102, 2048, .inl f102)), (qf100, .inl (cf100, 48000, .inl f100)), (qf104, .inl (cf104, 8, .inl f104))] sz)) 0 0 (va_A [(h0, .inr (13, zs)), (qf105, .inl (cf105, 8, .inl f105)), (qf102, .inl (cf102, 2048, .inl f102)), (qf100, .inl (cf100, 48000, .inl f100)), (qf104, .inl (cf104, 8, .inl f104))] sz) := by
  refine Met.ofW (cc := cX13_superOf) (maxL := 2) (ret := (some .int)) (by decide) rfl ?_
  intro p e s m args below meth c s₁ B hml hv
  obtain ⟨rfl, hsz, hP, hK, hD0, hZWS477, hZRS477⟩ := hv
  have hx := B.exec
  have hb := B.bytes
  have hr := B.returns
  have hts := atoms_spec (ws := (.code yX13_superOf cX13_superOf 2 (some .int) :: VS_h9)) B.pre
  replace hts := fun w (h : w ∈ VS_h9) => hts w (List.mem_cons_of_mem _ h)
  have hown : s.vm.findClass RX13 = some m.cls := findClass_of_methodNamed B.named
  have hlocks := B.notSynchronized
  subst hsz
  have hD := hD0.self (sz := s.heap.size)
  generalize hAe : va_A [(h0, .inr (13, zs)), (qf105, .inl (cf105, 8, .inl f105)), (qf102, .inl (cf102, 2048, .inl f102)), (qf100, .inl (cf100, 48000, .inl f100)), (qf104, .inl (cf104, 8, .inl f104))] s.heap.size = A at hD hZWS477 ⊢
  have hA : ∀ q : Nat, s.heap.size ≤ q → A q := fun q h => by rw [← hAe]; exact Or.inr h
  have hP : va_P (dC, dI) vwCl [(h0, .inr (13, zs)), (qf105, .inl (cf105, 8, .inl f105)), (qf102, .inl (cf102, 2048, .inl f102)), (qf100, .inl (cf100, 48000, .inl f100)), (qf104, .inl (cf104, 8, .inl f104))] s.heap := hP
  have hl := lv_entry ([.ref h0, .int a1]) (n := 2) (Nat.le_of_ble_eq_true rfl)
  rw [lg_entry_eq]
  generalize (lg_sl ([.ref h0, .int a1]) ++ List.replicate (2 - (lg_sl ([.ref h0, .int a1])).length) Slot.unset).toArray = ls at hl ⊢
  have hl : lv_has ls 2 [(0, .ref h0), (1, .int a1)] := hl
  obtain ⟨H, hH⟩ : ∃ H : Heap, s.heap = H := ⟨_, rfl⟩
  rw [hH] at hP ⊢
  have hS : va_S A s.heap H [] := by rw [← hH]; exact va_S.rf
  obtain ⟨locs, hlo⟩ : ∃ locs : List Loc, locs = [] := ⟨_, rfl⟩
  rw [← hlo] at hS ⊢
  have hrs0 : ∀ j : Nat, zs[j]? = zs[j]? := fun _  => rfl
  unfold sp_vm_superOf at hsp
  refine lv_iload_n hx hb dX13_superOf_0 rfl (lv_at hl 1 rfl) ?_
  refine lv_bipush (v := 8) hx hb dX13_superOf_1 (by decide) ?_
  refine lv_icmp_ge (tgt := 25) hx hb dX13_superOf_3 (by decide) (fun c_1 => ?_) (fun c_1 => ?_)
  · rw [if_pos c_1] at hsp
    refine lv_aload_n hx hb dX13_superOf_25 rfl (lv_at hl 0 rfl) ?_
    refine lv_iload_n hx hb dX13_superOf_26 rfl (lv_at hl 1 rfl) ?_
    refine lv_bipush (v := 8) hx hb dX13_superOf_27 (by decide) ?_
    refine lv_isub hx hb dX13_superOf_29 ?_
    refine lv_aload_n hx hb dX13_superOf_30 rfl (lv_at hl 0 rfl) ?_
    refine lv_iload_n hx hb dX13_superOf_31 rfl (lv_at hl 1 rfl) ?_
    refine lv_bipush (v := 8) hx hb dX13_superOf_32 (by decide) ?_
    refine lv_isub hx hb dX13_superOf_34 ?_
    refine lv_aload_n hx hb dX13_superOf_35 rfl (lv_at hl 0 rfl) ?_
    refine va_get (D := (dC, dI)) (ci := 13) (v := .ref qf105) (C := RX13) (T := TX13) (N := 155) hx hb hts uV_h9_X13 hown hK hP 0 rfl rfl 105 (by decide) (hts (.fieldLink RX13 224 "ClassMillModel" "ownUpper" "[I") mw_h9_280) (fun _ h9 => h9) hf105 dX13_superOf_36 ?_
    refine lv_iload_n hx hb dX13_superOf_39 rfl (lv_at hl 1 rfl) ?_
    refine lv_bipush (v := 8) hx hb dX13_superOf_40 (by decide) ?_
    refine lv_isub hx hb dX13_superOf_42 ?_
    obtain ⟨hi_2, hsp⟩ := ox_in hsp
    refine va_iald hx hb hK hP 1 0 rfl rfl (i := (a1 - 8)) hi_2 dX13_superOf_43 ?_
    obtain ⟨u1_0, hu_1, hsp⟩ := ox_bind hsp
    try dsimp only at hsp
    have hPc := hP.sub (ws' := [(h0, .inr (13, zs)), (qf102, .inl (cf102, 2048, .inl f102)), (qf100, .inl (cf100, 48000, .inl f100))]) [0, 2, 3] rfl
    have hDc := hD.sub (ws' := [(h0, .inr (13, zs)), (qf102, .inl (cf102, 2048, .inl f102)), (qf100, .inl (cf100, 48000, .inl f100))]) [0, 2, 3] (by decide) rfl
    have hKc := hK.sub (tys' := [(cf102, .int), (cf100, .int)]) [1, 2] rfl
    have hFc := va_free (wc := [(h0, .inr (13, zs)), (qf102, .inl (cf102, 2048, .inl f102)), (qf100, .inl (cf100, 48000, .inl f100))]) hD hS hA [0, 2, 3] rfl
    refine va_calli (va_runV (As := [.int (a1 - 8), .int (f105 ((a1 - 8) : Int32).toNatClampNeg)]) (rest := [.int (a1 - 8), .ref h0]) ⟨hx, hb, hml, hown, hts⟩ (tm_textOfClass l dC dI H.size h0 zs ((a1 - 8)) ((f105 ((a1 - 8) : Int32).toNatClampNeg)) qf100 qf102 cf102 f102 cf100 f100 nf u1_0 hlen hf100 hf102 hu_1) (cwV 2 hts gv_h9_55 rfl rfl rfl (by decide +kernel) ⟨Nat.le_of_ble_eq_true rfl, Nat.le_of_ble_eq_true rfl⟩) ⟨fun a U g mk q => by obtain ⟨q0, q1, qP, qK, qD⟩ := q; exact ⟨q0, q1, qP, va_K.moved (u := U) (U := U.calling g mk a) (Vm.Alike.refl U.vm) qK, qD⟩, va_recv hKc hPc (ci := 13) (q0 := 0) rfl rfl, fun U hU hW => ⟨rfl, by rw [hU], by rw [hU]; exact hPc, va_K.moved hW.alike hKc, hDc.weaken (fun _ _ _ _ => trivial)⟩⟩ rfl rfl hl.1 rfl (lv_room (Nat.le_of_ble_eq_true rfl)) dX13_superOf_44 ⟨Nat.le_of_ble_eq_true rfl, Nat.le_of_ble_eq_true rfl⟩) hS (fun q _ h => hFc q h) hFc ?_
    clear hS
    intro r_3 u t H1 locs ht hvm hw hB hz1 hk1 hS
    obtain ⟨z_1, rfl⟩ : ∃ z, z = u := ⟨_, rfl⟩
    obtain ⟨hP1, hK1, hD1⟩ := hB
    rw [ht] at hP1
    have hK1 := va_K.moved hvm.symm hK1
    try dsimp only at hw
    have hPD := va_join (wr := [(qf105, .inl (cf105, 8, .inl f105)), (qf104, .inl (cf104, 8, .inl f104))]) (w1 := [(h0, .inr (13, z_1)), (qf102, .inl (cf102, 2048, .inl f102)), (qf100, .inl (cf100, 48000, .inl f100))]) hP hD [0, 2, 3] [1, 4] rfl rfl (by decide) (by decide) hk1 hFc hP1 hD1
    clear hP hD
    obtain ⟨hP, hD⟩ := hPD
    replace hK := (hK.sub (tys' := [(cf105, .int), (cf104, .int)]) [0, 3] rfl).app hK1
    clear hPc hDc hKc hFc hP1 hK1 hD1 hz1 hk1 ht hvm
    generalize H1 = H at hP hS ⊢
    replace hP : va_P (dC, dI) vwCl [(qf105, .inl (cf105, 8, .inl f105)), (qf104, .inl (cf104, 8, .inl f104)), (h0, .inr (13, z_1)), (qf102, .inl (cf102, 2048, .inl f102)), (qf100, .inl (cf100, 48000, .inl f100))] H := hP
    replace hD : va_D A [(qf105, .inl (cf105, 8, .inl f105)), (qf104, .inl (cf104, 8, .inl f104)), (h0, .inr (13, z_1)), (qf102, .inl (cf102, 2048, .inl f102)), (qf100, .inl (cf100, 48000, .inl f100))] := hD
    replace hK : va_K (dC, dI) vwCl [(cf105, .int), (cf104, .int), (cf102, .int), (cf100, .int)] s := hK
    obtain ⟨hwa_1, hln_1, hre_1⟩ := hw
    have hfk_1_98 : z_1[98]? = some (.int v98) := (hre_1 98 ).trans (hf98)
    have hfk_1_100 : z_1[100]? = some (.ref qf100) := (hre_1 100 ).trans (hf100)
    have hfk_1_102 : z_1[102]? = some (.ref qf102) := (hre_1 102 ).trans (hf102)
    have hfk_1_104 : z_1[104]? = some (.ref qf104) := (hre_1 104 ).trans (hf104)
    have hfk_1_105 : z_1[105]? = some (.ref qf105) := (hre_1 105 ).trans (hf105)
    have hrq_1 : ∀ j : Nat, z_1[j]? = zs[j]? := fun j  => (hre_1 j ).trans (hrs0 j )
    obtain rfl := hwa_1
    obtain ⟨u2_0, hu_2, hsp⟩ := ox_bind hsp
    try dsimp only at hsp
    have hPc := hP.sub (ws' := [(h0, .inr (13, z_1)), (qf102, .inl (cf102, 2048, .inl f102)), (qf100, .inl (cf100, 48000, .inl f100)), (qf104, .inl (cf104, 8, .inl f104))]) [2, 3, 4, 1] rfl
    have hDc := hD.sub (ws' := [(h0, .inr (13, z_1)), (qf102, .inl (cf102, 2048, .inl f102)), (qf100, .inl (cf100, 48000, .inl f100)), (qf104, .inl (cf104, 8, .inl f104))]) [2, 3, 4, 1] (by decide) rfl
    have hKc := hK.sub (tys' := [(cf102, .int), (cf100, .int), (cf104, .int)]) [2, 3, 1] rfl
    have hFc := va_free (wc := [(h0, .inr (13, z_1)), (qf102, .inl (cf102, 2048, .inl f102)), (qf100, .inl (cf100, 48000, .inl f100)), (qf104, .inl (cf104, 8, .inl f104))]) hD hS hA [2, 3, 4, 1] rfl
    refine va_calli (va_runV (As := [.int (a1 - 8), .int u1_0]) (rest := []) ⟨hx, hb, hml, hown, hts⟩ (vm_classAtText l dC dI H.size h0 z_1 ((a1 - 8)) u1_0 v98 qf100 qf102 qf104 cf102 f102 cf100 f100 cf104 f104 nS477 fS477 hS477 qS477 tS477 nf u2_0 hln_1 hfk_1_98 hfk_1_100 hfk_1_102 hfk_1_104 hu_2) (cwV 2 hts gv_h9_97 rfl rfl rfl (by decide +kernel) ⟨Nat.le_of_ble_eq_true rfl, Nat.le_of_ble_eq_true rfl⟩) ⟨fun a U g mk q => by obtain ⟨q0, q1, qP, qK, qD, qhZWS477, qhZRS477⟩ := q; exact ⟨q0, q1, qP, va_K.moved (u := U) (U := U.calling g mk a) (Vm.Alike.refl U.vm) qK, qD, pz_W.moved (u := U) (U := U.calling g mk a) (Vm.Alike.refl U.vm) qhZWS477, vk_R.same rfl qhZRS477⟩, va_recv hKc hPc (ci := 13) (q0 := 0) rfl rfl, fun U hU hW => ⟨rfl, by rw [hU], by rw [hU]; exact hPc, va_K.moved hW.alike hKc, hDc.weaken (fun _ _ _ _ => trivial), by rw [hU]; exact ((pz_W.moved hW.alike hZWS477).kept hS.2.1).narrow hFc, vk_R.warm hW hZRS477⟩⟩ rfl rfl hl.1 rfl (lv_room (Nat.le_of_ble_eq_true rfl)) dX13_superOf_47 ⟨Nat.le_of_ble_eq_true rfl, Nat.le_of_ble_eq_true rfl⟩) hS (fun q _ h => hFc q h) hFc ?_
    clear hS
    intro r_4 u t H1 locs ht hvm hw hB hz1 hk1 hS
    obtain ⟨z_2, rfl⟩ : ∃ z, z = u := ⟨_, rfl⟩
    obtain ⟨hP1, hK1, hD1⟩ := hB
    rw [ht] at hP1
    have hK1 := va_K.moved hvm.symm hK1
    try dsimp only at hw
    have hPD := va_join (wr := [(qf105, .inl (cf105, 8, .inl f105))]) (w1 := [(h0, .inr (13, z_2)), (qf102, .inl (cf102, 2048, .inl f102)), (qf100, .inl (cf100, 48000, .inl f100)), (qf104, .inl (cf104, 8, .inl f104))]) hP hD [2, 3, 4, 1] [0] rfl rfl (by decide) (by decide) hk1 hFc hP1 hD1
    clear hP hD
    obtain ⟨hP, hD⟩ := hPD
    replace hK := (hK.sub (tys' := [(cf105, .int)]) [0] rfl).app hK1
    clear hPc hDc hKc hFc hP1 hK1 hD1 hz1 hk1 ht hvm
    generalize H1 = H at hP hS ⊢
    replace hP : va_P (dC, dI) vwCl [(qf105, .inl (cf105, 8, .inl f105)), (h0, .inr (13, z_2)), (qf102, .inl (cf102, 2048, .inl f102)), (qf100, .inl (cf100, 48000, .inl f100)), (qf104, .inl (cf104, 8, .inl f104))] H := hP
    replace hD : va_D A [(qf105, .inl (cf105, 8, .inl f105)), (h0, .inr (13, z_2)), (qf102, .inl (cf102, 2048, .inl f102)), (qf100, .inl (cf100, 48000, .inl f100)), (qf104, .inl (cf104, 8, .inl f104))] := hD
    replace hK : va_K (dC, dI) vwCl [(cf105, .int), (cf102, .int), (cf100, .int), (cf104, .int)] s := hK
    obtain ⟨hwa_2, hln_2, hre_2⟩ := hw
    have hfk_2_98 : z_2[98]? = some (.int v98) := (hre_2 98 ).trans (hfk_1_98)
    have hfk_2_100 : z_2[100]? = some (.ref qf100) := (hre_2 100 ).trans (hfk_1_100)
    have hfk_2_102 : z_2[102]? = some (.ref qf102) := (hre_2 102 ).trans (hfk_1_102)
    have hfk_2_104 : z_2[104]? = some (.ref qf104) := (hre_2 104 ).trans (hfk_1_104)
    have hfk_2_105 : z_2[105]? = some (.ref qf105) := (hre_2 105 ).trans (hfk_1_105)
    have hrq_2 : ∀ j : Nat, z_2[j]? = zs[j]? := fun j  => (hre_2 j ).trans (hrq_1 j )
    obtain rfl := hwa_2
    have hr0 := Option.some.inj hsp
    clear hsp
    subst hr0
    have hP9 := hP.sub (ws' := [(h0, .inr (13, z_2)), (qf105, .inl (cf105, 8, .inl f105)), (qf102, .inl (cf102, 2048, .inl f102)), (qf100, .inl (cf100, 48000, .inl f100)), (qf104, .inl (cf104, 8, .inl f104))]) [1, 0, 2, 3, 4] rfl
    have hD9 := hD.sub (ws' := [(h0, .inr (13, z_2)), (qf105, .inl (cf105, 8, .inl f105)), (qf102, .inl (cf102, 2048, .inl f102)), (qf100, .inl (cf100, 48000, .inl f100)), (qf104, .inl (cf104, 8, .inl f104))]) [1, 0, 2, 3, 4] (by decide) rfl
    have hK9 := hK.sub (tys' := [(cf105, .int), (cf102, .int), (cf100, .int), (cf104, .int)]) [0, 1, 2, 3] rfl
    exact W.iret hx hb hr (fun t ht hW => ⟨⟨(u2_0), (z_2), rfl, ⟨rfl, hln_2, hrq_2⟩, by rw [ht]; exact hP9, va_K.moved hW.alike hK9, hD9⟩, hS.F ht⟩) hS.2.2 dX13_superOf_50
  · rw [if_neg c_1] at hsp
    refine lv_iload_n hx hb dX13_superOf_6 rfl (lv_at hl 1 rfl) ?_
    refine lv_if_ne (tgt := 14) hx hb dX13_superOf_7 (by decide) (fun c_5 => ?_) (fun c_5 => ?_)
    · rw [if_neg c_5] at hsp
      refine lv_iload_n hx hb dX13_superOf_14 rfl (lv_at hl 1 rfl) ?_
      refine lv_iconst (v := 1) hx hb dX13_superOf_15 (by decide) ?_
      refine lv_icmp_ne (tgt := 23) hx hb dX13_superOf_16 (by decide) (fun c_6 => ?_) (fun c_6 => ?_)
      · rw [if_neg c_6] at hsp
        refine lv_iconst (v := 1) hx hb dX13_superOf_23 (by decide) ?_
        have hr0 := Option.some.inj hsp
        clear hsp
        subst hr0
        have hP9 := hP.sub (ws' := [(h0, .inr (13, zs)), (qf105, .inl (cf105, 8, .inl f105)), (qf102, .inl (cf102, 2048, .inl f102)), (qf100, .inl (cf100, 48000, .inl f100)), (qf104, .inl (cf104, 8, .inl f104))]) [0, 1, 2, 3, 4] rfl
        have hD9 := hD.sub (ws' := [(h0, .inr (13, zs)), (qf105, .inl (cf105, 8, .inl f105)), (qf102, .inl (cf102, 2048, .inl f102)), (qf100, .inl (cf100, 48000, .inl f100)), (qf104, .inl (cf104, 8, .inl f104))]) [0, 1, 2, 3, 4] (by decide) rfl
        have hK9 := hK.sub (tys' := [(cf105, .int), (cf102, .int), (cf100, .int), (cf104, .int)]) [0, 1, 2, 3] rfl
        exact W.iret hx hb hr (fun t ht hW => ⟨⟨(1), (zs), rfl, ⟨rfl, hlen, hrs0⟩, by rw [ht]; exact hP9, va_K.moved hW.alike hK9, hD9⟩, hS.F ht⟩) hS.2.2 dX13_superOf_24
      · rw [if_pos c_6] at hsp
        refine lv_iconst (v := 0) hx hb dX13_superOf_19 (by decide) ?_
        refine lv_goto (tgt := 24) hx hb dX13_superOf_20 (by decide) ?_
        have hr0 := Option.some.inj hsp
        clear hsp
        subst hr0
        have hP9 := hP.sub (ws' := [(h0, .inr (13, zs)), (qf105, .inl (cf105, 8, .inl f105)), (qf102, .inl (cf102, 2048, .inl f102)), (qf100, .inl (cf100, 48000, .inl f100)), (qf104, .inl (cf104, 8, .inl f104))]) [0, 1, 2, 3, 4] rfl
        have hD9 := hD.sub (ws' := [(h0, .inr (13, zs)), (qf105, .inl (cf105, 8, .inl f105)), (qf102, .inl (cf102, 2048, .inl f102)), (qf100, .inl (cf100, 48000, .inl f100)), (qf104, .inl (cf104, 8, .inl f104))]) [0, 1, 2, 3, 4] (by decide) rfl
        have hK9 := hK.sub (tys' := [(cf105, .int), (cf102, .int), (cf100, .int), (cf104, .int)]) [0, 1, 2, 3] rfl
        exact W.iret hx hb hr (fun t ht hW => ⟨⟨(0), (zs), rfl, ⟨rfl, hlen, hrs0⟩, by rw [ht]; exact hP9, va_K.moved hW.alike hK9, hD9⟩, hS.F ht⟩) hS.2.2 dX13_superOf_24
    · rw [if_pos c_5] at hsp
      refine lv_iconst (v := (-1)) hx hb dX13_superOf_10 (by decide) ?_
      refine lv_goto (tgt := 24) hx hb dX13_superOf_11 (by decide) ?_
      have hr0 := Option.some.inj hsp
      clear hsp
      subst hr0
      have hP9 := hP.sub (ws' := [(h0, .inr (13, zs)), (qf105, .inl (cf105, 8, .inl f105)), (qf102, .inl (cf102, 2048, .inl f102)), (qf100, .inl (cf100, 48000, .inl f100)), (qf104, .inl (cf104, 8, .inl f104))]) [0, 1, 2, 3, 4] rfl
      have hD9 := hD.sub (ws' := [(h0, .inr (13, zs)), (qf105, .inl (cf105, 8, .inl f105)), (qf102, .inl (cf102, 2048, .inl f102)), (qf100, .inl (cf100, 48000, .inl f100)), (qf104, .inl (cf104, 8, .inl f104))]) [0, 1, 2, 3, 4] (by decide) rfl
      have hK9 := hK.sub (tys' := [(cf105, .int), (cf102, .int), (cf100, .int), (cf104, .int)]) [0, 1, 2, 3] rfl
      exact W.iret hx hb hr (fun t ht hW => ⟨⟨((-1)), (zs), rfl, ⟨rfl, hlen, hrs0⟩, by rw [ht]; exact hP9, va_K.moved hW.alike hK9, hD9⟩, hS.F ht⟩) hS.2.2 dX13_superOf_24
def lp_vm_isUnder_5 (nf n : Nat) (a1 : Int32) (a2 : Int32) (v98 : Int32) (f105 : Nat → Int32) (f102 : Nat → Int32) (f100 : Nat → Int32) (f104 : Nat → Int32) (nS477 : Nat) (fS477 : Nat → Int32)  (l2_5 : Int32) (l3_5 : Int32) (l4_5 : Int32) : Option (Int32) := match n with
  | 0 => none
  | n + 1 => (if 16 < l4_5 then (some 0) else (if l3_5 = (-1) then (some 0) else (if l3_5 = l2_5 then (some 1) else ((sp_vm_superOf nf l3_5 v98 f105 f102 f100 f104 nS477 fS477).bind (fun p1 => (lp_vm_isUnder_5 nf n a1 a2 v98 f105 f102 f100 f104 nS477 fS477 l2_5 p1 (l4_5 + 1)))))))
def sp_vm_isUnder (nf : Nat) (a1 : Int32) (a2 : Int32) (v98 : Int32) (f105 : Nat → Int32) (f102 : Nat → Int32) (f100 : Nat → Int32) (f104 : Nat → Int32) (nS477 : Nat) (fS477 : Nat → Int32) : Option (Int32) := (lp_vm_isUnder_5 nf nf a1 a2 v98 f105 f102 f100 f104 nS477 fS477  a2 a1 0)

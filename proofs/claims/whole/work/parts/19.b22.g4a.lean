set_option maxHeartbeats 4000000 in
set_option maxRecDepth 100000 in
/-- ClassMill$Text.scanToken -/
theorem v9_scanToken (l : Launch) (dC : Nat → ClassId) (dI : Nat → Nat → Nat) (sz : Nat) (h0 : Nat) (qa1 : Nat) (a2 : Int32) (a3 : Int32) (qf0 : Nat) (qf1 : Nat) (qf2 : Nat) (v3 : Int32) (qf4 : Nat) (qf5 : Nat) (qf6 : Nat) (qf7 : Nat) (qf8 : Nat) (v9 : Int32) (v10 : Int32) (v11 : Int32) (v12 : Int32) (ca1 : ClassId) (na1 : Nat) (fa1 : (Nat → Int32)) (cf0 : ClassId) (f0 : (Nat → Int32)) (cf1 : ClassId) (f1 : (Nat → Int32)) (cf2 : ClassId) (f2 : (Nat → Int32)) (cf7 : ClassId) (f7 : (Nat → Int32)) (cf5 : ClassId) (f5 : (Nat → Int32)) (cf4 : ClassId) (f4 : (Nat → Int32)) (cf6 : ClassId) (f6 : (Nat → Int32)) (nf : Nat) (r0 : Int32) (o0 : (Nat → Int32)) (o1 : (Nat → Int32)) (o2 : (Nat → Int32)) (o4 : (Nat → Int32)) (o5 : (Nat → Int32)) (o6 : (Nat → Int32)) (o7 : (Nat → Int32)) (w3 : Int32) (w9 : Int32) (hsp : sp_v9_scanToken nf a2 a3 v3 v9 na1 fa1 f0 f1 f2 f7 f5 f4 f6 = some (r0, o0, o1, o2, o4, o5, o6, o7, w3, w9)) : Met l yX9_scanToken (.code yX9_scanToken cX9_scanToken 8 (some .int) :: VS_h7) ({ frames := 4, cells := 0, slots := 0, locals := 97 }) (va_Pc [.ref h0, .ref qa1, .int a2, .int a3] (fun U => U.heap.size = sz ∧ va_P (dC, dI) vwCl [(h0, .inr (9, [.ref qf0, .ref qf1, .ref qf2, .int v3, .ref qf4, .ref qf5, .ref qf6, .ref qf7, .ref qf8, .int v9, .int v10, .int v11, .int v12])), (qa1, .inl (ca1, na1, .inl fa1)), (qf0, .inl (cf0, 3001, .inl f0)), (qf1, .inl (cf1, 3001, .inl f1)), (qf2, .inl (cf2, 3001, .inl f2)), (qf7, .inl (cf7, 64, .inl f7)), (qf5, .inl (cf5, 1741, .inl f5)), (qf4, .inl (cf4, 6400, .inl f4)), (qf6, .inl (cf6, 1740, .inl f6))] U.heap ∧ va_K (dC, dI) vwCl [(ca1, .byte), (cf0, .int), (cf1, .int), (cf2, .int), (cf7, .int), (cf5, .int), (cf4, .byte), (cf6, .int)] U ∧ va_D (fun _ => True) [(h0, .inr (9, [.ref qf0, .ref qf1, .ref qf2, .int v3, .ref qf4, .ref qf5, .ref qf6, .ref qf7, .ref qf8, .int v9, .int v10, .int v11, .int v12])), (qa1, .inl (ca1, na1, .inl fa1)), (qf0, .inl (cf0, 3001, .inl f0)), (qf1, .inl (cf1, 3001, .inl f1)), (qf2, .inl (cf2, 3001, .inl f2)), (qf7, .inl (cf7, 64, .inl f7)), (qf5, .inl (cf5, 1741, .inl f5)), (qf4, .inl (cf4, 6400, .inl f4)), (qf6, .inl (cf6, 1740, .inl f6))])) (va_Qi (fun (r : Int32) (u : Unit) => match u with | () => r0 = r) (fun (u : Unit) (t : State) => match u with | () => va_P (dC, dI) vwCl [(h0, .inr (9, [.ref qf0, .ref qf1, .ref qf2, .int w3, .ref qf4, .ref qf5, .ref qf6, .ref qf7, .ref qf8, .int w9, .int v10, .int v11, .int v12])), (qa1, .inl (ca1, na1, .inl fa1)), (qf0, .inl (cf0, 3001, .inl o0)), (qf1, .inl (cf1, 3001, .inl o1)), (qf2, .inl (cf2, 3001, .inl o2)), (qf7, .inl (cf7, 64, .inl o7)), (qf5, .inl (cf5, 1741, .inl o5)), (qf4, .inl (cf4, 6400, .inl o4)), (qf6, .inl (cf6, 1740, .inl o6))] t.heap ∧ va_K (dC, dI) vwCl [(ca1, .byte), (cf0, .int), (cf1, .int), (cf2, .int), (cf7, .int), (cf5, .int), (cf4, .byte), (cf6, .int)] t ∧ va_D (va_A [(h0, .inr (9, [.ref qf0, .ref qf1, .ref qf2, .int v3, .ref qf4, .ref qf5, .ref qf6, .ref qf7, .ref qf8, .int v9, .int v10, .int v11, .int v12])), (qa1, .inl (ca1, na1, .inl fa1)), (qf0, .inl (cf0, 3001, .inl f0)), (qf1, .inl (cf1, 3001, .inl f1)), (qf2, .inl (cf2, 3001, .inl f2)), (qf7, .inl (cf7, 64, .inl f7)), (qf5, .inl (cf5, 1741, .inl f5)), (qf4, .inl (cf4, 6400, .inl f4)), (qf6, .inl (cf6, 1740, .inl f6))] sz) [(h0, .inr (9, [.ref qf0, .ref qf1, .ref qf2, .int w3, .ref qf4, .ref qf5, .ref qf6, .ref qf7, .ref qf8, .int w9, .int v10, .int v11, .int v12])), (qa1, .inl (ca1, na1, .inl fa1)), (qf0, .inl (cf0, 3001, .inl o0)), (qf1, .inl (cf1, 3001, .inl o1)), (qf2, .inl (cf2, 3001, .inl o2)), (qf7, .inl (cf7, 64, .inl o7)), (qf5, .inl (cf5, 1741, .inl o5)), (qf4, .inl (cf4, 6400, .inl o4)), (qf6, .inl (cf6, 1740, .inl o6))]) (va_A [(h0, .inr (9, [.ref qf0, .ref qf1, .ref qf2, .int v3, .ref qf4, .ref qf5, .ref qf6, .ref qf7, .ref qf8, .int v9, .int v10, .int v11, .int v12])), (qa1, .inl (ca1, na1, .inl fa1)), (qf0, .inl (cf0, 3001, .inl f0)), (qf1, .inl (cf1, 3001, .inl f1)), (qf2, .inl (cf2, 3001, .inl f2)), (qf7, .inl (cf7, 64, .inl f7)), (qf5, .inl (cf5, 1741, .inl f5)), (qf4, .inl (cf4, 6400, .inl f4)), (qf6, .inl (cf6, 1740, .inl f6))] sz)) 0 0 (va_A [(h0, .inr (9, [.ref qf0, .ref qf1, .ref qf2, .int v3, .ref qf4, .ref qf5, .ref qf6, .ref qf7, .ref qf8, .int v9, .int v10, .int v11, .int v12])), (qa1, .inl (ca1, na1, .inl fa1)), (qf0, .inl (cf0, 3001, .inl f0)), (qf1, .inl (cf1, 3001, .inl f1)), (qf2, .inl (cf2, 3001, .inl f2)), (qf7, .inl (cf7, 64, .inl f7)), (qf5, .inl (cf5, 1741, .inl f5)), (qf4, .inl (cf4, 6400, .inl f4)), (qf6, .inl (cf6, 1740, .inl f6))] sz) := by
  refine Met.ofW (cc := cX9_scanToken) (maxL := 8) (ret := (some .int)) (by decide) rfl ?_
  intro p e s m args below meth c s₁ B hml hv
  obtain ⟨rfl, hsz, hP, hK, hD0⟩ := hv
  have hx := B.exec
  have hb := B.bytes
  have hr := B.returns
  have hts := atoms_spec (ws := (.code yX9_scanToken cX9_scanToken 8 (some .int) :: VS_h7)) B.pre
  replace hts := fun w (h : w ∈ VS_h7) => hts w (List.mem_cons_of_mem _ h)
  have hown : s.vm.findClass RX9 = some m.cls := findClass_of_methodNamed B.named
  have hlocks := B.notSynchronized
  subst hsz
  have hD := hD0.self (sz := s.heap.size)
  generalize hAe : va_A [(h0, .inr (9, [.ref qf0, .ref qf1, .ref qf2, .int v3, .ref qf4, .ref qf5, .ref qf6, .ref qf7, .ref qf8, .int v9, .int v10, .int v11, .int v12])), (qa1, .inl (ca1, na1, .inl fa1)), (qf0, .inl (cf0, 3001, .inl f0)), (qf1, .inl (cf1, 3001, .inl f1)), (qf2, .inl (cf2, 3001, .inl f2)), (qf7, .inl (cf7, 64, .inl f7)), (qf5, .inl (cf5, 1741, .inl f5)), (qf4, .inl (cf4, 6400, .inl f4)), (qf6, .inl (cf6, 1740, .inl f6))] s.heap.size = A at hD  ⊢
  have hA : ∀ q : Nat, s.heap.size ≤ q → A q := fun q h => by rw [← hAe]; exact Or.inr h
  have hP : va_P (dC, dI) vwCl [(h0, .inr (9, [.ref qf0, .ref qf1, .ref qf2, .int v3, .ref qf4, .ref qf5, .ref qf6, .ref qf7, .ref qf8, .int v9, .int v10, .int v11, .int v12])), (qa1, .inl (ca1, na1, .inl fa1)), (qf0, .inl (cf0, 3001, .inl f0)), (qf1, .inl (cf1, 3001, .inl f1)), (qf2, .inl (cf2, 3001, .inl f2)), (qf7, .inl (cf7, 64, .inl f7)), (qf5, .inl (cf5, 1741, .inl f5)), (qf4, .inl (cf4, 6400, .inl f4)), (qf6, .inl (cf6, 1740, .inl f6))] s.heap := hP
  have hl := lv_entry ([.ref h0, .ref qa1, .int a2, .int a3]) (n := 8) (Nat.le_of_ble_eq_true rfl)
  rw [lg_entry_eq]
  generalize (lg_sl ([.ref h0, .ref qa1, .int a2, .int a3]) ++ List.replicate (8 - (lg_sl ([.ref h0, .ref qa1, .int a2, .int a3])).length) Slot.unset).toArray = ls at hl ⊢
  have hl : lv_has ls 8 [(0, .ref h0), (1, .ref qa1), (2, .int a2), (3, .int a3)] := hl
  obtain ⟨H, hH⟩ : ∃ H : Heap, s.heap = H := ⟨_, rfl⟩
  rw [hH] at hP ⊢
  have hS : va_S A s.heap H [] := by rw [← hH]; exact va_S.rf
  obtain ⟨locs, hlo⟩ : ∃ locs : List Loc, locs = [] := ⟨_, rfl⟩
  rw [← hlo] at hS ⊢
  unfold sp_v9_scanToken at hsp
  refine jn_use (α := Heap × List Loc × Array Slot × Int32 × Int32 × (Nat → Int32) × (Nat → Int32) × (Nat → Int32) × (Nat → Int32) × (Nat → Int32) × (Nat → Int32) × (Nat → Int32) × Int32 × Int32) (fun x9 => x9.1) (fun x9 => x9.2.1) (fun x9 => F0 m 110 x9.2.2.1 [.int (x9.2.2.2.2.1)]) (fun x9 => match x9 with | (H, locs, ls, l3_110, s0_110, g0_110, g1_110, g2_110, g4_110, g5_110, g6_110, g7_110, x3_110, x9_110) => lv_has ls 8 [(0, .ref h0), (3, .int l3_110)] ∧ va_S A s.heap H locs ∧ va_D A [(h0, .inr (9, [.ref qf0, .ref qf1, .ref qf2, .int x3_110, .ref qf4, .ref qf5, .ref qf6, .ref qf7, .ref qf8, .int x9_110, .int v10, .int v11, .int v12])), (qa1, .inl (ca1, na1, .inl fa1)), (qf0, .inl (cf0, 3001, .inl g0_110)), (qf1, .inl (cf1, 3001, .inl g1_110)), (qf2, .inl (cf2, 3001, .inl g2_110)), (qf7, .inl (cf7, 64, .inl g7_110)), (qf5, .inl (cf5, 1741, .inl g5_110)), (qf4, .inl (cf4, 6400, .inl g4_110)), (qf6, .inl (cf6, 1740, .inl g6_110))] ∧ va_P (dC, dI) vwCl [(h0, .inr (9, [.ref qf0, .ref qf1, .ref qf2, .int x3_110, .ref qf4, .ref qf5, .ref qf6, .ref qf7, .ref qf8, .int x9_110, .int v10, .int v11, .int v12])), (qa1, .inl (ca1, na1, .inl fa1)), (qf0, .inl (cf0, 3001, .inl g0_110)), (qf1, .inl (cf1, 3001, .inl g1_110)), (qf2, .inl (cf2, 3001, .inl g2_110)), (qf7, .inl (cf7, 64, .inl g7_110)), (qf5, .inl (cf5, 1741, .inl g5_110)), (qf4, .inl (cf4, 6400, .inl g4_110)), (qf6, .inl (cf6, 1740, .inl g6_110))] H ∧ jn_v9_scanToken_110 nf a2 a3 v3 v9 na1 fa1 f0 f1 f2 f7 f5 f4 f6 l3_110 s0_110 g0_110 g1_110 g2_110 g4_110 g5_110 g6_110 g7_110 x3_110 x9_110 = some (r0, o0, o1, o2, o4, o5, o6, o7, w3, w9)) ?_ ?_
  · intro x9 hJ9
    obtain ⟨H, locs, ls, l3_110, s0_110, g0_110, g1_110, g2_110, g4_110, g5_110, g6_110, g7_110, x3_110, x9_110⟩ := x9
    obtain ⟨hl, hS, hD, hP, hsp⟩ := hJ9
    replace hl : lv_has ls 8 [(0, .ref h0), (3, .int l3_110)] := hl
    replace hS : va_S A s.heap H locs := hS
    replace hD : va_D A [(h0, .inr (9, [.ref qf0, .ref qf1, .ref qf2, .int x3_110, .ref qf4, .ref qf5, .ref qf6, .ref qf7, .ref qf8, .int x9_110, .int v10, .int v11, .int v12])), (qa1, .inl (ca1, na1, .inl fa1)), (qf0, .inl (cf0, 3001, .inl g0_110)), (qf1, .inl (cf1, 3001, .inl g1_110)), (qf2, .inl (cf2, 3001, .inl g2_110)), (qf7, .inl (cf7, 64, .inl g7_110)), (qf5, .inl (cf5, 1741, .inl g5_110)), (qf4, .inl (cf4, 6400, .inl g4_110)), (qf6, .inl (cf6, 1740, .inl g6_110))] := hD
    replace hP : va_P (dC, dI) vwCl [(h0, .inr (9, [.ref qf0, .ref qf1, .ref qf2, .int x3_110, .ref qf4, .ref qf5, .ref qf6, .ref qf7, .ref qf8, .int x9_110, .int v10, .int v11, .int v12])), (qa1, .inl (ca1, na1, .inl fa1)), (qf0, .inl (cf0, 3001, .inl g0_110)), (qf1, .inl (cf1, 3001, .inl g1_110)), (qf2, .inl (cf2, 3001, .inl g2_110)), (qf7, .inl (cf7, 64, .inl g7_110)), (qf5, .inl (cf5, 1741, .inl g5_110)), (qf4, .inl (cf4, 6400, .inl g4_110)), (qf6, .inl (cf6, 1740, .inl g6_110))] H := hP
    replace hsp : jn_v9_scanToken_110 nf a2 a3 v3 v9 na1 fa1 f0 f1 f2 f7 f5 f4 f6 l3_110 s0_110 g0_110 g1_110 g2_110 g4_110 g5_110 g6_110 g7_110 x3_110 x9_110 = some (r0, o0, o1, o2, o4, o5, o6, o7, w3, w9) := hsp
    show W _ _ _ _ _ _ _ _ _ _ H locs _ _ _ (F0 m 110 ls [.int s0_110])
    unfold jn_v9_scanToken_110 at hsp
    try dsimp only at hsp
    refine lv_istore (lv' := [(7, .int s0_110), (0, .ref h0), (3, .int l3_110)]) hx hb dX9_scanToken_110 hl (by decide) rfl (fun ls hl => ?_)
    refine lv_iload hx hb dX9_scanToken_112 (lv_at hl 0 rfl) ?_
    refine lv_if_eq (tgt := 125) hx hb dX9_scanToken_114 (by decide) (fun c_19 => ?_) (fun c_19 => ?_)
    · rw [if_pos c_19] at hsp
      refine lv_iload hx hb dX9_scanToken_125 (lv_at hl 0 rfl) ?_
      obtain ⟨u6_0, hu_6, hsp⟩ := ox_bind hsp
      try dsimp only at hsp
      have hPc := hP.sub (ws' := []) [] rfl
      have hDc := hD.sub (ws' := []) [] (by decide) rfl
      have hKc := hK.sub (tys' := []) [] rfl
      have hFc := va_free (wc := []) hD hS hA [] rfl
      refine va_calli (va_runS (As := [.int s0_110]) (rest := []) ⟨hx, hb, hml, hown, hts⟩ (t9_signLength l dC dI H.size s0_110 nf u6_0 hu_6) (va_cwS 1 hts gv_h7_139 rfl rfl rfl (by decide +kernel) ⟨Nat.le_of_ble_eq_true rfl, Nat.le_of_ble_eq_true rfl⟩) ⟨fun a U g mk q => by obtain ⟨q0, q1, qP, qK, qD⟩ := q; exact ⟨q0, q1, qP, va_K.moved (u := U) (U := U.calling g mk a) (Vm.Alike.refl U.vm) qK, qD⟩, fun U hU hW => ⟨rfl, by rw [hU], by rw [hU]; exact hPc, va_K.moved hW.alike hKc, hDc.weaken (fun _ _ _ _ => trivial)⟩⟩ rfl rfl hl.1 rfl (lv_room (Nat.le_of_ble_eq_true rfl)) dX9_scanToken_127 ⟨Nat.le_of_ble_eq_true rfl, Nat.le_of_ble_eq_true rfl⟩) hS (fun q _ h => hFc q h) hFc ?_
      clear hS
      intro r_20 u t H1 locs ht hvm hw hB hz1 hk1 hS
      obtain ⟨⟩ := u
      obtain ⟨hP1, hK1, hD1⟩ := hB
      rw [ht] at hP1
      have hK1 := va_K.moved hvm.symm hK1
      try dsimp only at hw
      have hPD := va_join (wr := [(h0, .inr (9, [.ref qf0, .ref qf1, .ref qf2, .int x3_110, .ref qf4, .ref qf5, .ref qf6, .ref qf7, .ref qf8, .int x9_110, .int v10, .int v11, .int v12])), (qa1, .inl (ca1, na1, .inl fa1)), (qf0, .inl (cf0, 3001, .inl g0_110)), (qf1, .inl (cf1, 3001, .inl g1_110)), (qf2, .inl (cf2, 3001, .inl g2_110)), (qf7, .inl (cf7, 64, .inl g7_110)), (qf5, .inl (cf5, 1741, .inl g5_110)), (qf4, .inl (cf4, 6400, .inl g4_110)), (qf6, .inl (cf6, 1740, .inl g6_110))]) (w1 := []) hP hD [] [0, 1, 2, 3, 4, 5, 6, 7, 8] rfl rfl (by decide) (by decide) hk1 hFc hP1 hD1
      clear hP hD
      obtain ⟨hP, hD⟩ := hPD
      replace hK := (hK.sub (tys' := [(ca1, .byte), (cf0, .int), (cf1, .int), (cf2, .int), (cf7, .int), (cf5, .int), (cf4, .byte), (cf6, .int)]) [0, 1, 2, 3, 4, 5, 6, 7] rfl).app hK1
      clear hPc hDc hKc hFc hP1 hK1 hD1 hz1 hk1 ht hvm
      generalize H1 = H at hP hS ⊢
      replace hP : va_P (dC, dI) vwCl [(h0, .inr (9, [.ref qf0, .ref qf1, .ref qf2, .int x3_110, .ref qf4, .ref qf5, .ref qf6, .ref qf7, .ref qf8, .int x9_110, .int v10, .int v11, .int v12])), (qa1, .inl (ca1, na1, .inl fa1)), (qf0, .inl (cf0, 3001, .inl g0_110)), (qf1, .inl (cf1, 3001, .inl g1_110)), (qf2, .inl (cf2, 3001, .inl g2_110)), (qf7, .inl (cf7, 64, .inl g7_110)), (qf5, .inl (cf5, 1741, .inl g5_110)), (qf4, .inl (cf4, 6400, .inl g4_110)), (qf6, .inl (cf6, 1740, .inl g6_110))] H := hP
      replace hD : va_D A [(h0, .inr (9, [.ref qf0, .ref qf1, .ref qf2, .int x3_110, .ref qf4, .ref qf5, .ref qf6, .ref qf7, .ref qf8, .int x9_110, .int v10, .int v11, .int v12])), (qa1, .inl (ca1, na1, .inl fa1)), (qf0, .inl (cf0, 3001, .inl g0_110)), (qf1, .inl (cf1, 3001, .inl g1_110)), (qf2, .inl (cf2, 3001, .inl g2_110)), (qf7, .inl (cf7, 64, .inl g7_110)), (qf5, .inl (cf5, 1741, .inl g5_110)), (qf4, .inl (cf4, 6400, .inl g4_110)), (qf6, .inl (cf6, 1740, .inl g6_110))] := hD
      replace hK : va_K (dC, dI) vwCl [(ca1, .byte), (cf0, .int), (cf1, .int), (cf2, .int), (cf7, .int), (cf5, .int), (cf4, .byte), (cf6, .int)] s := hK
      obtain rfl := hw
      have hr0 := Option.some.inj hsp
      clear hsp
      obtain ⟨hq0, hr1⟩ := Prod.mk.inj hr0
      clear hr0
      obtain ⟨hq1, hr2⟩ := Prod.mk.inj hr1
      clear hr1
      obtain ⟨hq2, hr3⟩ := Prod.mk.inj hr2
      clear hr2
      obtain ⟨hq3, hr4⟩ := Prod.mk.inj hr3
      clear hr3
      obtain ⟨hq4, hr5⟩ := Prod.mk.inj hr4
      clear hr4
      obtain ⟨hq5, hr6⟩ := Prod.mk.inj hr5
      clear hr5
      obtain ⟨hq6, hr7⟩ := Prod.mk.inj hr6
      clear hr6
      obtain ⟨hq7, hr8⟩ := Prod.mk.inj hr7
      clear hr7
      obtain ⟨hq8, hr9⟩ := Prod.mk.inj hr8
      clear hr8
      subst hq0
      subst hq1
      subst hq2
      subst hq3
      subst hq4
      subst hq5
      subst hq6
      subst hq7
      subst hq8
      subst hr9
      have hP9 := hP.sub (ws' := [(h0, .inr (9, [.ref qf0, .ref qf1, .ref qf2, .int x3_110, .ref qf4, .ref qf5, .ref qf6, .ref qf7, .ref qf8, .int x9_110, .int v10, .int v11, .int v12])), (qa1, .inl (ca1, na1, .inl fa1)), (qf0, .inl (cf0, 3001, .inl g0_110)), (qf1, .inl (cf1, 3001, .inl g1_110)), (qf2, .inl (cf2, 3001, .inl g2_110)), (qf7, .inl (cf7, 64, .inl g7_110)), (qf5, .inl (cf5, 1741, .inl g5_110)), (qf4, .inl (cf4, 6400, .inl g4_110)), (qf6, .inl (cf6, 1740, .inl g6_110))]) [0, 1, 2, 3, 4, 5, 6, 7, 8] rfl
      have hD9 := hD.sub (ws' := [(h0, .inr (9, [.ref qf0, .ref qf1, .ref qf2, .int x3_110, .ref qf4, .ref qf5, .ref qf6, .ref qf7, .ref qf8, .int x9_110, .int v10, .int v11, .int v12])), (qa1, .inl (ca1, na1, .inl fa1)), (qf0, .inl (cf0, 3001, .inl g0_110)), (qf1, .inl (cf1, 3001, .inl g1_110)), (qf2, .inl (cf2, 3001, .inl g2_110)), (qf7, .inl (cf7, 64, .inl g7_110)), (qf5, .inl (cf5, 1741, .inl g5_110)), (qf4, .inl (cf4, 6400, .inl g4_110)), (qf6, .inl (cf6, 1740, .inl g6_110))]) [0, 1, 2, 3, 4, 5, 6, 7, 8] (by decide) rfl
      have hK9 := hK.sub (tys' := [(ca1, .byte), (cf0, .int), (cf1, .int), (cf2, .int), (cf7, .int), (cf5, .int), (cf4, .byte), (cf6, .int)]) [0, 1, 2, 3, 4, 5, 6, 7] rfl
      exact W.iret hx hb hr (fun t ht hW => ⟨⟨(u6_0), (), rfl, rfl, by rw [ht]; exact hP9, va_K.moved hW.alike hK9, hD9⟩, hS.F ht⟩) hS.2.2 dX9_scanToken_130
    · rw [if_neg c_19] at hsp
      refine lv_aload_n hx hb dX9_scanToken_117 rfl (lv_at hl 1 rfl) ?_
      refine lv_iload hx hb dX9_scanToken_118 (lv_at hl 0 rfl) ?_
      refine lv_iload_n hx hb dX9_scanToken_120 rfl (lv_at hl 2 rfl) ?_
      refine lv_iconst (v := 0) hx hb dX9_scanToken_121 (by decide) ?_
      obtain ⟨⟨g907_0, g907_1, g907_2, u7_3⟩, hu_7, hsp⟩ := ox_bind hsp
      try dsimp only at hsp
      have hPc := hP.sub (ws' := [(h0, .inr (9, [.ref qf0, .ref qf1, .ref qf2, .int x3_110, .ref qf4, .ref qf5, .ref qf6, .ref qf7, .ref qf8, .int x9_110, .int v10, .int v11, .int v12])), (qf0, .inl (cf0, 3001, .inl g0_110)), (qf1, .inl (cf1, 3001, .inl g1_110)), (qf2, .inl (cf2, 3001, .inl g2_110))]) [0, 2, 3, 4] rfl
      have hDc := hD.sub (ws' := [(h0, .inr (9, [.ref qf0, .ref qf1, .ref qf2, .int x3_110, .ref qf4, .ref qf5, .ref qf6, .ref qf7, .ref qf8, .int x9_110, .int v10, .int v11, .int v12])), (qf0, .inl (cf0, 3001, .inl g0_110)), (qf1, .inl (cf1, 3001, .inl g1_110)), (qf2, .inl (cf2, 3001, .inl g2_110))]) [0, 2, 3, 4] (by decide) rfl
      have hKc := hK.sub (tys' := [(cf0, .int), (cf1, .int), (cf2, .int)]) [1, 2, 3] rfl
      have hFc := va_free (wc := [(h0, .inr (9, [.ref qf0, .ref qf1, .ref qf2, .int x3_110, .ref qf4, .ref qf5, .ref qf6, .ref qf7, .ref qf8, .int x9_110, .int v10, .int v11, .int v12])), (qf0, .inl (cf0, 3001, .inl g0_110)), (qf1, .inl (cf1, 3001, .inl g1_110)), (qf2, .inl (cf2, 3001, .inl g2_110))]) hD hS hA [0, 2, 3, 4] rfl
      refine va_callv (va_runV (As := [.int s0_110, .int l3_110, .int 0]) (rest := []) ⟨hx, hb, hml, hown, hts⟩ (t9_addToken l dC dI H.size h0 s0_110 l3_110 0 qf0 qf1 qf2 x3_110 qf4 qf5 qf6 qf7 qf8 x9_110 v10 v11 v12 cf0 g0_110 cf1 g1_110 cf2 g2_110 nf g907_0 g907_1 g907_2 u7_3 hu_7) (cwV 3 hts gv_h7_63 rfl rfl rfl (by decide +kernel) ⟨Nat.le_of_ble_eq_true rfl, Nat.le_of_ble_eq_true rfl⟩) ⟨fun a U g mk q => by obtain ⟨q0, q1, qP, qK, qD⟩ := q; exact ⟨q0, q1, qP, va_K.moved (u := U) (U := U.calling g mk a) (Vm.Alike.refl U.vm) qK, qD⟩, va_recv hKc hPc (ci := 9) (q0 := 0) rfl rfl, fun U hU hW => ⟨rfl, by rw [hU], by rw [hU]; exact hPc, va_K.moved hW.alike hKc, hDc.weaken (fun _ _ _ _ => trivial)⟩⟩ rfl rfl hl.1 rfl (lv_room (Nat.le_of_ble_eq_true rfl)) dX9_scanToken_122 ⟨Nat.le_of_ble_eq_true rfl, Nat.le_of_ble_eq_true rfl⟩) hS (fun q _ h => hFc q h) hFc ?_
      clear hS
      intro u t H1 locs ht hvm hw hB hz1 hk1 hS
      obtain ⟨⟩ := u
      obtain ⟨hP1, hK1, hD1⟩ := hB
      rw [ht] at hP1
      have hK1 := va_K.moved hvm.symm hK1
      try dsimp only at hw
      have hPD := va_join (wr := [(qa1, .inl (ca1, na1, .inl fa1)), (qf7, .inl (cf7, 64, .inl g7_110)), (qf5, .inl (cf5, 1741, .inl g5_110)), (qf4, .inl (cf4, 6400, .inl g4_110)), (qf6, .inl (cf6, 1740, .inl g6_110))]) (w1 := [(h0, .inr (9, [.ref qf0, .ref qf1, .ref qf2, .int u7_3, .ref qf4, .ref qf5, .ref qf6, .ref qf7, .ref qf8, .int x9_110, .int v10, .int v11, .int v12])), (qf0, .inl (cf0, 3001, .inl g907_0)), (qf1, .inl (cf1, 3001, .inl g907_1)), (qf2, .inl (cf2, 3001, .inl g907_2))]) hP hD [0, 2, 3, 4] [1, 5, 6, 7, 8] rfl rfl (by decide) (by decide) hk1 hFc hP1 hD1
      clear hP hD
      obtain ⟨hP, hD⟩ := hPD
      replace hK := (hK.sub (tys' := [(ca1, .byte), (cf7, .int), (cf5, .int), (cf4, .byte), (cf6, .int)]) [0, 4, 5, 6, 7] rfl).app hK1
      clear hPc hDc hKc hFc hP1 hK1 hD1 hz1 hk1 ht hvm
      generalize H1 = H at hP hS ⊢
      replace hP : va_P (dC, dI) vwCl [(qa1, .inl (ca1, na1, .inl fa1)), (qf7, .inl (cf7, 64, .inl g7_110)), (qf5, .inl (cf5, 1741, .inl g5_110)), (qf4, .inl (cf4, 6400, .inl g4_110)), (qf6, .inl (cf6, 1740, .inl g6_110)), (h0, .inr (9, [.ref qf0, .ref qf1, .ref qf2, .int u7_3, .ref qf4, .ref qf5, .ref qf6, .ref qf7, .ref qf8, .int x9_110, .int v10, .int v11, .int v12])), (qf0, .inl (cf0, 3001, .inl g907_0)), (qf1, .inl (cf1, 3001, .inl g907_1)), (qf2, .inl (cf2, 3001, .inl g907_2))] H := hP
      replace hD : va_D A [(qa1, .inl (ca1, na1, .inl fa1)), (qf7, .inl (cf7, 64, .inl g7_110)), (qf5, .inl (cf5, 1741, .inl g5_110)), (qf4, .inl (cf4, 6400, .inl g4_110)), (qf6, .inl (cf6, 1740, .inl g6_110)), (h0, .inr (9, [.ref qf0, .ref qf1, .ref qf2, .int u7_3, .ref qf4, .ref qf5, .ref qf6, .ref qf7, .ref qf8, .int x9_110, .int v10, .int v11, .int v12])), (qf0, .inl (cf0, 3001, .inl g907_0)), (qf1, .inl (cf1, 3001, .inl g907_1)), (qf2, .inl (cf2, 3001, .inl g907_2))] := hD
      replace hK : va_K (dC, dI) vwCl [(ca1, .byte), (cf7, .int), (cf5, .int), (cf4, .byte), (cf6, .int), (cf0, .int), (cf1, .int), (cf2, .int)] s := hK
      refine lv_iload hx hb dX9_scanToken_125 (lv_at hl 0 rfl) ?_
      obtain ⟨u8_0, hu_8, hsp⟩ := ox_bind hsp
      try dsimp only at hsp
      have hPc := hP.sub (ws' := []) [] rfl
      have hDc := hD.sub (ws' := []) [] (by decide) rfl
      have hKc := hK.sub (tys' := []) [] rfl
      have hFc := va_free (wc := []) hD hS hA [] rfl
      refine va_calli (va_runS (As := [.int s0_110]) (rest := []) ⟨hx, hb, hml, hown, hts⟩ (t9_signLength l dC dI H.size s0_110 nf u8_0 hu_8) (va_cwS 1 hts gv_h7_139 rfl rfl rfl (by decide +kernel) ⟨Nat.le_of_ble_eq_true rfl, Nat.le_of_ble_eq_true rfl⟩) ⟨fun a U g mk q => by obtain ⟨q0, q1, qP, qK, qD⟩ := q; exact ⟨q0, q1, qP, va_K.moved (u := U) (U := U.calling g mk a) (Vm.Alike.refl U.vm) qK, qD⟩, fun U hU hW => ⟨rfl, by rw [hU], by rw [hU]; exact hPc, va_K.moved hW.alike hKc, hDc.weaken (fun _ _ _ _ => trivial)⟩⟩ rfl rfl hl.1 rfl (lv_room (Nat.le_of_ble_eq_true rfl)) dX9_scanToken_127 ⟨Nat.le_of_ble_eq_true rfl, Nat.le_of_ble_eq_true rfl⟩) hS (fun q _ h => hFc q h) hFc ?_
      clear hS
      intro r_21 u t H1 locs ht hvm hw hB hz1 hk1 hS
      obtain ⟨⟩ := u
      obtain ⟨hP1, hK1, hD1⟩ := hB
      rw [ht] at hP1
      have hK1 := va_K.moved hvm.symm hK1
      try dsimp only at hw
      have hPD := va_join (wr := [(qa1, .inl (ca1, na1, .inl fa1)), (qf7, .inl (cf7, 64, .inl g7_110)), (qf5, .inl (cf5, 1741, .inl g5_110)), (qf4, .inl (cf4, 6400, .inl g4_110)), (qf6, .inl (cf6, 1740, .inl g6_110)), (h0, .inr (9, [.ref qf0, .ref qf1, .ref qf2, .int u7_3, .ref qf4, .ref qf5, .ref qf6, .ref qf7, .ref qf8, .int x9_110, .int v10, .int v11, .int v12])), (qf0, .inl (cf0, 3001, .inl g907_0)), (qf1, .inl (cf1, 3001, .inl g907_1)), (qf2, .inl (cf2, 3001, .inl g907_2))]) (w1 := []) hP hD [] [0, 1, 2, 3, 4, 5, 6, 7, 8] rfl rfl (by decide) (by decide) hk1 hFc hP1 hD1
      clear hP hD
      obtain ⟨hP, hD⟩ := hPD
      replace hK := (hK.sub (tys' := [(ca1, .byte), (cf7, .int), (cf5, .int), (cf4, .byte), (cf6, .int), (cf0, .int), (cf1, .int), (cf2, .int)]) [0, 1, 2, 3, 4, 5, 6, 7] rfl).app hK1
      clear hPc hDc hKc hFc hP1 hK1 hD1 hz1 hk1 ht hvm
      generalize H1 = H at hP hS ⊢
      replace hP : va_P (dC, dI) vwCl [(qa1, .inl (ca1, na1, .inl fa1)), (qf7, .inl (cf7, 64, .inl g7_110)), (qf5, .inl (cf5, 1741, .inl g5_110)), (qf4, .inl (cf4, 6400, .inl g4_110)), (qf6, .inl (cf6, 1740, .inl g6_110)), (h0, .inr (9, [.ref qf0, .ref qf1, .ref qf2, .int u7_3, .ref qf4, .ref qf5, .ref qf6, .ref qf7, .ref qf8, .int x9_110, .int v10, .int v11, .int v12])), (qf0, .inl (cf0, 3001, .inl g907_0)), (qf1, .inl (cf1, 3001, .inl g907_1)), (qf2, .inl (cf2, 3001, .inl g907_2))] H := hP
      replace hD : va_D A [(qa1, .inl (ca1, na1, .inl fa1)), (qf7, .inl (cf7, 64, .inl g7_110)), (qf5, .inl (cf5, 1741, .inl g5_110)), (qf4, .inl (cf4, 6400, .inl g4_110)), (qf6, .inl (cf6, 1740, .inl g6_110)), (h0, .inr (9, [.ref qf0, .ref qf1, .ref qf2, .int u7_3, .ref qf4, .ref qf5, .ref qf6, .ref qf7, .ref qf8, .int x9_110, .int v10, .int v11, .int v12])), (qf0, .inl (cf0, 3001, .inl g907_0)), (qf1, .inl (cf1, 3001, .inl g907_1)), (qf2, .inl (cf2, 3001, .inl g907_2))] := hD
      replace hK : va_K (dC, dI) vwCl [(ca1, .byte), (cf7, .int), (cf5, .int), (cf4, .byte), (cf6, .int), (cf0, .int), (cf1, .int), (cf2, .int)] s := hK
      obtain rfl := hw
      have hr0 := Option.some.inj hsp
      clear hsp
      obtain ⟨hq0, hr1⟩ := Prod.mk.inj hr0
      clear hr0
      obtain ⟨hq1, hr2⟩ := Prod.mk.inj hr1
      clear hr1
      obtain ⟨hq2, hr3⟩ := Prod.mk.inj hr2
      clear hr2
      obtain ⟨hq3, hr4⟩ := Prod.mk.inj hr3
      clear hr3
      obtain ⟨hq4, hr5⟩ := Prod.mk.inj hr4
      clear hr4
      obtain ⟨hq5, hr6⟩ := Prod.mk.inj hr5
      clear hr5
      obtain ⟨hq6, hr7⟩ := Prod.mk.inj hr6
      clear hr6
      obtain ⟨hq7, hr8⟩ := Prod.mk.inj hr7
      clear hr7
      obtain ⟨hq8, hr9⟩ := Prod.mk.inj hr8
      clear hr8
      subst hq0
      subst hq1
      subst hq2
      subst hq3
      subst hq4
      subst hq5
      subst hq6
      subst hq7
      subst hq8
      subst hr9
      have hP9 := hP.sub (ws' := [(h0, .inr (9, [.ref qf0, .ref qf1, .ref qf2, .int u7_3, .ref qf4, .ref qf5, .ref qf6, .ref qf7, .ref qf8, .int x9_110, .int v10, .int v11, .int v12])), (qa1, .inl (ca1, na1, .inl fa1)), (qf0, .inl (cf0, 3001, .inl g907_0)), (qf1, .inl (cf1, 3001, .inl g907_1)), (qf2, .inl (cf2, 3001, .inl g907_2)), (qf7, .inl (cf7, 64, .inl g7_110)), (qf5, .inl (cf5, 1741, .inl g5_110)), (qf4, .inl (cf4, 6400, .inl g4_110)), (qf6, .inl (cf6, 1740, .inl g6_110))]) [5, 0, 6, 7, 8, 1, 2, 3, 4] rfl
      have hD9 := hD.sub (ws' := [(h0, .inr (9, [.ref qf0, .ref qf1, .ref qf2, .int u7_3, .ref qf4, .ref qf5, .ref qf6, .ref qf7, .ref qf8, .int x9_110, .int v10, .int v11, .int v12])), (qa1, .inl (ca1, na1, .inl fa1)), (qf0, .inl (cf0, 3001, .inl g907_0)), (qf1, .inl (cf1, 3001, .inl g907_1)), (qf2, .inl (cf2, 3001, .inl g907_2)), (qf7, .inl (cf7, 64, .inl g7_110)), (qf5, .inl (cf5, 1741, .inl g5_110)), (qf4, .inl (cf4, 6400, .inl g4_110)), (qf6, .inl (cf6, 1740, .inl g6_110))]) [5, 0, 6, 7, 8, 1, 2, 3, 4] (by decide) rfl
      have hK9 := hK.sub (tys' := [(ca1, .byte), (cf0, .int), (cf1, .int), (cf2, .int), (cf7, .int), (cf5, .int), (cf4, .byte), (cf6, .int)]) [0, 5, 6, 7, 1, 2, 3, 4] rfl
      exact W.iret hx hb hr (fun t ht hW => ⟨⟨(u8_0), (), rfl, rfl, by rw [ht]; exact hP9, va_K.moved hW.alike hK9, hD9⟩, hS.F ht⟩) hS.2.2 dX9_scanToken_130
  intro hj_110
  refine jn_use (α := Heap × List Loc × Array Slot × Int32 × Int32 × Int32 × (Nat → Int32) × (Nat → Int32) × (Nat → Int32) × (Nat → Int32) × (Nat → Int32) × (Nat → Int32) × (Nat → Int32) × Int32 × Int32) (fun x9 => x9.1) (fun x9 => x9.2.1) (fun x9 => F0 m 103 x9.2.2.1 []) (fun x9 => match x9 with | (H, locs, ls, l3_103, l4_103, l5_103, g0_103, g1_103, g2_103, g4_103, g5_103, g6_103, g7_103, x3_103, x9_103) => lv_has ls 8 [(0, .ref h0), (3, .int l3_103), (4, .int l4_103), (5, .int l5_103)] ∧ va_S A s.heap H locs ∧ va_D A [(h0, .inr (9, [.ref qf0, .ref qf1, .ref qf2, .int x3_103, .ref qf4, .ref qf5, .ref qf6, .ref qf7, .ref qf8, .int x9_103, .int v10, .int v11, .int v12])), (qa1, .inl (ca1, na1, .inl fa1)), (qf0, .inl (cf0, 3001, .inl g0_103)), (qf1, .inl (cf1, 3001, .inl g1_103)), (qf2, .inl (cf2, 3001, .inl g2_103)), (qf7, .inl (cf7, 64, .inl g7_103)), (qf5, .inl (cf5, 1741, .inl g5_103)), (qf4, .inl (cf4, 6400, .inl g4_103)), (qf6, .inl (cf6, 1740, .inl g6_103))] ∧ va_P (dC, dI) vwCl [(h0, .inr (9, [.ref qf0, .ref qf1, .ref qf2, .int x3_103, .ref qf4, .ref qf5, .ref qf6, .ref qf7, .ref qf8, .int x9_103, .int v10, .int v11, .int v12])), (qa1, .inl (ca1, na1, .inl fa1)), (qf0, .inl (cf0, 3001, .inl g0_103)), (qf1, .inl (cf1, 3001, .inl g1_103)), (qf2, .inl (cf2, 3001, .inl g2_103)), (qf7, .inl (cf7, 64, .inl g7_103)), (qf5, .inl (cf5, 1741, .inl g5_103)), (qf4, .inl (cf4, 6400, .inl g4_103)), (qf6, .inl (cf6, 1740, .inl g6_103))] H ∧ jn_v9_scanToken_103 nf a2 a3 v3 v9 na1 fa1 f0 f1 f2 f7 f5 f4 f6 l3_103 l4_103 l5_103 g0_103 g1_103 g2_103 g4_103 g5_103 g6_103 g7_103 x3_103 x9_103 = some (r0, o0, o1, o2, o4, o5, o6, o7, w3, w9)) ?_ ?_
  · intro x9 hJ9
    obtain ⟨H, locs, ls, l3_103, l4_103, l5_103, g0_103, g1_103, g2_103, g4_103, g5_103, g6_103, g7_103, x3_103, x9_103⟩ := x9
    obtain ⟨hl, hS, hD, hP, hsp⟩ := hJ9
    replace hl : lv_has ls 8 [(0, .ref h0), (3, .int l3_103), (4, .int l4_103), (5, .int l5_103)] := hl
    replace hS : va_S A s.heap H locs := hS
    replace hD : va_D A [(h0, .inr (9, [.ref qf0, .ref qf1, .ref qf2, .int x3_103, .ref qf4, .ref qf5, .ref qf6, .ref qf7, .ref qf8, .int x9_103, .int v10, .int v11, .int v12])), (qa1, .inl (ca1, na1, .inl fa1)), (qf0, .inl (cf0, 3001, .inl g0_103)), (qf1, .inl (cf1, 3001, .inl g1_103)), (qf2, .inl (cf2, 3001, .inl g2_103)), (qf7, .inl (cf7, 64, .inl g7_103)), (qf5, .inl (cf5, 1741, .inl g5_103)), (qf4, .inl (cf4, 6400, .inl g4_103)), (qf6, .inl (cf6, 1740, .inl g6_103))] := hD
    replace hP : va_P (dC, dI) vwCl [(h0, .inr (9, [.ref qf0, .ref qf1, .ref qf2, .int x3_103, .ref qf4, .ref qf5, .ref qf6, .ref qf7, .ref qf8, .int x9_103, .int v10, .int v11, .int v12])), (qa1, .inl (ca1, na1, .inl fa1)), (qf0, .inl (cf0, 3001, .inl g0_103)), (qf1, .inl (cf1, 3001, .inl g1_103)), (qf2, .inl (cf2, 3001, .inl g2_103)), (qf7, .inl (cf7, 64, .inl g7_103)), (qf5, .inl (cf5, 1741, .inl g5_103)), (qf4, .inl (cf4, 6400, .inl g4_103)), (qf6, .inl (cf6, 1740, .inl g6_103))] H := hP
    replace hsp : jn_v9_scanToken_103 nf a2 a3 v3 v9 na1 fa1 f0 f1 f2 f7 f5 f4 f6 l3_103 l4_103 l5_103 g0_103 g1_103 g2_103 g4_103 g5_103 g6_103 g7_103 x3_103 x9_103 = some (r0, o0, o1, o2, o4, o5, o6, o7, w3, w9) := hsp
    show W _ _ _ _ _ _ _ _ _ _ H locs _ _ _ (F0 m 103 ls [])
    unfold jn_v9_scanToken_103 at hsp
    try dsimp only at hsp
    refine lv_iload hx hb dX9_scanToken_103 (lv_at hl 2 rfl) ?_
    refine lv_iload hx hb dX9_scanToken_105 (lv_at hl 3 rfl) ?_
    obtain ⟨u5_0, hu_5, hsp⟩ := ox_bind hsp
    try dsimp only at hsp
    have hPc := hP.sub (ws' := []) [] rfl
    have hDc := hD.sub (ws' := []) [] (by decide) rfl
    have hKc := hK.sub (tys' := []) [] rfl
    have hFc := va_free (wc := []) hD hS hA [] rfl
    refine va_calli (va_runS (As := [.int l4_103, .int l5_103]) (rest := []) ⟨hx, hb, hml, hown, hts⟩ (t9_signOf l dC dI H.size l4_103 l5_103 nf u5_0 hu_5) (va_cwS 2 hts gv_h7_138 rfl rfl rfl (by decide +kernel) ⟨Nat.le_of_ble_eq_true rfl, Nat.le_of_ble_eq_true rfl⟩) ⟨fun a U g mk q => by obtain ⟨q0, q1, qP, qK, qD⟩ := q; exact ⟨q0, q1, qP, va_K.moved (u := U) (U := U.calling g mk a) (Vm.Alike.refl U.vm) qK, qD⟩, fun U hU hW => ⟨rfl, by rw [hU], by rw [hU]; exact hPc, va_K.moved hW.alike hKc, hDc.weaken (fun _ _ _ _ => trivial)⟩⟩ rfl rfl hl.1 rfl (lv_room (Nat.le_of_ble_eq_true rfl)) dX9_scanToken_107 ⟨Nat.le_of_ble_eq_true rfl, Nat.le_of_ble_eq_true rfl⟩) hS (fun q _ h => hFc q h) hFc ?_
    clear hS
    intro r_18 u t H1 locs ht hvm hw hB hz1 hk1 hS
    obtain ⟨⟩ := u
    obtain ⟨hP1, hK1, hD1⟩ := hB
    rw [ht] at hP1
    have hK1 := va_K.moved hvm.symm hK1
    try dsimp only at hw
    have hPD := va_join (wr := [(h0, .inr (9, [.ref qf0, .ref qf1, .ref qf2, .int x3_103, .ref qf4, .ref qf5, .ref qf6, .ref qf7, .ref qf8, .int x9_103, .int v10, .int v11, .int v12])), (qa1, .inl (ca1, na1, .inl fa1)), (qf0, .inl (cf0, 3001, .inl g0_103)), (qf1, .inl (cf1, 3001, .inl g1_103)), (qf2, .inl (cf2, 3001, .inl g2_103)), (qf7, .inl (cf7, 64, .inl g7_103)), (qf5, .inl (cf5, 1741, .inl g5_103)), (qf4, .inl (cf4, 6400, .inl g4_103)), (qf6, .inl (cf6, 1740, .inl g6_103))]) (w1 := []) hP hD [] [0, 1, 2, 3, 4, 5, 6, 7, 8] rfl rfl (by decide) (by decide) hk1 hFc hP1 hD1
    clear hP hD
    obtain ⟨hP, hD⟩ := hPD
    replace hK := (hK.sub (tys' := [(ca1, .byte), (cf0, .int), (cf1, .int), (cf2, .int), (cf7, .int), (cf5, .int), (cf4, .byte), (cf6, .int)]) [0, 1, 2, 3, 4, 5, 6, 7] rfl).app hK1
    clear hPc hDc hKc hFc hP1 hK1 hD1 hz1 hk1 ht hvm
    generalize H1 = H at hP hS ⊢
    replace hP : va_P (dC, dI) vwCl [(h0, .inr (9, [.ref qf0, .ref qf1, .ref qf2, .int x3_103, .ref qf4, .ref qf5, .ref qf6, .ref qf7, .ref qf8, .int x9_103, .int v10, .int v11, .int v12])), (qa1, .inl (ca1, na1, .inl fa1)), (qf0, .inl (cf0, 3001, .inl g0_103)), (qf1, .inl (cf1, 3001, .inl g1_103)), (qf2, .inl (cf2, 3001, .inl g2_103)), (qf7, .inl (cf7, 64, .inl g7_103)), (qf5, .inl (cf5, 1741, .inl g5_103)), (qf4, .inl (cf4, 6400, .inl g4_103)), (qf6, .inl (cf6, 1740, .inl g6_103))] H := hP
    replace hD : va_D A [(h0, .inr (9, [.ref qf0, .ref qf1, .ref qf2, .int x3_103, .ref qf4, .ref qf5, .ref qf6, .ref qf7, .ref qf8, .int x9_103, .int v10, .int v11, .int v12])), (qa1, .inl (ca1, na1, .inl fa1)), (qf0, .inl (cf0, 3001, .inl g0_103)), (qf1, .inl (cf1, 3001, .inl g1_103)), (qf2, .inl (cf2, 3001, .inl g2_103)), (qf7, .inl (cf7, 64, .inl g7_103)), (qf5, .inl (cf5, 1741, .inl g5_103)), (qf4, .inl (cf4, 6400, .inl g4_103)), (qf6, .inl (cf6, 1740, .inl g6_103))] := hD
    replace hK : va_K (dC, dI) vwCl [(ca1, .byte), (cf0, .int), (cf1, .int), (cf2, .int), (cf7, .int), (cf5, .int), (cf4, .byte), (cf6, .int)] s := hK
    obtain rfl := hw
    exact hj_110 (H, locs, ls, l3_103, u5_0, g0_103, g1_103, g2_103, g4_103, g5_103, g6_103, g7_103, x3_103, x9_103) ⟨lv_sub hl [0, 1] rfl, hS, hD.sub (ws' := [(h0, .inr (9, [.ref qf0, .ref qf1, .ref qf2, .int x3_103, .ref qf4, .ref qf5, .ref qf6, .ref qf7, .ref qf8, .int x9_103, .int v10, .int v11, .int v12])), (qa1, .inl (ca1, na1, .inl fa1)), (qf0, .inl (cf0, 3001, .inl g0_103)), (qf1, .inl (cf1, 3001, .inl g1_103)), (qf2, .inl (cf2, 3001, .inl g2_103)), (qf7, .inl (cf7, 64, .inl g7_103)), (qf5, .inl (cf5, 1741, .inl g5_103)), (qf4, .inl (cf4, 6400, .inl g4_103)), (qf6, .inl (cf6, 1740, .inl g6_103))]) [0, 1, 2, 3, 4, 5, 6, 7, 8] (by decide) rfl, hP.sub (ws' := [(h0, .inr (9, [.ref qf0, .ref qf1, .ref qf2, .int x3_103, .ref qf4, .ref qf5, .ref qf6, .ref qf7, .ref qf8, .int x9_103, .int v10, .int v11, .int v12])), (qa1, .inl (ca1, na1, .inl fa1)), (qf0, .inl (cf0, 3001, .inl g0_103)), (qf1, .inl (cf1, 3001, .inl g1_103)), (qf2, .inl (cf2, 3001, .inl g2_103)), (qf7, .inl (cf7, 64, .inl g7_103)), (qf5, .inl (cf5, 1741, .inl g5_103)), (qf4, .inl (cf4, 6400, .inl g4_103)), (qf6, .inl (cf6, 1740, .inl g6_103))]) [0, 1, 2, 3, 4, 5, 6, 7, 8] rfl, hsp⟩
  intro hj_103
  refine jn_use (α := Heap × List Loc × Array Slot × Int32 × Int32 × Int32 × Int32 × (Nat → Int32) × (Nat → Int32) × (Nat → Int32) × (Nat → Int32) × (Nat → Int32) × (Nat → Int32) × (Nat → Int32) × Int32 × Int32) (fun x9 => x9.1) (fun x9 => x9.2.1) (fun x9 => F0 m 84 x9.2.2.1 [.int (x9.2.2.2.2.2.2.1)]) (fun x9 => match x9 with | (H, locs, ls, l3_84, l4_84, l5_84, s0_84, g0_84, g1_84, g2_84, g4_84, g5_84, g6_84, g7_84, x3_84, x9_84) => lv_has ls 8 [(0, .ref h0), (3, .int l3_84), (4, .int l4_84), (5, .int l5_84)] ∧ va_S A s.heap H locs ∧ va_D A [(h0, .inr (9, [.ref qf0, .ref qf1, .ref qf2, .int x3_84, .ref qf4, .ref qf5, .ref qf6, .ref qf7, .ref qf8, .int x9_84, .int v10, .int v11, .int v12])), (qa1, .inl (ca1, na1, .inl fa1)), (qf0, .inl (cf0, 3001, .inl g0_84)), (qf1, .inl (cf1, 3001, .inl g1_84)), (qf2, .inl (cf2, 3001, .inl g2_84)), (qf7, .inl (cf7, 64, .inl g7_84)), (qf5, .inl (cf5, 1741, .inl g5_84)), (qf4, .inl (cf4, 6400, .inl g4_84)), (qf6, .inl (cf6, 1740, .inl g6_84))] ∧ va_P (dC, dI) vwCl [(h0, .inr (9, [.ref qf0, .ref qf1, .ref qf2, .int x3_84, .ref qf4, .ref qf5, .ref qf6, .ref qf7, .ref qf8, .int x9_84, .int v10, .int v11, .int v12])), (qa1, .inl (ca1, na1, .inl fa1)), (qf0, .inl (cf0, 3001, .inl g0_84)), (qf1, .inl (cf1, 3001, .inl g1_84)), (qf2, .inl (cf2, 3001, .inl g2_84)), (qf7, .inl (cf7, 64, .inl g7_84)), (qf5, .inl (cf5, 1741, .inl g5_84)), (qf4, .inl (cf4, 6400, .inl g4_84)), (qf6, .inl (cf6, 1740, .inl g6_84))] H ∧ jn_v9_scanToken_84 nf a2 a3 v3 v9 na1 fa1 f0 f1 f2 f7 f5 f4 f6 l3_84 l4_84 l5_84 s0_84 g0_84 g1_84 g2_84 g4_84 g5_84 g6_84 g7_84 x3_84 x9_84 = some (r0, o0, o1, o2, o4, o5, o6, o7, w3, w9)) ?_ ?_
  · intro x9 hJ9
    obtain ⟨H, locs, ls, l3_84, l4_84, l5_84, s0_84, g0_84, g1_84, g2_84, g4_84, g5_84, g6_84, g7_84, x3_84, x9_84⟩ := x9
    obtain ⟨hl, hS, hD, hP, hsp⟩ := hJ9
    replace hl : lv_has ls 8 [(0, .ref h0), (3, .int l3_84), (4, .int l4_84), (5, .int l5_84)] := hl
    replace hS : va_S A s.heap H locs := hS
    replace hD : va_D A [(h0, .inr (9, [.ref qf0, .ref qf1, .ref qf2, .int x3_84, .ref qf4, .ref qf5, .ref qf6, .ref qf7, .ref qf8, .int x9_84, .int v10, .int v11, .int v12])), (qa1, .inl (ca1, na1, .inl fa1)), (qf0, .inl (cf0, 3001, .inl g0_84)), (qf1, .inl (cf1, 3001, .inl g1_84)), (qf2, .inl (cf2, 3001, .inl g2_84)), (qf7, .inl (cf7, 64, .inl g7_84)), (qf5, .inl (cf5, 1741, .inl g5_84)), (qf4, .inl (cf4, 6400, .inl g4_84)), (qf6, .inl (cf6, 1740, .inl g6_84))] := hD
    replace hP : va_P (dC, dI) vwCl [(h0, .inr (9, [.ref qf0, .ref qf1, .ref qf2, .int x3_84, .ref qf4, .ref qf5, .ref qf6, .ref qf7, .ref qf8, .int x9_84, .int v10, .int v11, .int v12])), (qa1, .inl (ca1, na1, .inl fa1)), (qf0, .inl (cf0, 3001, .inl g0_84)), (qf1, .inl (cf1, 3001, .inl g1_84)), (qf2, .inl (cf2, 3001, .inl g2_84)), (qf7, .inl (cf7, 64, .inl g7_84)), (qf5, .inl (cf5, 1741, .inl g5_84)), (qf4, .inl (cf4, 6400, .inl g4_84)), (qf6, .inl (cf6, 1740, .inl g6_84))] H := hP
    replace hsp : jn_v9_scanToken_84 nf a2 a3 v3 v9 na1 fa1 f0 f1 f2 f7 f5 f4 f6 l3_84 l4_84 l5_84 s0_84 g0_84 g1_84 g2_84 g4_84 g5_84 g6_84 g7_84 x3_84 x9_84 = some (r0, o0, o1, o2, o4, o5, o6, o7, w3, w9) := hsp
    show W _ _ _ _ _ _ _ _ _ _ H locs _ _ _ (F0 m 84 ls [.int s0_84])
    unfold jn_v9_scanToken_84 at hsp
    try dsimp only at hsp
    refine lv_istore (lv' := [(6, .int s0_84), (0, .ref h0), (3, .int l3_84), (4, .int l4_84), (5, .int l5_84)]) hx hb dX9_scanToken_84 hl (by decide) rfl (fun ls hl => ?_)
    refine lv_iload hx hb dX9_scanToken_86 (lv_at hl 3 rfl) ?_
    refine lv_bipush (v := 62) hx hb dX9_scanToken_88 (by decide) ?_
    refine lv_icmp_ne (tgt := 103) hx hb dX9_scanToken_90 (by decide) (fun c_16 => ?_) (fun c_16 => ?_)
    · rw [if_neg c_16] at hsp
      exact hj_103 (H, locs, ls, l3_84, l4_84, l5_84, g0_84, g1_84, g2_84, g4_84, g5_84, g6_84, g7_84, x3_84, x9_84) ⟨lv_sub hl [1, 2, 3, 4] rfl, hS, hD.sub (ws' := [(h0, .inr (9, [.ref qf0, .ref qf1, .ref qf2, .int x3_84, .ref qf4, .ref qf5, .ref qf6, .ref qf7, .ref qf8, .int x9_84, .int v10, .int v11, .int v12])), (qa1, .inl (ca1, na1, .inl fa1)), (qf0, .inl (cf0, 3001, .inl g0_84)), (qf1, .inl (cf1, 3001, .inl g1_84)), (qf2, .inl (cf2, 3001, .inl g2_84)), (qf7, .inl (cf7, 64, .inl g7_84)), (qf5, .inl (cf5, 1741, .inl g5_84)), (qf4, .inl (cf4, 6400, .inl g4_84)), (qf6, .inl (cf6, 1740, .inl g6_84))]) [0, 1, 2, 3, 4, 5, 6, 7, 8] (by decide) rfl, hP.sub (ws' := [(h0, .inr (9, [.ref qf0, .ref qf1, .ref qf2, .int x3_84, .ref qf4, .ref qf5, .ref qf6, .ref qf7, .ref qf8, .int x9_84, .int v10, .int v11, .int v12])), (qa1, .inl (ca1, na1, .inl fa1)), (qf0, .inl (cf0, 3001, .inl g0_84)), (qf1, .inl (cf1, 3001, .inl g1_84)), (qf2, .inl (cf2, 3001, .inl g2_84)), (qf7, .inl (cf7, 64, .inl g7_84)), (qf5, .inl (cf5, 1741, .inl g5_84)), (qf4, .inl (cf4, 6400, .inl g4_84)), (qf6, .inl (cf6, 1740, .inl g6_84))]) [0, 1, 2, 3, 4, 5, 6, 7, 8] rfl, hsp⟩
    · rw [if_pos c_16] at hsp
      refine lv_iload hx hb dX9_scanToken_93 (lv_at hl 0 rfl) ?_
      refine lv_if_eq (tgt := 103) hx hb dX9_scanToken_95 (by decide) (fun c_17 => ?_) (fun c_17 => ?_)
      · rw [if_pos c_17] at hsp
        exact hj_103 (H, locs, ls, l3_84, l4_84, l5_84, g0_84, g1_84, g2_84, g4_84, g5_84, g6_84, g7_84, x3_84, x9_84) ⟨lv_sub hl [1, 2, 3, 4] rfl, hS, hD.sub (ws' := [(h0, .inr (9, [.ref qf0, .ref qf1, .ref qf2, .int x3_84, .ref qf4, .ref qf5, .ref qf6, .ref qf7, .ref qf8, .int x9_84, .int v10, .int v11, .int v12])), (qa1, .inl (ca1, na1, .inl fa1)), (qf0, .inl (cf0, 3001, .inl g0_84)), (qf1, .inl (cf1, 3001, .inl g1_84)), (qf2, .inl (cf2, 3001, .inl g2_84)), (qf7, .inl (cf7, 64, .inl g7_84)), (qf5, .inl (cf5, 1741, .inl g5_84)), (qf4, .inl (cf4, 6400, .inl g4_84)), (qf6, .inl (cf6, 1740, .inl g6_84))]) [0, 1, 2, 3, 4, 5, 6, 7, 8] (by decide) rfl, hP.sub (ws' := [(h0, .inr (9, [.ref qf0, .ref qf1, .ref qf2, .int x3_84, .ref qf4, .ref qf5, .ref qf6, .ref qf7, .ref qf8, .int x9_84, .int v10, .int v11, .int v12])), (qa1, .inl (ca1, na1, .inl fa1)), (qf0, .inl (cf0, 3001, .inl g0_84)), (qf1, .inl (cf1, 3001, .inl g1_84)), (qf2, .inl (cf2, 3001, .inl g2_84)), (qf7, .inl (cf7, 64, .inl g7_84)), (qf5, .inl (cf5, 1741, .inl g5_84)), (qf4, .inl (cf4, 6400, .inl g4_84)), (qf6, .inl (cf6, 1740, .inl g6_84))]) [0, 1, 2, 3, 4, 5, 6, 7, 8] rfl, hsp⟩
      · rw [if_neg c_17] at hsp
        refine lv_bipush (v := 60) hx hb dX9_scanToken_98 (by decide) ?_
        refine lv_goto (tgt := 110) hx hb dX9_scanToken_100 (by decide) ?_
        exact hj_110 (H, locs, ls, l3_84, 60, g0_84, g1_84, g2_84, g4_84, g5_84, g6_84, g7_84, x3_84, x9_84) ⟨lv_sub hl [1, 2] rfl, hS, hD.sub (ws' := [(h0, .inr (9, [.ref qf0, .ref qf1, .ref qf2, .int x3_84, .ref qf4, .ref qf5, .ref qf6, .ref qf7, .ref qf8, .int x9_84, .int v10, .int v11, .int v12])), (qa1, .inl (ca1, na1, .inl fa1)), (qf0, .inl (cf0, 3001, .inl g0_84)), (qf1, .inl (cf1, 3001, .inl g1_84)), (qf2, .inl (cf2, 3001, .inl g2_84)), (qf7, .inl (cf7, 64, .inl g7_84)), (qf5, .inl (cf5, 1741, .inl g5_84)), (qf4, .inl (cf4, 6400, .inl g4_84)), (qf6, .inl (cf6, 1740, .inl g6_84))]) [0, 1, 2, 3, 4, 5, 6, 7, 8] (by decide) rfl, hP.sub (ws' := [(h0, .inr (9, [.ref qf0, .ref qf1, .ref qf2, .int x3_84, .ref qf4, .ref qf5, .ref qf6, .ref qf7, .ref qf8, .int x9_84, .int v10, .int v11, .int v12])), (qa1, .inl (ca1, na1, .inl fa1)), (qf0, .inl (cf0, 3001, .inl g0_84)), (qf1, .inl (cf1, 3001, .inl g1_84)), (qf2, .inl (cf2, 3001, .inl g2_84)), (qf7, .inl (cf7, 64, .inl g7_84)), (qf5, .inl (cf5, 1741, .inl g5_84)), (qf4, .inl (cf4, 6400, .inl g4_84)), (qf6, .inl (cf6, 1740, .inl g6_84))]) [0, 1, 2, 3, 4, 5, 6, 7, 8] rfl, hsp⟩
  intro hj_84
  refine jn_use (α := Heap × List Loc × Array Slot × Int32 × Int32 × Int32 × (Nat → Int32) × (Nat → Int32) × (Nat → Int32) × (Nat → Int32) × (Nat → Int32) × (Nat → Int32) × (Nat → Int32) × Int32 × Int32) (fun x9 => x9.1) (fun x9 => x9.2.1) (fun x9 => F0 m 83 x9.2.2.1 []) (fun x9 => match x9 with | (H, locs, ls, l3_83, l4_83, l5_83, g0_83, g1_83, g2_83, g4_83, g5_83, g6_83, g7_83, x3_83, x9_83) => lv_has ls 8 [(0, .ref h0), (3, .int l3_83), (4, .int l4_83), (5, .int l5_83)] ∧ va_S A s.heap H locs ∧ va_D A [(h0, .inr (9, [.ref qf0, .ref qf1, .ref qf2, .int x3_83, .ref qf4, .ref qf5, .ref qf6, .ref qf7, .ref qf8, .int x9_83, .int v10, .int v11, .int v12])), (qa1, .inl (ca1, na1, .inl fa1)), (qf0, .inl (cf0, 3001, .inl g0_83)), (qf1, .inl (cf1, 3001, .inl g1_83)), (qf2, .inl (cf2, 3001, .inl g2_83)), (qf7, .inl (cf7, 64, .inl g7_83)), (qf5, .inl (cf5, 1741, .inl g5_83)), (qf4, .inl (cf4, 6400, .inl g4_83)), (qf6, .inl (cf6, 1740, .inl g6_83))] ∧ va_P (dC, dI) vwCl [(h0, .inr (9, [.ref qf0, .ref qf1, .ref qf2, .int x3_83, .ref qf4, .ref qf5, .ref qf6, .ref qf7, .ref qf8, .int x9_83, .int v10, .int v11, .int v12])), (qa1, .inl (ca1, na1, .inl fa1)), (qf0, .inl (cf0, 3001, .inl g0_83)), (qf1, .inl (cf1, 3001, .inl g1_83)), (qf2, .inl (cf2, 3001, .inl g2_83)), (qf7, .inl (cf7, 64, .inl g7_83)), (qf5, .inl (cf5, 1741, .inl g5_83)), (qf4, .inl (cf4, 6400, .inl g4_83)), (qf6, .inl (cf6, 1740, .inl g6_83))] H ∧ jn_v9_scanToken_83 nf a2 a3 v3 v9 na1 fa1 f0 f1 f2 f7 f5 f4 f6 l3_83 l4_83 l5_83 g0_83 g1_83 g2_83 g4_83 g5_83 g6_83 g7_83 x3_83 x9_83 = some (r0, o0, o1, o2, o4, o5, o6, o7, w3, w9)) ?_ ?_
  · intro x9 hJ9
    obtain ⟨H, locs, ls, l3_83, l4_83, l5_83, g0_83, g1_83, g2_83, g4_83, g5_83, g6_83, g7_83, x3_83, x9_83⟩ := x9
    obtain ⟨hl, hS, hD, hP, hsp⟩ := hJ9
    replace hl : lv_has ls 8 [(0, .ref h0), (3, .int l3_83), (4, .int l4_83), (5, .int l5_83)] := hl
    replace hS : va_S A s.heap H locs := hS
    replace hD : va_D A [(h0, .inr (9, [.ref qf0, .ref qf1, .ref qf2, .int x3_83, .ref qf4, .ref qf5, .ref qf6, .ref qf7, .ref qf8, .int x9_83, .int v10, .int v11, .int v12])), (qa1, .inl (ca1, na1, .inl fa1)), (qf0, .inl (cf0, 3001, .inl g0_83)), (qf1, .inl (cf1, 3001, .inl g1_83)), (qf2, .inl (cf2, 3001, .inl g2_83)), (qf7, .inl (cf7, 64, .inl g7_83)), (qf5, .inl (cf5, 1741, .inl g5_83)), (qf4, .inl (cf4, 6400, .inl g4_83)), (qf6, .inl (cf6, 1740, .inl g6_83))] := hD
    replace hP : va_P (dC, dI) vwCl [(h0, .inr (9, [.ref qf0, .ref qf1, .ref qf2, .int x3_83, .ref qf4, .ref qf5, .ref qf6, .ref qf7, .ref qf8, .int x9_83, .int v10, .int v11, .int v12])), (qa1, .inl (ca1, na1, .inl fa1)), (qf0, .inl (cf0, 3001, .inl g0_83)), (qf1, .inl (cf1, 3001, .inl g1_83)), (qf2, .inl (cf2, 3001, .inl g2_83)), (qf7, .inl (cf7, 64, .inl g7_83)), (qf5, .inl (cf5, 1741, .inl g5_83)), (qf4, .inl (cf4, 6400, .inl g4_83)), (qf6, .inl (cf6, 1740, .inl g6_83))] H := hP
    replace hsp : jn_v9_scanToken_83 nf a2 a3 v3 v9 na1 fa1 f0 f1 f2 f7 f5 f4 f6 l3_83 l4_83 l5_83 g0_83 g1_83 g2_83 g4_83 g5_83 g6_83 g7_83 x3_83 x9_83 = some (r0, o0, o1, o2, o4, o5, o6, o7, w3, w9) := hsp
    show W _ _ _ _ _ _ _ _ _ _ H locs _ _ _ (F0 m 83 ls [])
    unfold jn_v9_scanToken_83 at hsp
    try dsimp only at hsp
    refine lv_iconst (v := 0) hx hb dX9_scanToken_83 (by decide) ?_
    exact hj_84 (H, locs, ls, l3_83, l4_83, l5_83, 0, g0_83, g1_83, g2_83, g4_83, g5_83, g6_83, g7_83, x3_83, x9_83) ⟨lv_sub hl [0, 1, 2, 3] rfl, hS, hD.sub (ws' := [(h0, .inr (9, [.ref qf0, .ref qf1, .ref qf2, .int x3_83, .ref qf4, .ref qf5, .ref qf6, .ref qf7, .ref qf8, .int x9_83, .int v10, .int v11, .int v12])), (qa1, .inl (ca1, na1, .inl fa1)), (qf0, .inl (cf0, 3001, .inl g0_83)), (qf1, .inl (cf1, 3001, .inl g1_83)), (qf2, .inl (cf2, 3001, .inl g2_83)), (qf7, .inl (cf7, 64, .inl g7_83)), (qf5, .inl (cf5, 1741, .inl g5_83)), (qf4, .inl (cf4, 6400, .inl g4_83)), (qf6, .inl (cf6, 1740, .inl g6_83))]) [0, 1, 2, 3, 4, 5, 6, 7, 8] (by decide) rfl, hP.sub (ws' := [(h0, .inr (9, [.ref qf0, .ref qf1, .ref qf2, .int x3_83, .ref qf4, .ref qf5, .ref qf6, .ref qf7, .ref qf8, .int x9_83, .int v10, .int v11, .int v12])), (qa1, .inl (ca1, na1, .inl fa1)), (qf0, .inl (cf0, 3001, .inl g0_83)), (qf1, .inl (cf1, 3001, .inl g1_83)), (qf2, .inl (cf2, 3001, .inl g2_83)), (qf7, .inl (cf7, 64, .inl g7_83)), (qf5, .inl (cf5, 1741, .inl g5_83)), (qf4, .inl (cf4, 6400, .inl g4_83)), (qf6, .inl (cf6, 1740, .inl g6_83))]) [0, 1, 2, 3, 4, 5, 6, 7, 8] rfl, hsp⟩
  intro hj_83
  refine jn_use (α := Heap × List Loc × Array Slot × Int32 × Int32 × Int32 × Int32 × (Nat → Int32) × (Nat → Int32) × (Nat → Int32) × (Nat → Int32) × (Nat → Int32) × (Nat → Int32) × (Nat → Int32) × Int32 × Int32) (fun x9 => x9.1) (fun x9 => x9.2.1) (fun x9 => F0 m 53 x9.2.2.1 [.int (x9.2.2.2.2.2.2.1)]) (fun x9 => match x9 with | (H, locs, ls, l2_53, l3_53, l4_53, s0_53, g0_53, g1_53, g2_53, g4_53, g5_53, g6_53, g7_53, x3_53, x9_53) => lv_has ls 8 [(0, .ref h0), (1, .ref qa1), (2, .int l2_53), (3, .int l3_53), (4, .int l4_53)] ∧ va_S A s.heap H locs ∧ va_D A [(h0, .inr (9, [.ref qf0, .ref qf1, .ref qf2, .int x3_53, .ref qf4, .ref qf5, .ref qf6, .ref qf7, .ref qf8, .int x9_53, .int v10, .int v11, .int v12])), (qa1, .inl (ca1, na1, .inl fa1)), (qf0, .inl (cf0, 3001, .inl g0_53)), (qf1, .inl (cf1, 3001, .inl g1_53)), (qf2, .inl (cf2, 3001, .inl g2_53)), (qf7, .inl (cf7, 64, .inl g7_53)), (qf5, .inl (cf5, 1741, .inl g5_53)), (qf4, .inl (cf4, 6400, .inl g4_53)), (qf6, .inl (cf6, 1740, .inl g6_53))] ∧ va_P (dC, dI) vwCl [(h0, .inr (9, [.ref qf0, .ref qf1, .ref qf2, .int x3_53, .ref qf4, .ref qf5, .ref qf6, .ref qf7, .ref qf8, .int x9_53, .int v10, .int v11, .int v12])), (qa1, .inl (ca1, na1, .inl fa1)), (qf0, .inl (cf0, 3001, .inl g0_53)), (qf1, .inl (cf1, 3001, .inl g1_53)), (qf2, .inl (cf2, 3001, .inl g2_53)), (qf7, .inl (cf7, 64, .inl g7_53)), (qf5, .inl (cf5, 1741, .inl g5_53)), (qf4, .inl (cf4, 6400, .inl g4_53)), (qf6, .inl (cf6, 1740, .inl g6_53))] H ∧ jn_v9_scanToken_53 nf a2 a3 v3 v9 na1 fa1 f0 f1 f2 f7 f5 f4 f6 l2_53 l3_53 l4_53 s0_53 g0_53 g1_53 g2_53 g4_53 g5_53 g6_53 g7_53 x3_53 x9_53 = some (r0, o0, o1, o2, o4, o5, o6, o7, w3, w9)) ?_ ?_
  · intro x9 hJ9
    obtain ⟨H, locs, ls, l2_53, l3_53, l4_53, s0_53, g0_53, g1_53, g2_53, g4_53, g5_53, g6_53, g7_53, x3_53, x9_53⟩ := x9
    obtain ⟨hl, hS, hD, hP, hsp⟩ := hJ9
    replace hl : lv_has ls 8 [(0, .ref h0), (1, .ref qa1), (2, .int l2_53), (3, .int l3_53), (4, .int l4_53)] := hl
    replace hS : va_S A s.heap H locs := hS
    replace hD : va_D A [(h0, .inr (9, [.ref qf0, .ref qf1, .ref qf2, .int x3_53, .ref qf4, .ref qf5, .ref qf6, .ref qf7, .ref qf8, .int x9_53, .int v10, .int v11, .int v12])), (qa1, .inl (ca1, na1, .inl fa1)), (qf0, .inl (cf0, 3001, .inl g0_53)), (qf1, .inl (cf1, 3001, .inl g1_53)), (qf2, .inl (cf2, 3001, .inl g2_53)), (qf7, .inl (cf7, 64, .inl g7_53)), (qf5, .inl (cf5, 1741, .inl g5_53)), (qf4, .inl (cf4, 6400, .inl g4_53)), (qf6, .inl (cf6, 1740, .inl g6_53))] := hD
    replace hP : va_P (dC, dI) vwCl [(h0, .inr (9, [.ref qf0, .ref qf1, .ref qf2, .int x3_53, .ref qf4, .ref qf5, .ref qf6, .ref qf7, .ref qf8, .int x9_53, .int v10, .int v11, .int v12])), (qa1, .inl (ca1, na1, .inl fa1)), (qf0, .inl (cf0, 3001, .inl g0_53)), (qf1, .inl (cf1, 3001, .inl g1_53)), (qf2, .inl (cf2, 3001, .inl g2_53)), (qf7, .inl (cf7, 64, .inl g7_53)), (qf5, .inl (cf5, 1741, .inl g5_53)), (qf4, .inl (cf4, 6400, .inl g4_53)), (qf6, .inl (cf6, 1740, .inl g6_53))] H := hP
    replace hsp : jn_v9_scanToken_53 nf a2 a3 v3 v9 na1 fa1 f0 f1 f2 f7 f5 f4 f6 l2_53 l3_53 l4_53 s0_53 g0_53 g1_53 g2_53 g4_53 g5_53 g6_53 g7_53 x3_53 x9_53 = some (r0, o0, o1, o2, o4, o5, o6, o7, w3, w9) := hsp
    show W _ _ _ _ _ _ _ _ _ _ H locs _ _ _ (F0 m 53 ls [.int s0_53])
    unfold jn_v9_scanToken_53 at hsp
    try dsimp only at hsp
    refine lv_istore (lv' := [(5, .int s0_53), (0, .ref h0), (1, .ref qa1), (2, .int l2_53), (3, .int l3_53), (4, .int l4_53)]) hx hb dX9_scanToken_53 hl (by decide) rfl (fun ls hl => ?_)
    refine lv_iload hx hb dX9_scanToken_55 (lv_at hl 0 rfl) ?_
    refine lv_bipush (v := 62) hx hb dX9_scanToken_57 (by decide) ?_
    refine lv_icmp_ne (tgt := 83) hx hb dX9_scanToken_59 (by decide) (fun c_12 => ?_) (fun c_12 => ?_)
    · rw [if_neg c_12] at hsp
      exact hj_83 (H, locs, ls, l3_53, l4_53, s0_53, g0_53, g1_53, g2_53, g4_53, g5_53, g6_53, g7_53, x3_53, x9_53) ⟨lv_sub hl [1, 4, 5, 0] rfl, hS, hD.sub (ws' := [(h0, .inr (9, [.ref qf0, .ref qf1, .ref qf2, .int x3_53, .ref qf4, .ref qf5, .ref qf6, .ref qf7, .ref qf8, .int x9_53, .int v10, .int v11, .int v12])), (qa1, .inl (ca1, na1, .inl fa1)), (qf0, .inl (cf0, 3001, .inl g0_53)), (qf1, .inl (cf1, 3001, .inl g1_53)), (qf2, .inl (cf2, 3001, .inl g2_53)), (qf7, .inl (cf7, 64, .inl g7_53)), (qf5, .inl (cf5, 1741, .inl g5_53)), (qf4, .inl (cf4, 6400, .inl g4_53)), (qf6, .inl (cf6, 1740, .inl g6_53))]) [0, 1, 2, 3, 4, 5, 6, 7, 8] (by decide) rfl, hP.sub (ws' := [(h0, .inr (9, [.ref qf0, .ref qf1, .ref qf2, .int x3_53, .ref qf4, .ref qf5, .ref qf6, .ref qf7, .ref qf8, .int x9_53, .int v10, .int v11, .int v12])), (qa1, .inl (ca1, na1, .inl fa1)), (qf0, .inl (cf0, 3001, .inl g0_53)), (qf1, .inl (cf1, 3001, .inl g1_53)), (qf2, .inl (cf2, 3001, .inl g2_53)), (qf7, .inl (cf7, 64, .inl g7_53)), (qf5, .inl (cf5, 1741, .inl g5_53)), (qf4, .inl (cf4, 6400, .inl g4_53)), (qf6, .inl (cf6, 1740, .inl g6_53))]) [0, 1, 2, 3, 4, 5, 6, 7, 8] rfl, hsp⟩
    · rw [if_pos c_12] at hsp
      refine lv_iload_n hx hb dX9_scanToken_62 rfl (lv_at hl 4 rfl) ?_
      refine lv_iconst (v := 2) hx hb dX9_scanToken_63 (by decide) ?_
      refine lv_iadd hx hb dX9_scanToken_64 ?_
      refine lv_iload_n hx hb dX9_scanToken_65 rfl (lv_at hl 3 rfl) ?_
      refine lv_icmp_ge (tgt := 83) hx hb dX9_scanToken_66 (by decide) (fun c_13 => ?_) (fun c_13 => ?_)
      · rw [if_pos c_13] at hsp
        exact hj_83 (H, locs, ls, l3_53, l4_53, s0_53, g0_53, g1_53, g2_53, g4_53, g5_53, g6_53, g7_53, x3_53, x9_53) ⟨lv_sub hl [1, 4, 5, 0] rfl, hS, hD.sub (ws' := [(h0, .inr (9, [.ref qf0, .ref qf1, .ref qf2, .int x3_53, .ref qf4, .ref qf5, .ref qf6, .ref qf7, .ref qf8, .int x9_53, .int v10, .int v11, .int v12])), (qa1, .inl (ca1, na1, .inl fa1)), (qf0, .inl (cf0, 3001, .inl g0_53)), (qf1, .inl (cf1, 3001, .inl g1_53)), (qf2, .inl (cf2, 3001, .inl g2_53)), (qf7, .inl (cf7, 64, .inl g7_53)), (qf5, .inl (cf5, 1741, .inl g5_53)), (qf4, .inl (cf4, 6400, .inl g4_53)), (qf6, .inl (cf6, 1740, .inl g6_53))]) [0, 1, 2, 3, 4, 5, 6, 7, 8] (by decide) rfl, hP.sub (ws' := [(h0, .inr (9, [.ref qf0, .ref qf1, .ref qf2, .int x3_53, .ref qf4, .ref qf5, .ref qf6, .ref qf7, .ref qf8, .int x9_53, .int v10, .int v11, .int v12])), (qa1, .inl (ca1, na1, .inl fa1)), (qf0, .inl (cf0, 3001, .inl g0_53)), (qf1, .inl (cf1, 3001, .inl g1_53)), (qf2, .inl (cf2, 3001, .inl g2_53)), (qf7, .inl (cf7, 64, .inl g7_53)), (qf5, .inl (cf5, 1741, .inl g5_53)), (qf4, .inl (cf4, 6400, .inl g4_53)), (qf6, .inl (cf6, 1740, .inl g6_53))]) [0, 1, 2, 3, 4, 5, 6, 7, 8] rfl, hsp⟩
      · rw [if_neg c_13] at hsp
        refine lv_aload_n hx hb dX9_scanToken_69 rfl (lv_at hl 2 rfl) ?_
        refine lv_iload_n hx hb dX9_scanToken_70 rfl (lv_at hl 4 rfl) ?_
        refine lv_iconst (v := 2) hx hb dX9_scanToken_71 (by decide) ?_
        refine lv_iadd hx hb dX9_scanToken_72 ?_
        obtain ⟨hi_14, hsp⟩ := ox_in hsp
        refine va_bald hx hb hK hP 1 0 rfl rfl (i := (l3_53 + 2)) hi_14 dX9_scanToken_73 ?_
        refine lv_bipush (v := 62) hx hb dX9_scanToken_74 (by decide) ?_
        refine lv_icmp_ne (tgt := 83) hx hb dX9_scanToken_76 (by decide) (fun c_15 => ?_) (fun c_15 => ?_)
        · rw [if_neg c_15] at hsp
          exact hj_83 (H, locs, ls, l3_53, l4_53, s0_53, g0_53, g1_53, g2_53, g4_53, g5_53, g6_53, g7_53, x3_53, x9_53) ⟨lv_sub hl [1, 4, 5, 0] rfl, hS, hD.sub (ws' := [(h0, .inr (9, [.ref qf0, .ref qf1, .ref qf2, .int x3_53, .ref qf4, .ref qf5, .ref qf6, .ref qf7, .ref qf8, .int x9_53, .int v10, .int v11, .int v12])), (qa1, .inl (ca1, na1, .inl fa1)), (qf0, .inl (cf0, 3001, .inl g0_53)), (qf1, .inl (cf1, 3001, .inl g1_53)), (qf2, .inl (cf2, 3001, .inl g2_53)), (qf7, .inl (cf7, 64, .inl g7_53)), (qf5, .inl (cf5, 1741, .inl g5_53)), (qf4, .inl (cf4, 6400, .inl g4_53)), (qf6, .inl (cf6, 1740, .inl g6_53))]) [0, 1, 2, 3, 4, 5, 6, 7, 8] (by decide) rfl, hP.sub (ws' := [(h0, .inr (9, [.ref qf0, .ref qf1, .ref qf2, .int x3_53, .ref qf4, .ref qf5, .ref qf6, .ref qf7, .ref qf8, .int x9_53, .int v10, .int v11, .int v12])), (qa1, .inl (ca1, na1, .inl fa1)), (qf0, .inl (cf0, 3001, .inl g0_53)), (qf1, .inl (cf1, 3001, .inl g1_53)), (qf2, .inl (cf2, 3001, .inl g2_53)), (qf7, .inl (cf7, 64, .inl g7_53)), (qf5, .inl (cf5, 1741, .inl g5_53)), (qf4, .inl (cf4, 6400, .inl g4_53)), (qf6, .inl (cf6, 1740, .inl g6_53))]) [0, 1, 2, 3, 4, 5, 6, 7, 8] rfl, hsp⟩
        · rw [if_pos c_15] at hsp
          refine lv_iconst (v := 1) hx hb dX9_scanToken_79 (by decide) ?_
          refine lv_goto (tgt := 84) hx hb dX9_scanToken_80 (by decide) ?_
          exact hj_84 (H, locs, ls, l3_53, l4_53, s0_53, 1, g0_53, g1_53, g2_53, g4_53, g5_53, g6_53, g7_53, x3_53, x9_53) ⟨lv_sub hl [1, 4, 5, 0] rfl, hS, hD.sub (ws' := [(h0, .inr (9, [.ref qf0, .ref qf1, .ref qf2, .int x3_53, .ref qf4, .ref qf5, .ref qf6, .ref qf7, .ref qf8, .int x9_53, .int v10, .int v11, .int v12])), (qa1, .inl (ca1, na1, .inl fa1)), (qf0, .inl (cf0, 3001, .inl g0_53)), (qf1, .inl (cf1, 3001, .inl g1_53)), (qf2, .inl (cf2, 3001, .inl g2_53)), (qf7, .inl (cf7, 64, .inl g7_53)), (qf5, .inl (cf5, 1741, .inl g5_53)), (qf4, .inl (cf4, 6400, .inl g4_53)), (qf6, .inl (cf6, 1740, .inl g6_53))]) [0, 1, 2, 3, 4, 5, 6, 7, 8] (by decide) rfl, hP.sub (ws' := [(h0, .inr (9, [.ref qf0, .ref qf1, .ref qf2, .int x3_53, .ref qf4, .ref qf5, .ref qf6, .ref qf7, .ref qf8, .int x9_53, .int v10, .int v11, .int v12])), (qa1, .inl (ca1, na1, .inl fa1)), (qf0, .inl (cf0, 3001, .inl g0_53)), (qf1, .inl (cf1, 3001, .inl g1_53)), (qf2, .inl (cf2, 3001, .inl g2_53)), (qf7, .inl (cf7, 64, .inl g7_53)), (qf5, .inl (cf5, 1741, .inl g5_53)), (qf4, .inl (cf4, 6400, .inl g4_53)), (qf6, .inl (cf6, 1740, .inl g6_53))]) [0, 1, 2, 3, 4, 5, 6, 7, 8] rfl, hsp⟩
  intro hj_53
  refine lv_aload_n hx hb dX9_scanToken_0 rfl (lv_at hl 1 rfl) ?_
  refine lv_iload_n hx hb dX9_scanToken_1 rfl (lv_at hl 3 rfl) ?_
  obtain ⟨hi_1, hsp⟩ := ox_in hsp
  refine va_bald hx hb hK hP 1 0 rfl rfl (i := a3) hi_1 dX9_scanToken_2 ?_
  refine lv_istore (lv' := [(4, .int (fa1 (a3 : Int32).toNatClampNeg)), (0, .ref h0), (1, .ref qa1), (2, .int a2), (3, .int a3)]) hx hb dX9_scanToken_3 hl (by decide) rfl (fun ls hl => ?_)
  refine lv_iload hx hb dX9_scanToken_5 (lv_at hl 0 rfl) ?_
  obtain ⟨u1_0, hu_1, hsp⟩ := ox_bind hsp
  try dsimp only at hsp
  have hPc := hP.sub (ws' := []) [] rfl
  have hDc := hD.sub (ws' := []) [] (by decide) rfl
  have hKc := hK.sub (tys' := []) [] rfl
  have hFc := va_free (wc := []) hD hS hA [] rfl
  refine va_calli (va_runS (As := [.int (fa1 (a3 : Int32).toNatClampNeg)]) (rest := []) ⟨hx, hb, hml, hown, hts⟩ (t9_isLetter l dC dI H.size ((fa1 (a3 : Int32).toNatClampNeg)) nf u1_0 hu_1) (va_cwS 1 hts gv_h7_64 rfl rfl rfl (by decide +kernel) ⟨Nat.le_of_ble_eq_true rfl, Nat.le_of_ble_eq_true rfl⟩) ⟨fun a U g mk q => by obtain ⟨q0, q1, qP, qK, qD⟩ := q; exact ⟨q0, q1, qP, va_K.moved (u := U) (U := U.calling g mk a) (Vm.Alike.refl U.vm) qK, qD⟩, fun U hU hW => ⟨rfl, by rw [hU], by rw [hU]; exact hPc, va_K.moved hW.alike hKc, hDc.weaken (fun _ _ _ _ => trivial)⟩⟩ rfl rfl hl.1 rfl (lv_room (Nat.le_of_ble_eq_true rfl)) dX9_scanToken_7 ⟨Nat.le_of_ble_eq_true rfl, Nat.le_of_ble_eq_true rfl⟩) hS (fun q _ h => hFc q h) hFc ?_
  clear hS
  intro r_2 u t H1 locs ht hvm hw hB hz1 hk1 hS
  obtain ⟨⟩ := u
  obtain ⟨hP1, hK1, hD1⟩ := hB
  rw [ht] at hP1
  have hK1 := va_K.moved hvm.symm hK1
  try dsimp only at hw
  have hPD := va_join (wr := [(h0, .inr (9, [.ref qf0, .ref qf1, .ref qf2, .int v3, .ref qf4, .ref qf5, .ref qf6, .ref qf7, .ref qf8, .int v9, .int v10, .int v11, .int v12])), (qa1, .inl (ca1, na1, .inl fa1)), (qf0, .inl (cf0, 3001, .inl f0)), (qf1, .inl (cf1, 3001, .inl f1)), (qf2, .inl (cf2, 3001, .inl f2)), (qf7, .inl (cf7, 64, .inl f7)), (qf5, .inl (cf5, 1741, .inl f5)), (qf4, .inl (cf4, 6400, .inl f4)), (qf6, .inl (cf6, 1740, .inl f6))]) (w1 := []) hP hD [] [0, 1, 2, 3, 4, 5, 6, 7, 8] rfl rfl (by decide) (by decide) hk1 hFc hP1 hD1
  clear hP hD
  obtain ⟨hP, hD⟩ := hPD
  replace hK := (hK.sub (tys' := [(ca1, .byte), (cf0, .int), (cf1, .int), (cf2, .int), (cf7, .int), (cf5, .int), (cf4, .byte), (cf6, .int)]) [0, 1, 2, 3, 4, 5, 6, 7] rfl).app hK1
  clear hPc hDc hKc hFc hP1 hK1 hD1 hz1 hk1 ht hvm
  generalize H1 = H at hP hS ⊢
  replace hP : va_P (dC, dI) vwCl [(h0, .inr (9, [.ref qf0, .ref qf1, .ref qf2, .int v3, .ref qf4, .ref qf5, .ref qf6, .ref qf7, .ref qf8, .int v9, .int v10, .int v11, .int v12])), (qa1, .inl (ca1, na1, .inl fa1)), (qf0, .inl (cf0, 3001, .inl f0)), (qf1, .inl (cf1, 3001, .inl f1)), (qf2, .inl (cf2, 3001, .inl f2)), (qf7, .inl (cf7, 64, .inl f7)), (qf5, .inl (cf5, 1741, .inl f5)), (qf4, .inl (cf4, 6400, .inl f4)), (qf6, .inl (cf6, 1740, .inl f6))] H := hP
  replace hD : va_D A [(h0, .inr (9, [.ref qf0, .ref qf1, .ref qf2, .int v3, .ref qf4, .ref qf5, .ref qf6, .ref qf7, .ref qf8, .int v9, .int v10, .int v11, .int v12])), (qa1, .inl (ca1, na1, .inl fa1)), (qf0, .inl (cf0, 3001, .inl f0)), (qf1, .inl (cf1, 3001, .inl f1)), (qf2, .inl (cf2, 3001, .inl f2)), (qf7, .inl (cf7, 64, .inl f7)), (qf5, .inl (cf5, 1741, .inl f5)), (qf4, .inl (cf4, 6400, .inl f4)), (qf6, .inl (cf6, 1740, .inl f6))] := hD
  replace hK : va_K (dC, dI) vwCl [(ca1, .byte), (cf0, .int), (cf1, .int), (cf2, .int), (cf7, .int), (cf5, .int), (cf4, .byte), (cf6, .int)] s := hK
  obtain ⟨rfl, hz_1⟩ := hw
  rcases hz_1 with rfl | rfl
  · rw [if_pos rfl] at hsp
    refine lv_if_eq (tgt := 21) hx hb dX9_scanToken_10 (by decide) (fun c_3 => ?_) (fun c_3 => (show False by revert c_3; decide).elim)
    refine lv_iload hx hb dX9_scanToken_21 (lv_at hl 0 rfl) ?_
    obtain ⟨u2_0, hu_2, hsp⟩ := ox_bind hsp
    try dsimp only at hsp
    have hPc := hP.sub (ws' := []) [] rfl
    have hDc := hD.sub (ws' := []) [] (by decide) rfl
    have hKc := hK.sub (tys' := []) [] rfl
    have hFc := va_free (wc := []) hD hS hA [] rfl
    refine va_calli (va_runS (As := [.int (fa1 (a3 : Int32).toNatClampNeg)]) (rest := []) ⟨hx, hb, hml, hown, hts⟩ (t9_isDigit l dC dI H.size ((fa1 (a3 : Int32).toNatClampNeg)) nf u2_0 hu_2) (va_cwS 1 hts gv_h7_65 rfl rfl rfl (by decide +kernel) ⟨Nat.le_of_ble_eq_true rfl, Nat.le_of_ble_eq_true rfl⟩) ⟨fun a U g mk q => by obtain ⟨q0, q1, qP, qK, qD⟩ := q; exact ⟨q0, q1, qP, va_K.moved (u := U) (U := U.calling g mk a) (Vm.Alike.refl U.vm) qK, qD⟩, fun U hU hW => ⟨rfl, by rw [hU], by rw [hU]; exact hPc, va_K.moved hW.alike hKc, hDc.weaken (fun _ _ _ _ => trivial)⟩⟩ rfl rfl hl.1 rfl (lv_room (Nat.le_of_ble_eq_true rfl)) dX9_scanToken_23 ⟨Nat.le_of_ble_eq_true rfl, Nat.le_of_ble_eq_true rfl⟩) hS (fun q _ h => hFc q h) hFc ?_
    clear hS
    intro r_4 u t H1 locs ht hvm hw hB hz1 hk1 hS
    obtain ⟨⟩ := u
    obtain ⟨hP1, hK1, hD1⟩ := hB
    rw [ht] at hP1
    have hK1 := va_K.moved hvm.symm hK1
    try dsimp only at hw
    have hPD := va_join (wr := [(h0, .inr (9, [.ref qf0, .ref qf1, .ref qf2, .int v3, .ref qf4, .ref qf5, .ref qf6, .ref qf7, .ref qf8, .int v9, .int v10, .int v11, .int v12])), (qa1, .inl (ca1, na1, .inl fa1)), (qf0, .inl (cf0, 3001, .inl f0)), (qf1, .inl (cf1, 3001, .inl f1)), (qf2, .inl (cf2, 3001, .inl f2)), (qf7, .inl (cf7, 64, .inl f7)), (qf5, .inl (cf5, 1741, .inl f5)), (qf4, .inl (cf4, 6400, .inl f4)), (qf6, .inl (cf6, 1740, .inl f6))]) (w1 := []) hP hD [] [0, 1, 2, 3, 4, 5, 6, 7, 8] rfl rfl (by decide) (by decide) hk1 hFc hP1 hD1
    clear hP hD
    obtain ⟨hP, hD⟩ := hPD
    replace hK := (hK.sub (tys' := [(ca1, .byte), (cf0, .int), (cf1, .int), (cf2, .int), (cf7, .int), (cf5, .int), (cf4, .byte), (cf6, .int)]) [0, 1, 2, 3, 4, 5, 6, 7] rfl).app hK1
    clear hPc hDc hKc hFc hP1 hK1 hD1 hz1 hk1 ht hvm
    generalize H1 = H at hP hS ⊢
    replace hP : va_P (dC, dI) vwCl [(h0, .inr (9, [.ref qf0, .ref qf1, .ref qf2, .int v3, .ref qf4, .ref qf5, .ref qf6, .ref qf7, .ref qf8, .int v9, .int v10, .int v11, .int v12])), (qa1, .inl (ca1, na1, .inl fa1)), (qf0, .inl (cf0, 3001, .inl f0)), (qf1, .inl (cf1, 3001, .inl f1)), (qf2, .inl (cf2, 3001, .inl f2)), (qf7, .inl (cf7, 64, .inl f7)), (qf5, .inl (cf5, 1741, .inl f5)), (qf4, .inl (cf4, 6400, .inl f4)), (qf6, .inl (cf6, 1740, .inl f6))] H := hP
    replace hD : va_D A [(h0, .inr (9, [.ref qf0, .ref qf1, .ref qf2, .int v3, .ref qf4, .ref qf5, .ref qf6, .ref qf7, .ref qf8, .int v9, .int v10, .int v11, .int v12])), (qa1, .inl (ca1, na1, .inl fa1)), (qf0, .inl (cf0, 3001, .inl f0)), (qf1, .inl (cf1, 3001, .inl f1)), (qf2, .inl (cf2, 3001, .inl f2)), (qf7, .inl (cf7, 64, .inl f7)), (qf5, .inl (cf5, 1741, .inl f5)), (qf4, .inl (cf4, 6400, .inl f4)), (qf6, .inl (cf6, 1740, .inl f6))] := hD
    replace hK : va_K (dC, dI) vwCl [(ca1, .byte), (cf0, .int), (cf1, .int), (cf2, .int), (cf7, .int), (cf5, .int), (cf4, .byte), (cf6, .int)] s := hK
    obtain ⟨rfl, hz_2⟩ := hw
    rcases hz_2 with rfl | rfl
    · rw [if_pos rfl] at hsp
      refine lv_if_eq (tgt := 37) hx hb dX9_scanToken_26 (by decide) (fun c_5 => ?_) (fun c_5 => (show False by revert c_5; decide).elim)
      refine lv_iload_n hx hb dX9_scanToken_37 rfl (lv_at hl 4 rfl) ?_
      refine lv_iconst (v := 1) hx hb dX9_scanToken_38 (by decide) ?_
      refine lv_iadd hx hb dX9_scanToken_39 ?_
      refine lv_iload_n hx hb dX9_scanToken_40 rfl (lv_at hl 3 rfl) ?_
      refine lv_icmp_ge (tgt := 52) hx hb dX9_scanToken_41 (by decide) (fun c_6 => ?_) (fun c_6 => ?_)
      · rw [if_pos c_6] at hsp
        refine lv_iconst (v := 0) hx hb dX9_scanToken_52 (by decide) ?_
        exact hj_53 (H, locs, ls, a2, a3, (fa1 (a3 : Int32).toNatClampNeg), 0, f0, f1, f2, f4, f5, f6, f7, v3, v9) ⟨lv_sub hl [1, 2, 3, 4, 0] rfl, hS, hD.sub (ws' := [(h0, .inr (9, [.ref qf0, .ref qf1, .ref qf2, .int v3, .ref qf4, .ref qf5, .ref qf6, .ref qf7, .ref qf8, .int v9, .int v10, .int v11, .int v12])), (qa1, .inl (ca1, na1, .inl fa1)), (qf0, .inl (cf0, 3001, .inl f0)), (qf1, .inl (cf1, 3001, .inl f1)), (qf2, .inl (cf2, 3001, .inl f2)), (qf7, .inl (cf7, 64, .inl f7)), (qf5, .inl (cf5, 1741, .inl f5)), (qf4, .inl (cf4, 6400, .inl f4)), (qf6, .inl (cf6, 1740, .inl f6))]) [0, 1, 2, 3, 4, 5, 6, 7, 8] (by decide) rfl, hP.sub (ws' := [(h0, .inr (9, [.ref qf0, .ref qf1, .ref qf2, .int v3, .ref qf4, .ref qf5, .ref qf6, .ref qf7, .ref qf8, .int v9, .int v10, .int v11, .int v12])), (qa1, .inl (ca1, na1, .inl fa1)), (qf0, .inl (cf0, 3001, .inl f0)), (qf1, .inl (cf1, 3001, .inl f1)), (qf2, .inl (cf2, 3001, .inl f2)), (qf7, .inl (cf7, 64, .inl f7)), (qf5, .inl (cf5, 1741, .inl f5)), (qf4, .inl (cf4, 6400, .inl f4)), (qf6, .inl (cf6, 1740, .inl f6))]) [0, 1, 2, 3, 4, 5, 6, 7, 8] rfl, hsp⟩
      · rw [if_neg c_6] at hsp
        refine lv_aload_n hx hb dX9_scanToken_44 rfl (lv_at hl 2 rfl) ?_
        refine lv_iload_n hx hb dX9_scanToken_45 rfl (lv_at hl 4 rfl) ?_
        refine lv_iconst (v := 1) hx hb dX9_scanToken_46 (by decide) ?_
        refine lv_iadd hx hb dX9_scanToken_47 ?_
        obtain ⟨hi_7, hsp⟩ := ox_in hsp
        refine va_bald hx hb hK hP 1 0 rfl rfl (i := (a3 + 1)) hi_7 dX9_scanToken_48 ?_
        refine lv_goto (tgt := 53) hx hb dX9_scanToken_49 (by decide) ?_
        exact hj_53 (H, locs, ls, a2, a3, (fa1 (a3 : Int32).toNatClampNeg), (fa1 ((a3 + 1) : Int32).toNatClampNeg), f0, f1, f2, f4, f5, f6, f7, v3, v9) ⟨lv_sub hl [1, 2, 3, 4, 0] rfl, hS, hD.sub (ws' := [(h0, .inr (9, [.ref qf0, .ref qf1, .ref qf2, .int v3, .ref qf4, .ref qf5, .ref qf6, .ref qf7, .ref qf8, .int v9, .int v10, .int v11, .int v12])), (qa1, .inl (ca1, na1, .inl fa1)), (qf0, .inl (cf0, 3001, .inl f0)), (qf1, .inl (cf1, 3001, .inl f1)), (qf2, .inl (cf2, 3001, .inl f2)), (qf7, .inl (cf7, 64, .inl f7)), (qf5, .inl (cf5, 1741, .inl f5)), (qf4, .inl (cf4, 6400, .inl f4)), (qf6, .inl (cf6, 1740, .inl f6))]) [0, 1, 2, 3, 4, 5, 6, 7, 8] (by decide) rfl, hP.sub (ws' := [(h0, .inr (9, [.ref qf0, .ref qf1, .ref qf2, .int v3, .ref qf4, .ref qf5, .ref qf6, .ref qf7, .ref qf8, .int v9, .int v10, .int v11, .int v12])), (qa1, .inl (ca1, na1, .inl fa1)), (qf0, .inl (cf0, 3001, .inl f0)), (qf1, .inl (cf1, 3001, .inl f1)), (qf2, .inl (cf2, 3001, .inl f2)), (qf7, .inl (cf7, 64, .inl f7)), (qf5, .inl (cf5, 1741, .inl f5)), (qf4, .inl (cf4, 6400, .inl f4)), (qf6, .inl (cf6, 1740, .inl f6))]) [0, 1, 2, 3, 4, 5, 6, 7, 8] rfl, hsp⟩
    · rw [if_neg (by decide)] at hsp
      refine lv_if_eq (tgt := 37) hx hb dX9_scanToken_26 (by decide) (fun c_8 => (show False by revert c_8; decide).elim) (fun c_8 => ?_)
      refine lv_aload_n hx hb dX9_scanToken_29 rfl (lv_at hl 1 rfl) ?_
      refine lv_aload_n hx hb dX9_scanToken_30 rfl (lv_at hl 2 rfl) ?_
      refine lv_iload_n hx hb dX9_scanToken_31 rfl (lv_at hl 3 rfl) ?_
      refine lv_iload_n hx hb dX9_scanToken_32 rfl (lv_at hl 4 rfl) ?_
      obtain ⟨⟨u3_0, g903_1, g903_2, g903_3, u3_4⟩, hu_3, hsp⟩ := ox_bind hsp
      try dsimp only at hsp
      have hPc := hP.sub (ws' := [(h0, .inr (9, [.ref qf0, .ref qf1, .ref qf2, .int v3, .ref qf4, .ref qf5, .ref qf6, .ref qf7, .ref qf8, .int v9, .int v10, .int v11, .int v12])), (qa1, .inl (ca1, na1, .inl fa1)), (qf0, .inl (cf0, 3001, .inl f0)), (qf1, .inl (cf1, 3001, .inl f1)), (qf2, .inl (cf2, 3001, .inl f2))]) [0, 1, 2, 3, 4] rfl
      have hDc := hD.sub (ws' := [(h0, .inr (9, [.ref qf0, .ref qf1, .ref qf2, .int v3, .ref qf4, .ref qf5, .ref qf6, .ref qf7, .ref qf8, .int v9, .int v10, .int v11, .int v12])), (qa1, .inl (ca1, na1, .inl fa1)), (qf0, .inl (cf0, 3001, .inl f0)), (qf1, .inl (cf1, 3001, .inl f1)), (qf2, .inl (cf2, 3001, .inl f2))]) [0, 1, 2, 3, 4] (by decide) rfl
      have hKc := hK.sub (tys' := [(ca1, .byte), (cf0, .int), (cf1, .int), (cf2, .int)]) [0, 1, 2, 3] rfl
      have hFc := va_free (wc := [(h0, .inr (9, [.ref qf0, .ref qf1, .ref qf2, .int v3, .ref qf4, .ref qf5, .ref qf6, .ref qf7, .ref qf8, .int v9, .int v10, .int v11, .int v12])), (qa1, .inl (ca1, na1, .inl fa1)), (qf0, .inl (cf0, 3001, .inl f0)), (qf1, .inl (cf1, 3001, .inl f1)), (qf2, .inl (cf2, 3001, .inl f2))]) hD hS hA [0, 1, 2, 3, 4] rfl
      refine va_calli (va_runV (As := [.ref qa1, .int a2, .int a3]) (rest := []) ⟨hx, hb, hml, hown, hts⟩ (v9_scanNumber l dC dI H.size h0 qa1 a2 a3 qf0 qf1 qf2 v3 qf4 qf5 qf6 qf7 qf8 v9 v10 v11 v12 ca1 na1 fa1 cf0 f0 cf1 f1 cf2 f2 nf u3_0 g903_1 g903_2 g903_3 u3_4 hu_3) (cwV 3 hts gv_h7_125 rfl rfl rfl (by decide +kernel) ⟨Nat.le_of_ble_eq_true rfl, Nat.le_of_ble_eq_true rfl⟩) ⟨fun a U g mk q => by obtain ⟨q0, q1, qP, qK, qD⟩ := q; exact ⟨q0, q1, qP, va_K.moved (u := U) (U := U.calling g mk a) (Vm.Alike.refl U.vm) qK, qD⟩, va_recv hKc hPc (ci := 9) (q0 := 0) rfl rfl, fun U hU hW => ⟨rfl, by rw [hU], by rw [hU]; exact hPc, va_K.moved hW.alike hKc, hDc.weaken (fun _ _ _ _ => trivial)⟩⟩ rfl rfl hl.1 rfl (lv_room (Nat.le_of_ble_eq_true rfl)) dX9_scanToken_33 ⟨Nat.le_of_ble_eq_true rfl, Nat.le_of_ble_eq_true rfl⟩) hS (fun q _ h => hFc q h) hFc ?_
      clear hS
      intro r_9 u t H1 locs ht hvm hw hB hz1 hk1 hS
      obtain ⟨⟩ := u
      obtain ⟨hP1, hK1, hD1⟩ := hB
      rw [ht] at hP1
      have hK1 := va_K.moved hvm.symm hK1
      try dsimp only at hw
      have hPD := va_join (wr := [(qf7, .inl (cf7, 64, .inl f7)), (qf5, .inl (cf5, 1741, .inl f5)), (qf4, .inl (cf4, 6400, .inl f4)), (qf6, .inl (cf6, 1740, .inl f6))]) (w1 := [(h0, .inr (9, [.ref qf0, .ref qf1, .ref qf2, .int u3_4, .ref qf4, .ref qf5, .ref qf6, .ref qf7, .ref qf8, .int v9, .int v10, .int v11, .int v12])), (qa1, .inl (ca1, na1, .inl fa1)), (qf0, .inl (cf0, 3001, .inl g903_1)), (qf1, .inl (cf1, 3001, .inl g903_2)), (qf2, .inl (cf2, 3001, .inl g903_3))]) hP hD [0, 1, 2, 3, 4] [5, 6, 7, 8] rfl rfl (by decide) (by decide) hk1 hFc hP1 hD1
      clear hP hD
      obtain ⟨hP, hD⟩ := hPD
      replace hK := (hK.sub (tys' := [(cf7, .int), (cf5, .int), (cf4, .byte), (cf6, .int)]) [4, 5, 6, 7] rfl).app hK1
      clear hPc hDc hKc hFc hP1 hK1 hD1 hz1 hk1 ht hvm
      generalize H1 = H at hP hS ⊢
      replace hP : va_P (dC, dI) vwCl [(qf7, .inl (cf7, 64, .inl f7)), (qf5, .inl (cf5, 1741, .inl f5)), (qf4, .inl (cf4, 6400, .inl f4)), (qf6, .inl (cf6, 1740, .inl f6)), (h0, .inr (9, [.ref qf0, .ref qf1, .ref qf2, .int u3_4, .ref qf4, .ref qf5, .ref qf6, .ref qf7, .ref qf8, .int v9, .int v10, .int v11, .int v12])), (qa1, .inl (ca1, na1, .inl fa1)), (qf0, .inl (cf0, 3001, .inl g903_1)), (qf1, .inl (cf1, 3001, .inl g903_2)), (qf2, .inl (cf2, 3001, .inl g903_3))] H := hP
      replace hD : va_D A [(qf7, .inl (cf7, 64, .inl f7)), (qf5, .inl (cf5, 1741, .inl f5)), (qf4, .inl (cf4, 6400, .inl f4)), (qf6, .inl (cf6, 1740, .inl f6)), (h0, .inr (9, [.ref qf0, .ref qf1, .ref qf2, .int u3_4, .ref qf4, .ref qf5, .ref qf6, .ref qf7, .ref qf8, .int v9, .int v10, .int v11, .int v12])), (qa1, .inl (ca1, na1, .inl fa1)), (qf0, .inl (cf0, 3001, .inl g903_1)), (qf1, .inl (cf1, 3001, .inl g903_2)), (qf2, .inl (cf2, 3001, .inl g903_3))] := hD
      replace hK : va_K (dC, dI) vwCl [(cf7, .int), (cf5, .int), (cf4, .byte), (cf6, .int), (ca1, .byte), (cf0, .int), (cf1, .int), (cf2, .int)] s := hK
      obtain rfl := hw
      have hr0 := Option.some.inj hsp
      clear hsp
      obtain ⟨hq0, hr1⟩ := Prod.mk.inj hr0
      clear hr0
      obtain ⟨hq1, hr2⟩ := Prod.mk.inj hr1
      clear hr1
      obtain ⟨hq2, hr3⟩ := Prod.mk.inj hr2
      clear hr2
      obtain ⟨hq3, hr4⟩ := Prod.mk.inj hr3
      clear hr3
      obtain ⟨hq4, hr5⟩ := Prod.mk.inj hr4
      clear hr4
      obtain ⟨hq5, hr6⟩ := Prod.mk.inj hr5
      clear hr5
      obtain ⟨hq6, hr7⟩ := Prod.mk.inj hr6
      clear hr6
      obtain ⟨hq7, hr8⟩ := Prod.mk.inj hr7
      clear hr7
      obtain ⟨hq8, hr9⟩ := Prod.mk.inj hr8
      clear hr8
      subst hq0
      subst hq1
      subst hq2
      subst hq3
      subst hq4
      subst hq5
      subst hq6
      subst hq7
      subst hq8
      subst hr9
      have hP9 := hP.sub (ws' := [(h0, .inr (9, [.ref qf0, .ref qf1, .ref qf2, .int u3_4, .ref qf4, .ref qf5, .ref qf6, .ref qf7, .ref qf8, .int v9, .int v10, .int v11, .int v12])), (qa1, .inl (ca1, na1, .inl fa1)), (qf0, .inl (cf0, 3001, .inl g903_1)), (qf1, .inl (cf1, 3001, .inl g903_2)), (qf2, .inl (cf2, 3001, .inl g903_3)), (qf7, .inl (cf7, 64, .inl f7)), (qf5, .inl (cf5, 1741, .inl f5)), (qf4, .inl (cf4, 6400, .inl f4)), (qf6, .inl (cf6, 1740, .inl f6))]) [4, 5, 6, 7, 8, 0, 1, 2, 3] rfl
      have hD9 := hD.sub (ws' := [(h0, .inr (9, [.ref qf0, .ref qf1, .ref qf2, .int u3_4, .ref qf4, .ref qf5, .ref qf6, .ref qf7, .ref qf8, .int v9, .int v10, .int v11, .int v12])), (qa1, .inl (ca1, na1, .inl fa1)), (qf0, .inl (cf0, 3001, .inl g903_1)), (qf1, .inl (cf1, 3001, .inl g903_2)), (qf2, .inl (cf2, 3001, .inl g903_3)), (qf7, .inl (cf7, 64, .inl f7)), (qf5, .inl (cf5, 1741, .inl f5)), (qf4, .inl (cf4, 6400, .inl f4)), (qf6, .inl (cf6, 1740, .inl f6))]) [4, 5, 6, 7, 8, 0, 1, 2, 3] (by decide) rfl
      have hK9 := hK.sub (tys' := [(ca1, .byte), (cf0, .int), (cf1, .int), (cf2, .int), (cf7, .int), (cf5, .int), (cf4, .byte), (cf6, .int)]) [4, 5, 6, 7, 0, 1, 2, 3] rfl
      exact W.iret hx hb hr (fun t ht hW => ⟨⟨(u3_0), (), rfl, rfl, by rw [ht]; exact hP9, va_K.moved hW.alike hK9, hD9⟩, hS.F ht⟩) hS.2.2 dX9_scanToken_36
  · rw [if_neg (by decide)] at hsp
    refine lv_if_eq (tgt := 21) hx hb dX9_scanToken_10 (by decide) (fun c_10 => (show False by revert c_10; decide).elim) (fun c_10 => ?_)
    refine lv_aload_n hx hb dX9_scanToken_13 rfl (lv_at hl 1 rfl) ?_
    refine lv_aload_n hx hb dX9_scanToken_14 rfl (lv_at hl 2 rfl) ?_
    refine lv_iload_n hx hb dX9_scanToken_15 rfl (lv_at hl 3 rfl) ?_
    refine lv_iload_n hx hb dX9_scanToken_16 rfl (lv_at hl 4 rfl) ?_
    obtain ⟨⟨u4_0, g904_1, g904_2, g904_3, g904_4, g904_5, g904_6, g904_7, u4_8, u4_9⟩, hu_4, hsp⟩ := ox_bind hsp
    try dsimp only at hsp
    have hPc := hP.sub (ws' := [(h0, .inr (9, [.ref qf0, .ref qf1, .ref qf2, .int v3, .ref qf4, .ref qf5, .ref qf6, .ref qf7, .ref qf8, .int v9, .int v10, .int v11, .int v12])), (qa1, .inl (ca1, na1, .inl fa1)), (qf7, .inl (cf7, 64, .inl f7)), (qf5, .inl (cf5, 1741, .inl f5)), (qf4, .inl (cf4, 6400, .inl f4)), (qf6, .inl (cf6, 1740, .inl f6)), (qf0, .inl (cf0, 3001, .inl f0)), (qf1, .inl (cf1, 3001, .inl f1)), (qf2, .inl (cf2, 3001, .inl f2))]) [0, 1, 5, 6, 7, 8, 2, 3, 4] rfl
    have hDc := hD.sub (ws' := [(h0, .inr (9, [.ref qf0, .ref qf1, .ref qf2, .int v3, .ref qf4, .ref qf5, .ref qf6, .ref qf7, .ref qf8, .int v9, .int v10, .int v11, .int v12])), (qa1, .inl (ca1, na1, .inl fa1)), (qf7, .inl (cf7, 64, .inl f7)), (qf5, .inl (cf5, 1741, .inl f5)), (qf4, .inl (cf4, 6400, .inl f4)), (qf6, .inl (cf6, 1740, .inl f6)), (qf0, .inl (cf0, 3001, .inl f0)), (qf1, .inl (cf1, 3001, .inl f1)), (qf2, .inl (cf2, 3001, .inl f2))]) [0, 1, 5, 6, 7, 8, 2, 3, 4] (by decide) rfl
    have hKc := hK.sub (tys' := [(ca1, .byte), (cf7, .int), (cf5, .int), (cf4, .byte), (cf6, .int), (cf0, .int), (cf1, .int), (cf2, .int)]) [0, 4, 5, 6, 7, 1, 2, 3] rfl
    have hFc := va_free (wc := [(h0, .inr (9, [.ref qf0, .ref qf1, .ref qf2, .int v3, .ref qf4, .ref qf5, .ref qf6, .ref qf7, .ref qf8, .int v9, .int v10, .int v11, .int v12])), (qa1, .inl (ca1, na1, .inl fa1)), (qf7, .inl (cf7, 64, .inl f7)), (qf5, .inl (cf5, 1741, .inl f5)), (qf4, .inl (cf4, 6400, .inl f4)), (qf6, .inl (cf6, 1740, .inl f6)), (qf0, .inl (cf0, 3001, .inl f0)), (qf1, .inl (cf1, 3001, .inl f1)), (qf2, .inl (cf2, 3001, .inl f2))]) hD hS hA [0, 1, 5, 6, 7, 8, 2, 3, 4] rfl
    refine va_calli (va_runV (As := [.ref qa1, .int a2, .int a3]) (rest := []) ⟨hx, hb, hml, hown, hts⟩ (v9_scanWord l dC dI H.size h0 qa1 a2 a3 qf0 qf1 qf2 v3 qf4 qf5 qf6 qf7 qf8 v9 v10 v11 v12 ca1 na1 fa1 cf7 f7 cf5 f5 cf4 f4 cf6 f6 cf0 f0 cf1 f1 cf2 f2 nf u4_0 g904_1 g904_2 g904_3 g904_4 g904_5 g904_6 g904_7 u4_8 u4_9 hu_4) (cwV 3 hts gv_h7_137 rfl rfl rfl (by decide +kernel) ⟨Nat.le_of_ble_eq_true rfl, Nat.le_of_ble_eq_true rfl⟩) ⟨fun a U g mk q => by obtain ⟨q0, q1, qP, qK, qD⟩ := q; exact ⟨q0, q1, qP, va_K.moved (u := U) (U := U.calling g mk a) (Vm.Alike.refl U.vm) qK, qD⟩, va_recv hKc hPc (ci := 9) (q0 := 0) rfl rfl, fun U hU hW => ⟨rfl, by rw [hU], by rw [hU]; exact hPc, va_K.moved hW.alike hKc, hDc.weaken (fun _ _ _ _ => trivial)⟩⟩ rfl rfl hl.1 rfl (lv_room (Nat.le_of_ble_eq_true rfl)) dX9_scanToken_17 ⟨Nat.le_of_ble_eq_true rfl, Nat.le_of_ble_eq_true rfl⟩) hS (fun q _ h => hFc q h) hFc ?_
    clear hS
    intro r_11 u t H1 locs ht hvm hw hB hz1 hk1 hS
    obtain ⟨⟩ := u
    obtain ⟨hP1, hK1, hD1⟩ := hB
    rw [ht] at hP1
    have hK1 := va_K.moved hvm.symm hK1
    try dsimp only at hw
    have hPD := va_join (wr := []) (w1 := [(h0, .inr (9, [.ref qf0, .ref qf1, .ref qf2, .int u4_8, .ref qf4, .ref qf5, .ref qf6, .ref qf7, .ref qf8, .int u4_9, .int v10, .int v11, .int v12])), (qa1, .inl (ca1, na1, .inl fa1)), (qf7, .inl (cf7, 64, .inl g904_7)), (qf5, .inl (cf5, 1741, .inl g904_5)), (qf4, .inl (cf4, 6400, .inl g904_4)), (qf6, .inl (cf6, 1740, .inl g904_6)), (qf0, .inl (cf0, 3001, .inl g904_1)), (qf1, .inl (cf1, 3001, .inl g904_2)), (qf2, .inl (cf2, 3001, .inl g904_3))]) hP hD [0, 1, 5, 6, 7, 8, 2, 3, 4] [] rfl rfl (by decide) (by decide) hk1 hFc hP1 hD1
    clear hP hD
    obtain ⟨hP, hD⟩ := hPD
    replace hK := (hK.sub (tys' := []) [] rfl).app hK1
    clear hPc hDc hKc hFc hP1 hK1 hD1 hz1 hk1 ht hvm
    generalize H1 = H at hP hS ⊢
    replace hP : va_P (dC, dI) vwCl [(h0, .inr (9, [.ref qf0, .ref qf1, .ref qf2, .int u4_8, .ref qf4, .ref qf5, .ref qf6, .ref qf7, .ref qf8, .int u4_9, .int v10, .int v11, .int v12])), (qa1, .inl (ca1, na1, .inl fa1)), (qf7, .inl (cf7, 64, .inl g904_7)), (qf5, .inl (cf5, 1741, .inl g904_5)), (qf4, .inl (cf4, 6400, .inl g904_4)), (qf6, .inl (cf6, 1740, .inl g904_6)), (qf0, .inl (cf0, 3001, .inl g904_1)), (qf1, .inl (cf1, 3001, .inl g904_2)), (qf2, .inl (cf2, 3001, .inl g904_3))] H := hP
    replace hD : va_D A [(h0, .inr (9, [.ref qf0, .ref qf1, .ref qf2, .int u4_8, .ref qf4, .ref qf5, .ref qf6, .ref qf7, .ref qf8, .int u4_9, .int v10, .int v11, .int v12])), (qa1, .inl (ca1, na1, .inl fa1)), (qf7, .inl (cf7, 64, .inl g904_7)), (qf5, .inl (cf5, 1741, .inl g904_5)), (qf4, .inl (cf4, 6400, .inl g904_4)), (qf6, .inl (cf6, 1740, .inl g904_6)), (qf0, .inl (cf0, 3001, .inl g904_1)), (qf1, .inl (cf1, 3001, .inl g904_2)), (qf2, .inl (cf2, 3001, .inl g904_3))] := hD
    replace hK : va_K (dC, dI) vwCl [(ca1, .byte), (cf7, .int), (cf5, .int), (cf4, .byte), (cf6, .int), (cf0, .int), (cf1, .int), (cf2, .int)] s := hK
    obtain rfl := hw
    have hr0 := Option.some.inj hsp
    clear hsp
    obtain ⟨hq0, hr1⟩ := Prod.mk.inj hr0
    clear hr0
    obtain ⟨hq1, hr2⟩ := Prod.mk.inj hr1
    clear hr1
    obtain ⟨hq2, hr3⟩ := Prod.mk.inj hr2
    clear hr2
    obtain ⟨hq3, hr4⟩ := Prod.mk.inj hr3
    clear hr3
    obtain ⟨hq4, hr5⟩ := Prod.mk.inj hr4
    clear hr4
    obtain ⟨hq5, hr6⟩ := Prod.mk.inj hr5
    clear hr5
    obtain ⟨hq6, hr7⟩ := Prod.mk.inj hr6
    clear hr6
    obtain ⟨hq7, hr8⟩ := Prod.mk.inj hr7
    clear hr7
    obtain ⟨hq8, hr9⟩ := Prod.mk.inj hr8
    clear hr8
    subst hq0
    subst hq1
    subst hq2
    subst hq3
    subst hq4
    subst hq5
    subst hq6
    subst hq7
    subst hq8
    subst hr9
    have hP9 := hP.sub (ws' := [(h0, .inr (9, [.ref qf0, .ref qf1, .ref qf2, .int u4_8, .ref qf4, .ref qf5, .ref qf6, .ref qf7, .ref qf8, .int u4_9, .int v10, .int v11, .int v12])), (qa1, .inl (ca1, na1, .inl fa1)), (qf0, .inl (cf0, 3001, .inl g904_1)), (qf1, .inl (cf1, 3001, .inl g904_2)), (qf2, .inl (cf2, 3001, .inl g904_3)), (qf7, .inl (cf7, 64, .inl g904_7)), (qf5, .inl (cf5, 1741, .inl g904_5)), (qf4, .inl (cf4, 6400, .inl g904_4)), (qf6, .inl (cf6, 1740, .inl g904_6))]) [0, 1, 6, 7, 8, 2, 3, 4, 5] rfl
    have hD9 := hD.sub (ws' := [(h0, .inr (9, [.ref qf0, .ref qf1, .ref qf2, .int u4_8, .ref qf4, .ref qf5, .ref qf6, .ref qf7, .ref qf8, .int u4_9, .int v10, .int v11, .int v12])), (qa1, .inl (ca1, na1, .inl fa1)), (qf0, .inl (cf0, 3001, .inl g904_1)), (qf1, .inl (cf1, 3001, .inl g904_2)), (qf2, .inl (cf2, 3001, .inl g904_3)), (qf7, .inl (cf7, 64, .inl g904_7)), (qf5, .inl (cf5, 1741, .inl g904_5)), (qf4, .inl (cf4, 6400, .inl g904_4)), (qf6, .inl (cf6, 1740, .inl g904_6))]) [0, 1, 6, 7, 8, 2, 3, 4, 5] (by decide) rfl
    have hK9 := hK.sub (tys' := [(ca1, .byte), (cf0, .int), (cf1, .int), (cf2, .int), (cf7, .int), (cf5, .int), (cf4, .byte), (cf6, .int)]) [0, 5, 6, 7, 1, 2, 3, 4] rfl
    exact W.iret hx hb hr (fun t ht hW => ⟨⟨(u4_0), (), rfl, rfl, by rw [ht]; exact hP9, va_K.moved hW.alike hK9, hD9⟩, hS.F ht⟩) hS.2.2 dX9_scanToken_20
def jn_v10_closeSign_293 (nf : Nat) (v10 : Int32) (v11 : Int32) (v12 : Int32) (v15 : Int32) (f5 : Nat → Int32) (f8 : Nat → Int32) (f9 : Nat → Int32) (v0_3 : Int32) (v0_11 : Int32) (v0_12 : Int32) (f0_1 : Nat → Int32) (v3_1 : Int32) (v3_3 : Int32) (v3_4 : Int32) (v3_7 : Int32) (v3_14 : Int32) (v3_15 : Int32) (f3_0 : Nat → Int32) (f3_13 : Nat → Int32) (f3_11 : Nat → Int32) (f3_12 : Nat → Int32) (f3_6 : Nat → Int32) (f3_2 : Nat → Int32) (f2_1 : Nat → Int32) (f6 : Nat → Int32) (f7 : Nat → Int32)  (g3_0_293 : Nat → Int32) (g3_11_293 : Nat → Int32) (g3_12_293 : Nat → Int32) (g3_13_293 : Nat → Int32) (g3_2_293 : Nat → Int32) (x0_11_293 : Int32) (x0_12_293 : Int32) (x10_293 : Int32) (x11_293 : Int32) (x12_293 : Int32) (x15_293 : Int32) (x3_1_293 : Int32) (x3_14_293 : Int32) (x3_15_293 : Int32) (x3_3_293 : Int32) (x3_4_293 : Int32) : Option ((Nat → Int32) × (Nat → Int32) × (Nat → Int32) × (Nat → Int32) × (Nat → Int32) × Int32 × Int32 × Int32 × Int32 × Int32 × Int32 × Int32 × Int32 × Int32 × Int32 × Int32) := (if x10_293 < 0 then none else if 420 ≤ (x10_293 : Int32).toNatClampNeg then none else (some (g3_0_293, g3_11_293, g3_12_293, g3_13_293, g3_2_293, x0_11_293, x0_12_293, x10_293, 0, x12_293, (f7 (x10_293 : Int32).toNatClampNeg), x3_1_293, x3_14_293, x3_15_293, x3_3_293, x3_4_293)))
def jn_v10_closeSign_42 (nf : Nat) (v10 : Int32) (v11 : Int32) (v12 : Int32) (v15 : Int32) (f5 : Nat → Int32) (f8 : Nat → Int32) (f9 : Nat → Int32) (v0_3 : Int32) (v0_11 : Int32) (v0_12 : Int32) (f0_1 : Nat → Int32) (v3_1 : Int32) (v3_3 : Int32) (v3_4 : Int32) (v3_7 : Int32) (v3_14 : Int32) (v3_15 : Int32) (f3_0 : Nat → Int32) (f3_13 : Nat → Int32) (f3_11 : Nat → Int32) (f3_12 : Nat → Int32) (f3_6 : Nat → Int32) (f3_2 : Nat → Int32) (f2_1 : Nat → Int32) (f6 : Nat → Int32) (f7 : Nat → Int32)  (l1_42 : Int32) (g3_0_42 : Nat → Int32) (g3_11_42 : Nat → Int32) (g3_12_42 : Nat → Int32) (g3_13_42 : Nat → Int32) (g3_2_42 : Nat → Int32) (x0_11_42 : Int32) (x0_12_42 : Int32) (x10_42 : Int32) (x11_42 : Int32) (x12_42 : Int32) (x15_42 : Int32) (x3_1_42 : Int32) (x3_14_42 : Int32) (x3_15_42 : Int32) (x3_3_42 : Int32) (x3_4_42 : Int32) : Option ((Nat → Int32) × (Nat → Int32) × (Nat → Int32) × (Nat → Int32) × (Nat → Int32) × Int32 × Int32 × Int32 × Int32 × Int32 × Int32 × Int32 × Int32 × Int32 × Int32 × Int32) := (if x10_42 < 0 then none else if 420 ≤ (x10_42 : Int32).toNatClampNeg then none else ((sp_v10_closeShort nf l1_42 (f9 (x10_42 : Int32).toNatClampNeg) x12_42 x15_42 v0_3 x0_11_42 x0_12_42 f0_1 x3_1_42 x3_3_42 x3_4_42 v3_7 x3_14_42 x3_15_42 g3_0_42 g3_13_42 g3_11_42 g3_12_42 f3_6 g3_2_42).bind (fun p1 => (jn_v10_closeSign_293 nf v10 v11 v12 v15 f5 f8 f9 v0_3 v0_11 v0_12 f0_1 v3_1 v3_3 v3_4 v3_7 v3_14 v3_15 f3_0 f3_13 f3_11 f3_12 f3_6 f3_2 f2_1 f6 f7  p1.1 p1.2.1 p1.2.2.1 p1.2.2.2.1 p1.2.2.2.2.1 p1.2.2.2.2.2.1 p1.2.2.2.2.2.2.1 x10_42 x11_42 p1.2.2.2.2.2.2.2.1 x15_42 p1.2.2.2.2.2.2.2.2.1 p1.2.2.2.2.2.2.2.2.2.1 p1.2.2.2.2.2.2.2.2.2.2.1 p1.2.2.2.2.2.2.2.2.2.2.2.1 p1.2.2.2.2.2.2.2.2.2.2.2.2))))
def jn_v10_closeSign_71 (nf : Nat) (v10 : Int32) (v11 : Int32) (v12 : Int32) (v15 : Int32) (f5 : Nat → Int32) (f8 : Nat → Int32) (f9 : Nat → Int32) (v0_3 : Int32) (v0_11 : Int32) (v0_12 : Int32) (f0_1 : Nat → Int32) (v3_1 : Int32) (v3_3 : Int32) (v3_4 : Int32) (v3_7 : Int32) (v3_14 : Int32) (v3_15 : Int32) (f3_0 : Nat → Int32) (f3_13 : Nat → Int32) (f3_11 : Nat → Int32) (f3_12 : Nat → Int32) (f3_6 : Nat → Int32) (f3_2 : Nat → Int32) (f2_1 : Nat → Int32) (f6 : Nat → Int32) (f7 : Nat → Int32)  (l1_71 : Int32) (l2_71 : Int32) (g3_0_71 : Nat → Int32) (g3_11_71 : Nat → Int32) (g3_12_71 : Nat → Int32) (g3_13_71 : Nat → Int32) (g3_2_71 : Nat → Int32) (x0_11_71 : Int32) (x0_12_71 : Int32) (x10_71 : Int32) (x11_71 : Int32) (x12_71 : Int32) (x15_71 : Int32) (x3_1_71 : Int32) (x3_14_71 : Int32) (x3_15_71 : Int32) (x3_3_71 : Int32) (x3_4_71 : Int32) : Option ((Nat → Int32) × (Nat → Int32) × (Nat → Int32) × (Nat → Int32) × (Nat → Int32) × Int32 × Int32 × Int32 × Int32 × Int32 × Int32 × Int32 × Int32 × Int32 × Int32 × Int32) := ((sp_t10_isPair nf l2_71 x12_71 f2_1).bind (fun p1 => (if p1 = 0 then (if x10_71 < 0 then none else if 420 ≤ (x10_71 : Int32).toNatClampNeg then none else ((sp_t10_wantType nf 0 (f6 (x10_71 : Int32).toNatClampNeg) v0_3 x0_11_71 x0_12_71 f0_1).bind (fun p2 => ((sp_t4_isNumber nf x12_71).bind (fun p3 => (if p3 = 0 then ((sp_t10_compareOp nf l1_71 0).bind (fun p4 => ((sp_v1_truth nf p4 2 x3_1_71 x3_3_71 x3_4_71 v3_7 x3_14_71 x3_15_71 g3_0_71 g3_2_71 g3_13_71 g3_11_71 g3_12_71 f3_6).bind (fun p5 => (jn_v10_closeSign_293 nf v10 v11 v12 v15 f5 f8 f9 v0_3 v0_11 v0_12 f0_1 v3_1 v3_3 v3_4 v3_7 v3_14 v3_15 f3_0 f3_13 f3_11 f3_12 f3_6 f3_2 f2_1 f6 f7  p5.1 p5.2.1 p5.2.2.1 p5.2.2.2.1 p5.2.2.2.2.1 p2.1 p2.2 x10_71 x11_71 302 x15_71 p5.2.2.2.2.2.1 p5.2.2.2.2.2.2.1 p5.2.2.2.2.2.2.2.1 p5.2.2.2.2.2.2.2.2.1 p5.2.2.2.2.2.2.2.2.2))))) else ((sp_t10_compareOp nf l1_71 1).bind (fun p6 => ((sp_v1_truth nf p6 2 x3_1_71 x3_3_71 x3_4_71 v3_7 x3_14_71 x3_15_71 g3_0_71 g3_2_71 g3_13_71 g3_11_71 g3_12_71 f3_6).bind (fun p7 => (jn_v10_closeSign_293 nf v10 v11 v12 v15 f5 f8 f9 v0_3 v0_11 v0_12 f0_1 v3_1 v3_3 v3_4 v3_7 v3_14 v3_15 f3_0 f3_13 f3_11 f3_12 f3_6 f3_2 f2_1 f6 f7  p7.1 p7.2.1 p7.2.2.1 p7.2.2.2.1 p7.2.2.2.2.1 p2.1 p2.2 x10_71 x11_71 302 x15_71 p7.2.2.2.2.2.1 p7.2.2.2.2.2.2.1 p7.2.2.2.2.2.2.2.1 p7.2.2.2.2.2.2.2.2.1 p7.2.2.2.2.2.2.2.2.2))))))))))) else (if x10_71 < 0 then none else if 420 ≤ (x10_71 : Int32).toNatClampNeg then none else ((sp_t10_wantType nf 1 (f6 (x10_71 : Int32).toNatClampNeg) v0_3 x0_11_71 x0_12_71 f0_1).bind (fun p8 => ((sp_t4_isNumber nf x12_71).bind (fun p9 => (if p9 = 0 then ((sp_t10_compareOp nf l1_71 0).bind (fun p10 => ((sp_v1_truth nf p10 2 x3_1_71 x3_3_71 x3_4_71 v3_7 x3_14_71 x3_15_71 g3_0_71 g3_2_71 g3_13_71 g3_11_71 g3_12_71 f3_6).bind (fun p11 => (jn_v10_closeSign_293 nf v10 v11 v12 v15 f5 f8 f9 v0_3 v0_11 v0_12 f0_1 v3_1 v3_3 v3_4 v3_7 v3_14 v3_15 f3_0 f3_13 f3_11 f3_12 f3_6 f3_2 f2_1 f6 f7  p11.1 p11.2.1 p11.2.2.1 p11.2.2.2.1 p11.2.2.2.2.1 p8.1 p8.2 x10_71 x11_71 302 x15_71 p11.2.2.2.2.2.1 p11.2.2.2.2.2.2.1 p11.2.2.2.2.2.2.2.1 p11.2.2.2.2.2.2.2.2.1 p11.2.2.2.2.2.2.2.2.2))))) else ((sp_t10_compareOp nf l1_71 1).bind (fun p12 => ((sp_v1_truth nf p12 2 x3_1_71 x3_3_71 x3_4_71 v3_7 x3_14_71 x3_15_71 g3_0_71 g3_2_71 g3_13_71 g3_11_71 g3_12_71 f3_6).bind (fun p13 => (jn_v10_closeSign_293 nf v10 v11 v12 v15 f5 f8 f9 v0_3 v0_11 v0_12 f0_1 v3_1 v3_3 v3_4 v3_7 v3_14 v3_15 f3_0 f3_13 f3_11 f3_12 f3_6 f3_2 f2_1 f6 f7  p13.1 p13.2.1 p13.2.2.1 p13.2.2.2.1 p13.2.2.2.2.1 p8.1 p8.2 x10_71 x11_71 302 x15_71 p13.2.2.2.2.2.1 p13.2.2.2.2.2.2.1 p13.2.2.2.2.2.2.2.1 p13.2.2.2.2.2.2.2.2.1 p13.2.2.2.2.2.2.2.2.2))))))))))))))
def jn_v10_closeSign_154 (nf : Nat) (v10 : Int32) (v11 : Int32) (v12 : Int32) (v15 : Int32) (f5 : Nat → Int32) (f8 : Nat → Int32) (f9 : Nat → Int32) (v0_3 : Int32) (v0_11 : Int32) (v0_12 : Int32) (f0_1 : Nat → Int32) (v3_1 : Int32) (v3_3 : Int32) (v3_4 : Int32) (v3_7 : Int32) (v3_14 : Int32) (v3_15 : Int32) (f3_0 : Nat → Int32) (f3_13 : Nat → Int32) (f3_11 : Nat → Int32) (f3_12 : Nat → Int32) (f3_6 : Nat → Int32) (f3_2 : Nat → Int32) (f2_1 : Nat → Int32) (f6 : Nat → Int32) (f7 : Nat → Int32)  (l1_154 : Int32) (s0_154 : Int32) (g3_0_154 : Nat → Int32) (g3_11_154 : Nat → Int32) (g3_12_154 : Nat → Int32) (g3_13_154 : Nat → Int32) (g3_2_154 : Nat → Int32) (x0_11_154 : Int32) (x0_12_154 : Int32) (x10_154 : Int32) (x11_154 : Int32) (x12_154 : Int32) (x15_154 : Int32) (x3_1_154 : Int32) (x3_14_154 : Int32) (x3_15_154 : Int32) (x3_3_154 : Int32) (x3_4_154 : Int32) : Option ((Nat → Int32) × (Nat → Int32) × (Nat → Int32) × (Nat → Int32) × (Nat → Int32) × Int32 × Int32 × Int32 × Int32 × Int32 × Int32 × Int32 × Int32 × Int32 × Int32 × Int32) := (if x10_154 < 0 then none else if 420 ≤ (x10_154 : Int32).toNatClampNeg then none else ((sp_t10_wantType nf s0_154 (f6 (x10_154 : Int32).toNatClampNeg) v0_3 x0_11_154 x0_12_154 f0_1).bind (fun p1 => ((sp_t10_compareOp nf l1_154 1).bind (fun p2 => ((sp_v1_truth nf p2 2 x3_1_154 x3_3_154 x3_4_154 v3_7 x3_14_154 x3_15_154 g3_0_154 g3_2_154 g3_13_154 g3_11_154 g3_12_154 f3_6).bind (fun p3 => (jn_v10_closeSign_293 nf v10 v11 v12 v15 f5 f8 f9 v0_3 v0_11 v0_12 f0_1 v3_1 v3_3 v3_4 v3_7 v3_14 v3_15 f3_0 f3_13 f3_11 f3_12 f3_6 f3_2 f2_1 f6 f7  p3.1 p3.2.1 p3.2.2.1 p3.2.2.2.1 p3.2.2.2.2.1 p1.1 p1.2 x10_154 x11_154 302 x15_154 p3.2.2.2.2.2.1 p3.2.2.2.2.2.2.1 p3.2.2.2.2.2.2.2.1 p3.2.2.2.2.2.2.2.2.1 p3.2.2.2.2.2.2.2.2.2))))))))
def jn_v10_closeSign_153 (nf : Nat) (v10 : Int32) (v11 : Int32) (v12 : Int32) (v15 : Int32) (f5 : Nat → Int32) (f8 : Nat → Int32) (f9 : Nat → Int32) (v0_3 : Int32) (v0_11 : Int32) (v0_12 : Int32) (f0_1 : Nat → Int32) (v3_1 : Int32) (v3_3 : Int32) (v3_4 : Int32) (v3_7 : Int32) (v3_14 : Int32) (v3_15 : Int32) (f3_0 : Nat → Int32) (f3_13 : Nat → Int32) (f3_11 : Nat → Int32) (f3_12 : Nat → Int32) (f3_6 : Nat → Int32) (f3_2 : Nat → Int32) (f2_1 : Nat → Int32) (f6 : Nat → Int32) (f7 : Nat → Int32)  (l1_153 : Int32) (g3_0_153 : Nat → Int32) (g3_11_153 : Nat → Int32) (g3_12_153 : Nat → Int32) (g3_13_153 : Nat → Int32) (g3_2_153 : Nat → Int32) (x0_11_153 : Int32) (x0_12_153 : Int32) (x10_153 : Int32) (x11_153 : Int32) (x12_153 : Int32) (x15_153 : Int32) (x3_1_153 : Int32) (x3_14_153 : Int32) (x3_15_153 : Int32) (x3_3_153 : Int32) (x3_4_153 : Int32) : Option ((Nat → Int32) × (Nat → Int32) × (Nat → Int32) × (Nat → Int32) × (Nat → Int32) × Int32 × Int32 × Int32 × Int32 × Int32 × Int32 × Int32 × Int32 × Int32 × Int32 × Int32) := (jn_v10_closeSign_154 nf v10 v11 v12 v15 f5 f8 f9 v0_3 v0_11 v0_12 f0_1 v3_1 v3_3 v3_4 v3_7 v3_14 v3_15 f3_0 f3_13 f3_11 f3_12 f3_6 f3_2 f2_1 f6 f7  l1_153 0 g3_0_153 g3_11_153 g3_12_153 g3_13_153 g3_2_153 x0_11_153 x0_12_153 x10_153 x11_153 x12_153 x15_153 x3_1_153 x3_14_153 x3_15_153 x3_3_153 x3_4_153)
def jn_v10_closeSign_251 (nf : Nat) (v10 : Int32) (v11 : Int32) (v12 : Int32) (v15 : Int32) (f5 : Nat → Int32) (f8 : Nat → Int32) (f9 : Nat → Int32) (v0_3 : Int32) (v0_11 : Int32) (v0_12 : Int32) (f0_1 : Nat → Int32) (v3_1 : Int32) (v3_3 : Int32) (v3_4 : Int32) (v3_7 : Int32) (v3_14 : Int32) (v3_15 : Int32) (f3_0 : Nat → Int32) (f3_13 : Nat → Int32) (f3_11 : Nat → Int32) (f3_12 : Nat → Int32) (f3_6 : Nat → Int32) (f3_2 : Nat → Int32) (f2_1 : Nat → Int32) (f6 : Nat → Int32) (f7 : Nat → Int32)  (l1_251 : Int32) (s0_251 : Int32) (g3_0_251 : Nat → Int32) (g3_11_251 : Nat → Int32) (g3_12_251 : Nat → Int32) (g3_13_251 : Nat → Int32) (g3_2_251 : Nat → Int32) (x0_11_251 : Int32) (x0_12_251 : Int32) (x10_251 : Int32) (x11_251 : Int32) (x12_251 : Int32) (x15_251 : Int32) (x3_1_251 : Int32) (x3_14_251 : Int32) (x3_15_251 : Int32) (x3_3_251 : Int32) (x3_4_251 : Int32) : Option ((Nat → Int32) × (Nat → Int32) × (Nat → Int32) × (Nat → Int32) × (Nat → Int32) × Int32 × Int32 × Int32 × Int32 × Int32 × Int32 × Int32 × Int32 × Int32 × Int32 × Int32) := (if x10_251 < 0 then none else if 420 ≤ (x10_251 : Int32).toNatClampNeg then none else ((sp_t10_wantType nf s0_251 (f6 (x10_251 : Int32).toNatClampNeg) v0_3 x0_11_251 x0_12_251 f0_1).bind (fun p1 => ((sp_t10_arithmeticOp nf l1_251).bind (fun p2 => ((sp_t1_op nf p2 x3_1_251 g3_0_251).bind (fun p3 => ((sp_t1_pop nf 2 x3_3_251).bind (fun p4 => ((sp_t1_push nf x12_251 p4 x3_4_251 g3_2_251).bind (fun p5 => (jn_v10_closeSign_293 nf v10 v11 v12 v15 f5 f8 f9 v0_3 v0_11 v0_12 f0_1 v3_1 v3_3 v3_4 v3_7 v3_14 v3_15 f3_0 f3_13 f3_11 f3_12 f3_6 f3_2 f2_1 f6 f7  p3.1 g3_11_251 g3_12_251 g3_13_251 p5.1 p1.1 p1.2 x10_251 x11_251 x12_251 x15_251 p3.2 x3_14_251 x3_15_251 p5.2.1 p5.2.2))))))))))))
def jn_v10_closeSign_246 (nf : Nat) (v10 : Int32) (v11 : Int32) (v12 : Int32) (v15 : Int32) (f5 : Nat → Int32) (f8 : Nat → Int32) (f9 : Nat → Int32) (v0_3 : Int32) (v0_11 : Int32) (v0_12 : Int32) (f0_1 : Nat → Int32) (v3_1 : Int32) (v3_3 : Int32) (v3_4 : Int32) (v3_7 : Int32) (v3_14 : Int32) (v3_15 : Int32) (f3_0 : Nat → Int32) (f3_13 : Nat → Int32) (f3_11 : Nat → Int32) (f3_12 : Nat → Int32) (f3_6 : Nat → Int32) (f3_2 : Nat → Int32) (f2_1 : Nat → Int32) (f6 : Nat → Int32) (f7 : Nat → Int32)  (l1_246 : Int32) (g3_0_246 : Nat → Int32) (g3_11_246 : Nat → Int32) (g3_12_246 : Nat → Int32) (g3_13_246 : Nat → Int32) (g3_2_246 : Nat → Int32) (x0_11_246 : Int32) (x0_12_246 : Int32) (x10_246 : Int32) (x11_246 : Int32) (x12_246 : Int32) (x15_246 : Int32) (x3_1_246 : Int32) (x3_14_246 : Int32) (x3_15_246 : Int32) (x3_3_246 : Int32) (x3_4_246 : Int32) : Option ((Nat → Int32) × (Nat → Int32) × (Nat → Int32) × (Nat → Int32) × (Nat → Int32) × Int32 × Int32 × Int32 × Int32 × Int32 × Int32 × Int32 × Int32 × Int32 × Int32 × Int32) := (jn_v10_closeSign_251 nf v10 v11 v12 v15 f5 f8 f9 v0_3 v0_11 v0_12 f0_1 v3_1 v3_3 v3_4 v3_7 v3_14 v3_15 f3_0 f3_13 f3_11 f3_12 f3_6 f3_2 f2_1 f6 f7  l1_246 1 g3_0_246 g3_11_246 g3_12_246 g3_13_246 g3_2_246 x0_11_246 x0_12_246 x10_246 x11_246 x12_246 x15_246 x3_1_246 x3_14_246 x3_15_246 x3_3_246 x3_4_246)
def jn_v10_closeSign_250 (nf : Nat) (v10 : Int32) (v11 : Int32) (v12 : Int32) (v15 : Int32) (f5 : Nat → Int32) (f8 : Nat → Int32) (f9 : Nat → Int32) (v0_3 : Int32) (v0_11 : Int32) (v0_12 : Int32) (f0_1 : Nat → Int32) (v3_1 : Int32) (v3_3 : Int32) (v3_4 : Int32) (v3_7 : Int32) (v3_14 : Int32) (v3_15 : Int32) (f3_0 : Nat → Int32) (f3_13 : Nat → Int32) (f3_11 : Nat → Int32) (f3_12 : Nat → Int32) (f3_6 : Nat → Int32) (f3_2 : Nat → Int32) (f2_1 : Nat → Int32) (f6 : Nat → Int32) (f7 : Nat → Int32)  (l1_250 : Int32) (g3_0_250 : Nat → Int32) (g3_11_250 : Nat → Int32) (g3_12_250 : Nat → Int32) (g3_13_250 : Nat → Int32) (g3_2_250 : Nat → Int32) (x0_11_250 : Int32) (x0_12_250 : Int32) (x10_250 : Int32) (x11_250 : Int32) (x12_250 : Int32) (x15_250 : Int32) (x3_1_250 : Int32) (x3_14_250 : Int32) (x3_15_250 : Int32) (x3_3_250 : Int32) (x3_4_250 : Int32) : Option ((Nat → Int32) × (Nat → Int32) × (Nat → Int32) × (Nat → Int32) × (Nat → Int32) × Int32 × Int32 × Int32 × Int32 × Int32 × Int32 × Int32 × Int32 × Int32 × Int32 × Int32) := (jn_v10_closeSign_251 nf v10 v11 v12 v15 f5 f8 f9 v0_3 v0_11 v0_12 f0_1 v3_1 v3_3 v3_4 v3_7 v3_14 v3_15 f3_0 f3_13 f3_11 f3_12 f3_6 f3_2 f2_1 f6 f7  l1_250 0 g3_0_250 g3_11_250 g3_12_250 g3_13_250 g3_2_250 x0_11_250 x0_12_250 x10_250 x11_250 x12_250 x15_250 x3_1_250 x3_14_250 x3_15_250 x3_3_250 x3_4_250)
def jn_v10_closeSign_212 (nf : Nat) (v10 : Int32) (v11 : Int32) (v12 : Int32) (v15 : Int32) (f5 : Nat → Int32) (f8 : Nat → Int32) (f9 : Nat → Int32) (v0_3 : Int32) (v0_11 : Int32) (v0_12 : Int32) (f0_1 : Nat → Int32) (v3_1 : Int32) (v3_3 : Int32) (v3_4 : Int32) (v3_7 : Int32) (v3_14 : Int32) (v3_15 : Int32) (f3_0 : Nat → Int32) (f3_13 : Nat → Int32) (f3_11 : Nat → Int32) (f3_12 : Nat → Int32) (f3_6 : Nat → Int32) (f3_2 : Nat → Int32) (f2_1 : Nat → Int32) (f6 : Nat → Int32) (f7 : Nat → Int32)  (l1_212 : Int32) (l2_212 : Int32) (s0_212 : Int32) (g3_0_212 : Nat → Int32) (g3_11_212 : Nat → Int32) (g3_12_212 : Nat → Int32) (g3_13_212 : Nat → Int32) (g3_2_212 : Nat → Int32) (x0_11_212 : Int32) (x0_12_212 : Int32) (x10_212 : Int32) (x11_212 : Int32) (x12_212 : Int32) (x15_212 : Int32) (x3_1_212 : Int32) (x3_14_212 : Int32) (x3_15_212 : Int32) (x3_3_212 : Int32) (x3_4_212 : Int32) : Option ((Nat → Int32) × (Nat → Int32) × (Nat → Int32) × (Nat → Int32) × (Nat → Int32) × Int32 × Int32 × Int32 × Int32 × Int32 × Int32 × Int32 × Int32 × Int32 × Int32 × Int32) := (if l2_212 = x12_212 then (if x12_212 = 301 then (jn_v10_closeSign_246 nf v10 v11 v12 v15 f5 f8 f9 v0_3 v0_11 v0_12 f0_1 v3_1 v3_3 v3_4 v3_7 v3_14 v3_15 f3_0 f3_13 f3_11 f3_12 f3_6 f3_2 f2_1 f6 f7  l1_212 g3_0_212 g3_11_212 g3_12_212 g3_13_212 g3_2_212 x0_11_212 x0_12_212 x10_212 x11_212 x12_212 x15_212 x3_1_212 x3_14_212 x3_15_212 x3_3_212 x3_4_212) else (if s0_212 = 0 then (jn_v10_closeSign_250 nf v10 v11 v12 v15 f5 f8 f9 v0_3 v0_11 v0_12 f0_1 v3_1 v3_3 v3_4 v3_7 v3_14 v3_15 f3_0 f3_13 f3_11 f3_12 f3_6 f3_2 f2_1 f6 f7  l1_212 g3_0_212 g3_11_212 g3_12_212 g3_13_212 g3_2_212 x0_11_212 x0_12_212 x10_212 x11_212 x12_212 x15_212 x3_1_212 x3_14_212 x3_15_212 x3_3_212 x3_4_212) else (if x12_212 = 302 then (jn_v10_closeSign_246 nf v10 v11 v12 v15 f5 f8 f9 v0_3 v0_11 v0_12 f0_1 v3_1 v3_3 v3_4 v3_7 v3_14 v3_15 f3_0 f3_13 f3_11 f3_12 f3_6 f3_2 f2_1 f6 f7  l1_212 g3_0_212 g3_11_212 g3_12_212 g3_13_212 g3_2_212 x0_11_212 x0_12_212 x10_212 x11_212 x12_212 x15_212 x3_1_212 x3_14_212 x3_15_212 x3_3_212 x3_4_212) else (jn_v10_closeSign_250 nf v10 v11 v12 v15 f5 f8 f9 v0_3 v0_11 v0_12 f0_1 v3_1 v3_3 v3_4 v3_7 v3_14 v3_15 f3_0 f3_13 f3_11 f3_12 f3_6 f3_2 f2_1 f6 f7  l1_212 g3_0_212 g3_11_212 g3_12_212 g3_13_212 g3_2_212 x0_11_212 x0_12_212 x10_212 x11_212 x12_212 x15_212 x3_1_212 x3_14_212 x3_15_212 x3_3_212 x3_4_212)))) else (jn_v10_closeSign_250 nf v10 v11 v12 v15 f5 f8 f9 v0_3 v0_11 v0_12 f0_1 v3_1 v3_3 v3_4 v3_7 v3_14 v3_15 f3_0 f3_13 f3_11 f3_12 f3_6 f3_2 f2_1 f6 f7  l1_212 g3_0_212 g3_11_212 g3_12_212 g3_13_212 g3_2_212 x0_11_212 x0_12_212 x10_212 x11_212 x12_212 x15_212 x3_1_212 x3_14_212 x3_15_212 x3_3_212 x3_4_212))
def jn_v10_closeSign_207 (nf : Nat) (v10 : Int32) (v11 : Int32) (v12 : Int32) (v15 : Int32) (f5 : Nat → Int32) (f8 : Nat → Int32) (f9 : Nat → Int32) (v0_3 : Int32) (v0_11 : Int32) (v0_12 : Int32) (f0_1 : Nat → Int32) (v3_1 : Int32) (v3_3 : Int32) (v3_4 : Int32) (v3_7 : Int32) (v3_14 : Int32) (v3_15 : Int32) (f3_0 : Nat → Int32) (f3_13 : Nat → Int32) (f3_11 : Nat → Int32) (f3_12 : Nat → Int32) (f3_6 : Nat → Int32) (f3_2 : Nat → Int32) (f2_1 : Nat → Int32) (f6 : Nat → Int32) (f7 : Nat → Int32)  (l1_207 : Int32) (l2_207 : Int32) (g3_0_207 : Nat → Int32) (g3_11_207 : Nat → Int32) (g3_12_207 : Nat → Int32) (g3_13_207 : Nat → Int32) (g3_2_207 : Nat → Int32) (x0_11_207 : Int32) (x0_12_207 : Int32) (x10_207 : Int32) (x11_207 : Int32) (x12_207 : Int32) (x15_207 : Int32) (x3_1_207 : Int32) (x3_14_207 : Int32) (x3_15_207 : Int32) (x3_3_207 : Int32) (x3_4_207 : Int32) : Option ((Nat → Int32) × (Nat → Int32) × (Nat → Int32) × (Nat → Int32) × (Nat → Int32) × Int32 × Int32 × Int32 × Int32 × Int32 × Int32 × Int32 × Int32 × Int32 × Int32 × Int32) := (jn_v10_closeSign_212 nf v10 v11 v12 v15 f5 f8 f9 v0_3 v0_11 v0_12 f0_1 v3_1 v3_3 v3_4 v3_7 v3_14 v3_15 f3_0 f3_13 f3_11 f3_12 f3_6 f3_2 f2_1 f6 f7  l1_207 l2_207 1 g3_0_207 g3_11_207 g3_12_207 g3_13_207 g3_2_207 x0_11_207 x0_12_207 x10_207 x11_207 x12_207 x15_207 x3_1_207 x3_14_207 x3_15_207 x3_3_207 x3_4_207)
def sp_v10_closeSign (nf : Nat) (v10 : Int32) (v11 : Int32) (v12 : Int32) (v15 : Int32) (f5 : Nat → Int32) (f8 : Nat → Int32) (f9 : Nat → Int32) (v0_3 : Int32) (v0_11 : Int32) (v0_12 : Int32) (f0_1 : Nat → Int32) (v3_1 : Int32) (v3_3 : Int32) (v3_4 : Int32) (v3_7 : Int32) (v3_14 : Int32) (v3_15 : Int32) (f3_0 : Nat → Int32) (f3_13 : Nat → Int32) (f3_11 : Nat → Int32) (f3_12 : Nat → Int32) (f3_6 : Nat → Int32) (f3_2 : Nat → Int32) (f2_1 : Nat → Int32) (f6 : Nat → Int32) (f7 : Nat → Int32) : Option ((Nat → Int32) × (Nat → Int32) × (Nat → Int32) × (Nat → Int32) × (Nat → Int32) × Int32 × Int32 × Int32 × Int32 × Int32 × Int32 × Int32 × Int32 × Int32 × Int32 × Int32) := (if (v10 - 1) < 0 then none else if 420 ≤ ((v10 - 1) : Int32).toNatClampNeg then none else (if (v10 - 1) < 0 then none else if 420 ≤ ((v10 - 1) : Int32).toNatClampNeg then none else (if (f5 ((v10 - 1) : Int32).toNatClampNeg) = 67 then (jn_v10_closeSign_42 nf v10 v11 v12 v15 f5 f8 f9 v0_3 v0_11 v0_12 f0_1 v3_1 v3_3 v3_4 v3_7 v3_14 v3_15 f3_0 f3_13 f3_11 f3_12 f3_6 f3_2 f2_1 f6 f7  (f5 ((v10 - 1) : Int32).toNatClampNeg) f3_0 f3_11 f3_12 f3_13 f3_2 v0_11 v0_12 (v10 - 1) v11 v12 v15 v3_1 v3_14 v3_15 v3_3 v3_4) else (if (f5 ((v10 - 1) : Int32).toNatClampNeg) = 69 then (jn_v10_closeSign_42 nf v10 v11 v12 v15 f5 f8 f9 v0_3 v0_11 v0_12 f0_1 v3_1 v3_3 v3_4 v3_7 v3_14 v3_15 f3_0 f3_13 f3_11 f3_12 f3_6 f3_2 f2_1 f6 f7  (f5 ((v10 - 1) : Int32).toNatClampNeg) f3_0 f3_11 f3_12 f3_13 f3_2 v0_11 v0_12 (v10 - 1) v11 v12 v15 v3_1 v3_14 v3_15 v3_3 v3_4) else (if (f5 ((v10 - 1) : Int32).toNatClampNeg) = 52 then (jn_v10_closeSign_71 nf v10 v11 v12 v15 f5 f8 f9 v0_3 v0_11 v0_12 f0_1 v3_1 v3_3 v3_4 v3_7 v3_14 v3_15 f3_0 f3_13 f3_11 f3_12 f3_6 f3_2 f2_1 f6 f7  (f5 ((v10 - 1) : Int32).toNatClampNeg) (f8 ((v10 - 1) : Int32).toNatClampNeg) f3_0 f3_11 f3_12 f3_13 f3_2 v0_11 v0_12 (v10 - 1) v11 v12 v15 v3_1 v3_14 v3_15 v3_3 v3_4) else (if (f5 ((v10 - 1) : Int32).toNatClampNeg) = 53 then (jn_v10_closeSign_71 nf v10 v11 v12 v15 f5 f8 f9 v0_3 v0_11 v0_12 f0_1 v3_1 v3_3 v3_4 v3_7 v3_14 v3_15 f3_0 f3_13 f3_11 f3_12 f3_6 f3_2 f2_1 f6 f7  (f5 ((v10 - 1) : Int32).toNatClampNeg) (f8 ((v10 - 1) : Int32).toNatClampNeg) f3_0 f3_11 f3_12 f3_13 f3_2 v0_11 v0_12 (v10 - 1) v11 v12 v15 v3_1 v3_14 v3_15 v3_3 v3_4) else ((sp_t9_level nf (f5 ((v10 - 1) : Int32).toNatClampNeg)).bind (fun p1 => (if p1 = 7 then (if (f8 ((v10 - 1) : Int32).toNatClampNeg) = 301 then (if v12 = 301 then (jn_v10_closeSign_154 nf v10 v11 v12 v15 f5 f8 f9 v0_3 v0_11 v0_12 f0_1 v3_1 v3_3 v3_4 v3_7 v3_14 v3_15 f3_0 f3_13 f3_11 f3_12 f3_6 f3_2 f2_1 f6 f7  (f5 ((v10 - 1) : Int32).toNatClampNeg) 1 f3_0 f3_11 f3_12 f3_13 f3_2 v0_11 v0_12 (v10 - 1) v11 v12 v15 v3_1 v3_14 v3_15 v3_3 v3_4) else (jn_v10_closeSign_153 nf v10 v11 v12 v15 f5 f8 f9 v0_3 v0_11 v0_12 f0_1 v3_1 v3_3 v3_4 v3_7 v3_14 v3_15 f3_0 f3_13 f3_11 f3_12 f3_6 f3_2 f2_1 f6 f7  (f5 ((v10 - 1) : Int32).toNatClampNeg) f3_0 f3_11 f3_12 f3_13 f3_2 v0_11 v0_12 (v10 - 1) v11 v12 v15 v3_1 v3_14 v3_15 v3_3 v3_4)) else (jn_v10_closeSign_153 nf v10 v11 v12 v15 f5 f8 f9 v0_3 v0_11 v0_12 f0_1 v3_1 v3_3 v3_4 v3_7 v3_14 v3_15 f3_0 f3_13 f3_11 f3_12 f3_6 f3_2 f2_1 f6 f7  (f5 ((v10 - 1) : Int32).toNatClampNeg) f3_0 f3_11 f3_12 f3_13 f3_2 v0_11 v0_12 (v10 - 1) v11 v12 v15 v3_1 v3_14 v3_15 v3_3 v3_4)) else (if (f5 ((v10 - 1) : Int32).toNatClampNeg) = 66 then (jn_v10_closeSign_207 nf v10 v11 v12 v15 f5 f8 f9 v0_3 v0_11 v0_12 f0_1 v3_1 v3_3 v3_4 v3_7 v3_14 v3_15 f3_0 f3_13 f3_11 f3_12 f3_6 f3_2 f2_1 f6 f7  (f5 ((v10 - 1) : Int32).toNatClampNeg) (f8 ((v10 - 1) : Int32).toNatClampNeg) f3_0 f3_11 f3_12 f3_13 f3_2 v0_11 v0_12 (v10 - 1) v11 v12 v15 v3_1 v3_14 v3_15 v3_3 v3_4) else (if (f5 ((v10 - 1) : Int32).toNatClampNeg) = 68 then (jn_v10_closeSign_207 nf v10 v11 v12 v15 f5 f8 f9 v0_3 v0_11 v0_12 f0_1 v3_1 v3_3 v3_4 v3_7 v3_14 v3_15 f3_0 f3_13 f3_11 f3_12 f3_6 f3_2 f2_1 f6 f7  (f5 ((v10 - 1) : Int32).toNatClampNeg) (f8 ((v10 - 1) : Int32).toNatClampNeg) f3_0 f3_11 f3_12 f3_13 f3_2 v0_11 v0_12 (v10 - 1) v11 v12 v15 v3_1 v3_14 v3_15 v3_3 v3_4) else (if (f5 ((v10 - 1) : Int32).toNatClampNeg) = 70 then (jn_v10_closeSign_207 nf v10 v11 v12 v15 f5 f8 f9 v0_3 v0_11 v0_12 f0_1 v3_1 v3_3 v3_4 v3_7 v3_14 v3_15 f3_0 f3_13 f3_11 f3_12 f3_6 f3_2 f2_1 f6 f7  (f5 ((v10 - 1) : Int32).toNatClampNeg) (f8 ((v10 - 1) : Int32).toNatClampNeg) f3_0 f3_11 f3_12 f3_13 f3_2 v0_11 v0_12 (v10 - 1) v11 v12 v15 v3_1 v3_14 v3_15 v3_3 v3_4) else (jn_v10_closeSign_212 nf v10 v11 v12 v15 f5 f8 f9 v0_3 v0_11 v0_12 f0_1 v3_1 v3_3 v3_4 v3_7 v3_14 v3_15 f3_0 f3_13 f3_11 f3_12 f3_6 f3_2 f2_1 f6 f7  (f5 ((v10 - 1) : Int32).toNatClampNeg) (f8 ((v10 - 1) : Int32).toNatClampNeg) 0 f3_0 f3_11 f3_12 f3_13 f3_2 v0_11 v0_12 (v10 - 1) v11 v12 v15 v3_1 v3_14 v3_15 v3_3 v3_4)))))))))))))

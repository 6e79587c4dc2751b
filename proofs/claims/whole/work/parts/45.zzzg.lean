/- S of both sides: break and continue -/
section
variable {nn : Nat} {X : BCx} {dp i a b a1 b1 a2 b2 e s bb lb lh d o en k ix : Int} {p q t uu : Nat} {h g u r w m z k0 k1 k2 k3 : ms_M} {v : Int × ms_M} {PB : Nat → Prop} {WL : Int → Int → Prop} {L : List (Int × Int)}
theorem pbz_l {Z : List (Int × Int)} (n : ∀ j, ¬ (j, lb) ∈ Z) : PBz PB lb Z = PB := funext fun y => propext ⟨fun q => q.elim id (fun ⟨j, q, _⟩ => absurd q (n j)), .inl⟩
theorem wlz_l {A n' : Int} {Z : List (Int × Int)} (n : ∀ j, ¬ (j, lb) ∈ Z) : WLz WL A n' lb Z = WL := funext fun x => funext fun y => propext ⟨fun q => q.elim id (fun ⟨⟨j, q⟩, _⟩ => absurd q (n j)), .inl⟩
theorem pbz_1 {j : Int} : PBz PB lb [(j, lb)] = fun y => PB y ∨ (y = (j + 1).toNat ∨ y = (j + 2).toNat) := funext fun y => propext ⟨fun q => by
  rcases q with q | ⟨j2, q1, q2⟩
  · exact .inl q
  · have : (j2, lb) = (j, lb) := List.mem_singleton.mp q1
    have e : j2 = j := congrArg Prod.fst this
    rw [e] at q2
    exact .inr q2, fun q => q.elim .inl (fun q => .inr ⟨j, List.mem_singleton.mpr rfl, q⟩)⟩
theorem wlz_1 {A n' j : Int} : WLz WL A n' lb [(j, lb)] = fun q k => WL q k ∨ (q = A ∧ k = n') := funext fun x => funext fun y => propext ⟨fun q => q.elim .inl (fun q => .inr q.2), fun q => q.elim .inl (fun q => .inr ⟨⟨j, List.mem_singleton.mpr rfl⟩, q⟩)⟩
theorem mwf_j (E : MFe m w) (l57 : w 160 57 = m 160 57) : MWf m w := ⟨⟨l57, E.1 160 54 (by omega) (by omega) (by omega), E.1 160 51 (by omega) (by omega) (by omega)⟩, fun cc x q1 q2 => E.1 cc x (by omega) (by omega) (by omega), fun x _ => ⟨E.1 219 x (by omega) (by omega) (by omega), E.1 220 x (by omega) (by omega) (by omega)⟩⟩
/-- a jump that pops nothing -/
theorem mkx_j0 {l : Int} (M : MKx X PB WL L h m) (A : CJu o 0 h g) (B : RJu o l m w) (oR : in_R o) (hl : l ≤ m 160 88) : MKx X PB WL (L ++ [(m 160 68, l)]) g w := by
  have W5 := B.2.2.2.2.2.2
  exact ⟨ma_jump M.1 A B oR hl, sk_jump M.2 A ⟨by omega, by have := M.2.1.2.2.1; omega⟩ (by rw [W5 160 70 (by omega) (by omega) (by omega)]; omega) (fun cc y z => W5 cc y (by omega) (by omega) (by omega))⟩
theorem s6_tl (Y : CXs X) (Wb : BRw X) (ne : 0 ≤ a ∧ a ≤ s ∧ s < b) (nb : b ≤ 8999) (hd : 0 ≤ d ∧ d ≤ 40) (nd : ((bK X p = 11 ∧ bT X 167 s.toNat = 5) ∨ (bK X p = 14 ∧ bT X 167 s.toNat = 6)) ∧ bT X 168 s.toNat = (p : Int)) (kk : bK X (p + 1) = 46) : S6 nn X d a b p (p + 2) s := by
  intro dc dr h r bb Q U
  have Q0 := Q
  obtain ⟨Qe, ⟨h3, h10, r57, h7⟩, ⟨LP, l54, br⟩, -⟩ := Q0
  have Qe0 := Qe
  obtain ⟨B, ⟨q1, q2, q3, q4⟩, ⟨f1, f2, f3⟩, o1⟩ := Qe0
  have T : ∀ cc y : Nat, ((163 ≤ cc ∧ cc ≤ 173) ∨ cc = 177) → r cc y = bT X cc y := B.2.2.2.2.2.1
  have c3 := Y.1.2.1
  have p1c : p + 1 < bc X := jp_lt Y.1 q2 (by omega)
  have p2c : p + 2 < bc X := jp_lt Y.1 p1c (by omega)
  have bm := brw_l Wb (p := p) (q := p + 2) (by omega) p2c
  have bp := Wb.2.2 (p + 2) p2c
  have s7 := B.2.1.1
  -- the class
  have CLS : ∀ {dc2 : Nat} {Z : Int × ms_M → Prop}, Pc (qf_X0_readLeave nn h) Z → (∀ x, Z x → Z (x.1, x.2)) → Pc (qo_X0_readStatement nn (qg_X0_readBlock nn dc2) d h) Z := fun {dc2} {Z} HZ ZE => by
    have W : Pc (qj_X0_readStatement_188 nn (qg_X0_readBlock nn dc2) h) Z := by
      unfold qj_X0_readStatement_188
      exact pc_sv HZ (fun x Hx => pc_ck (fun _ => pc_ret (ZE x Hx)))
    rcases nd.1 with y | y
    · exact sjc_11 Y B.1.1.1.1 q1 q2 q3 (by omega) y.1 W
    · exact sjc_14 Y B.1.1.1.1 q1 q2 q3 (by omega) y.1 W
  have RUL : ∀ {Z : Int × ms_M → Prop}, (∀ rc : tq_X13_ruled, Pc (qj_X13_ruled_444 nn rc s r) Z) → Pc ((qg_X13_ruled nn dr) s r) Z := fun {Z} HZ => by
    cases dr with
    | zero => exact fun _ z => nomatch z
    | succ dr =>
      rcases nd.1 with y | y
      · exact sju_5 q4 ((T 167 _ (by omega)).trans y.2) (HZ _)
      · exact sju_6 q4 ((T 167 _ (by omega)).trans y.2) (HZ _)
  have MAK : ∀ {d2 : Nat} {m : ms_M} {Z : Int × ms_M → Prop}, m 167 s.toNat = bT X 167 s.toNat → (∀ rc : tq_X13_make, Pc (qj_X13_make_305 nn rc s m) Z) → Pc ((qg_X13_make nn d2).1 s m) Z := fun {d2} {m} {Z} e67 HZ => by
    cases d2 with
    | zero => exact fun _ z => nomatch z
    | succ d2 =>
      rcases nd.1 with y | y
      · exact sjm_5 (e67.trans y.2) (HZ _)
      · exact sjm_6 (e67.trans y.2) (HZ _)
  cases dc with
  | zero => exact fun _ z => nomatch z
  | succ dc =>
    refine CLS (dc2 := dc) (Z := fun x => Pc ((qg_X13_ruled nn dr) s r) (fun y => SFj x.2 y.2 ∨ SOk nn X s a b p (p + 2) bb h r x y)) ?_ (fun x Hx => Hx)
    unfold qf_X0_readLeave
    refine pc_if (fun lp => ?_) (fun lp => ?_)
    · -- within a loop
      obtain ⟨lpb, LP2⟩ := LP
      obtain ⟨l0, lA, ln, lB⟩ := LP2.resolve_left (fun y => lp y.2)
      have R444 : ∀ {Z : Int × ms_M → Prop}, (bT X 167 s.toNat = 6 → Z (0, r)) → (bT X 167 s.toNat = 5 → ∀ h88 : ms_M, h88 = up_M r 198 (r 160 54).toNat 1 → Z (0, h88)) → Pc ((qg_X13_ruled nn dr) s r) Z := fun {Z} H1 H2 => by
        refine RUL (fun rc => ?_)
        unfold qj_X13_ruled_444
        refine pc_if (fun _ => ?_) (fun z => absurd (show ¬ r 160 54 = 0 by omega) z)
        refine pc_rA ?_; intro _ _ v85 e85
        rw [T 167 _ (by omega)] at e85
        refine pc_if (fun z => pc_ret (H1 (by omega))) (fun z => ?_)
        refine pc_wZ ?_; intro _ _ h88 e88
        exact pc_ret (H2 (by omega) h88 e88)
      refine pc_sv (c_kind Y.1 B.1.1.1.1 q2 q1 q3) ?_; intro u8 q8
      refine pc_if (fun z8 => ?_) (fun z8 => ?_)
      · -- break
        have kb : bK X p = 11 ∧ bT X 167 s.toNat = 5 := by omega
        have b6 := Wb.2.1 p p2c kb.1
        refine pc_if (fun z => absurd z (by omega)) (fun _ => ?_)
        refine pc_sv (c_jump (by omega) (by omega) (by omega)) ?_; intro u16 ⟨n16, J⟩
        refine pc_wA ?_; intro w1 w2 h17 e17
        have l17 : h17 33 12 = h 33 12 := by rw [e17, up_n (by omega)]; exact J.2.2.2 33 12 (by omega) (by omega)
        refine pc_add (by omega) ?_; intro v19 e19
        refine pc_xl ?_; intro h20 e20
        unfold qj_X0_readLeave_99
        have p20 : h20 2 10 = (p : Int) := by rw [e20, up_n (by omega), e17, up_n (by omega), J.2.2.2 2 10 (by omega) (by omega)]; exact q1
        refine pc_add (by omega) ?_; intro v3 e3
        refine pc_xl ?_; intro z ez
        rw [show v3 = ((p + 2 : Nat) : Int) by omega] at ez
        have ZJ : ∀ cc x : Nat, ¬ ((cc = 2 ∧ x = 10) ∨ (cc = 33 ∧ x = 12) ∨ (cc = 44 ∧ x = (h 33 12).toNat)) → z cc x = u16.2 cc x := fun cc x q => by rw [ez, up_n (by omega), e20, up_n (by omega), e17, up_n (by omega)]
        have ZH : ∀ cc x : Nat, ¬ ((cc = 2 ∧ x = 10) ∨ (cc = 33 ∧ x = 12) ∨ (cc = 44 ∧ x = (h 33 12).toNat) ∨ (cc = 34 ∧ (x = 1 ∨ x = 3)) ∨ (cc = 35 ∧ h 34 1 ≤ (x : Int))) → z cc x = h cc x := fun cc x q => by rw [ZJ cc x (by omega)]; exact J.2.2.2 cc x (by omega) (by omega)
        have z12 : z 33 12 = h 33 12 + 1 := by rw [ez, up_n (by omega), e20, up_s]; omega
        have z44 : z 44 (h 33 12).toNat = h 34 1 := by rw [ez, up_n (by omega), e20, up_n (by omega), e17, up_s]; exact n16
        have z1 : z 34 1 = h 34 1 + 3 := by rw [ZJ 34 1 (by omega)]; exact J.1
        have z3 : z 34 3 = 0 := by rw [ZJ 34 3 (by omega), J.2.1]; split <;> omega
        have z7 := ZH 34 7 (by omega)
        have z9 := ZH 33 9 (by omega)
        have z10 := ZH 33 10 (by omega)
        refine pc_ret (R444 (fun y => absurd y (by omega)) (fun _ h88 e88 => .inr ?_))
        have E88 : ∀ cc x : Nat, ¬ (cc = 198 ∧ x = (r 160 54).toNat) → h88 cc x = r cc x := fun cc x q => by rw [e88, up_n q]
        have Cz : CFs h z := ⟨fun cc x q => ZH cc x (by omega), ⟨z9, z10, by omega, by omega⟩, fun x hx => ⟨ZH 37 x (by omega), ZH 38 x (by omega)⟩, ⟨fun x hx => ZH 44 x (by omega), fun x c1 c2 => by
          rw [show x = (h 33 12).toNat by omega, z44]
          omega⟩, by omega, fun x hx => ZH 35 x (by omega)⟩
        have Rz : RFz a b r h88 := ⟨fun cc x q => E88 cc x (by omega), fun cc x c1 c2 c4 => E88 cc x (by omega), ⟨E88 160 54 (by omega), E88 160 57 (by omega), by rw [E88 160 50 (by omega)]; exact Int.le_refl _⟩, fun x hx => ⟨E88 196 x (by omega), E88 197 x (by omega)⟩, fun x hx => E88 198 x (by omega)⟩
        refine ⟨⟨rfl, .inl rfl⟩, ⟨⟨by show z 2 10 = _; rw [ez, up_s], p2c, by omega, by show z 2 11 = 0; rw [ZH 2 11 (by omega)]; exact q3, by show h88 160 9 = 0; rw [E88 160 9 (by omega)]; exact q4⟩, ⟨bx_k B (fun cc x q => ZH cc x (by omega)) (fun cc x q => E88 cc x (by omega)), Cz, Rz⟩, ⟨frc_k f1 (fun cc x q => ZH cc x (by omega)), by show z 34 1 + _ ≤ _; omega, z3, by show z 49 10 = 0; rw [ZH 49 10 (by omega)]; exact h10, by show z 49 18 ≤ _; rw [ZH 49 18 (by omega)]; omega⟩, by show 5 * z 34 7 + _ ≤ _; omega, by show 6 * z 33 12 + _ ≤ _; omega, ⟨by show 0 ≤ bb ∧ bb ≤ z 33 12; omega, .inr ⟨by show 0 < h88 160 54; rw [E88 160 54 (by omega)]; exact l0, by show 0 ≤ z 33 9 ∧ z 33 9 ≤ z 34 1; omega, by show 0 ≤ z 33 10 ∧ z 33 10 ≤ z 34 7; omega, .inr ⟨?_, by show bb < z 33 12; omega⟩⟩⟩⟩, ?_⟩
        · show h88 198 (h88 160 54).toNat = 1
          rw [E88 160 54 (by omega), e88, up_s]
        · intro d2 PB WL L lb lh m I
          obtain ⟨⟨M, AM⟩, ⟨m57, m88, m54, m51⟩, LB, WN, CO⟩ := I
          obtain ⟨b1, b2, b3, b4⟩ := LB l0
          obtain ⟨MT, MTB, -⟩ := mk_t M
          have cb := M.1.1.1
          refine MAK (MT 167 _ (by omega)) (fun rc => ?_)
          unfold qj_X13_make_305
          refine pc_rA ?_; intro _ _ v7 e7
          rw [MT 167 _ (by omega)] at e7
          refine pc_if (fun z => absurd (show v7 = 5 by omega) z) (fun _ => ?_)
          rw [m54]
          refine pc_rA ?_; intro _ _ v15 e15
          rw [b2] at e15
          rw [e15]
          refine pc_sv (r_jump (by omega)) ?_; intro u17 RJ
          have W5 := RJ.2.2.2.2.2.2
          have M1 : MKx X PB WL (L ++ [(m 160 68, lh)]) u16.2 u17 := mkx_j0 M J RJ (by unfold in_R; omega) b4
          have nl : ∀ j, ¬ (j, lb) ∈ [(m 160 68, lh)] := fun j hj => by
            have e : (j, lb) = (m 160 68, lh) := List.mem_singleton.mp hj
            have : lb = lh := congrArg Prod.snd e
            omega
          have l88 := W5 160 88 (by omega) (by omega) (by omega)
          refine pc_ret ⟨rfl, ⟨[(m 160 68, lh)], ?_, fun e he => .inr (by rw [List.mem_singleton.mp he]), fun y => absurd y (by omega), ?_, fun j hj => absurd hj (nl j)⟩, mwf_o (fun cc x q => W5 cc x (by omega) (by omega) (by omega)), by show _ ≤ u17 160 88; omega, by show u17 160 88 + _ ≤ _; omega⟩
          · rw [pbz_l nl, wlz_l nl]
            exact mk_c M1 (fun cc x q => ZJ cc x (by rcases q with q | q | q <;> first | (unfold RLc at q; omega) | omega))
          · show BRl z (h 33 12) (z 33 12) (if lh = lh then m 160 68 :: [] else [])
            rw [if_pos rfl]
            refine ⟨by show ((1 : Nat) : Int) = _; omega, fun i hi => ?_⟩
            have i0 : i = 0 := by
              have : i < 1 := hi
              omega
            rw [i0, show (h 33 12).toNat + 0 = (h 33 12).toNat by omega, z44]
            show _ = m 160 68
            omega
      · -- continue
        have kc : bK X p = 14 ∧ bT X 167 s.toNat = 6 := by omega
        refine pc_sv (c_jback (by omega) (by omega) (by omega) (by omega) f1) ?_; intro u26 CJ
        obtain ⟨g1, g2, g3, g4, g5⟩ := cjb_f f1 f2.1 CJ
        unfold qj_X0_readLeave_99
        have p26 : u26 2 10 = (p : Int) := by rw [g4 2 10 (by omega) (by omega) (by omega)]; exact q1
        refine pc_add (by omega) ?_; intro v3 e3
        refine pc_xl ?_; intro z ez
        rw [show v3 = ((p + 2 : Nat) : Int) by omega] at ez
        have ZJ : ∀ cc x : Nat, ¬ (cc = 2 ∧ x = 10) → z cc x = u26 cc x := fun cc x q => by rw [ez, up_n q]
        have ZH : ∀ cc x : Nat, ¬ ((cc = 2 ∧ x = 10) ∨ (cc = 34 ∧ (x = 1 ∨ x = 3 ∨ x = 14 ∨ x = 15)) ∨ (cc = 35 ∧ h 34 1 ≤ (x : Int)) ∨ (40 ≤ cc ∧ cc ≤ 42)) → z cc x = h cc x := fun cc x q => by rw [ZJ cc x (by omega)]; exact g4 cc x (by omega) (by omega) (by omega)
        have z1 : z 34 1 = h 34 1 + 3 := by rw [ZJ 34 1 (by omega)]; exact g2
        have z3 : z 34 3 = 0 := by rw [ZJ 34 3 (by omega), g3 (by omega)]; exact h3
        refine pc_ret (R444 (fun _ => .inr ?_) (fun y => absurd y (by omega)))
        refine ⟨⟨rfl, .inl rfl⟩, sk_leaf Q Wb ⟨by show z 2 10 = _; rw [ez, up_s], p2c, by omega, by show z 2 11 = 0; rw [ZH 2 11 (by omega)]; exact q3, q4⟩ (bx_k B (fun cc x q => ZH cc x (by omega)) (fun _ _ _ => rfl)) (cfs_o (fun cc x q => ZH cc x (by omega)) (by show _ ≤ z 34 1; omega)) rfs_r (ZH 33 12 (by omega)) (ZH 34 7 (by omega)) rfl (frc_k g1 (fun cc x q => ZJ cc x (by omega))) (by show z 34 1 + _ ≤ _; omega) z3 (by show z 49 10 = 0; rw [ZH 49 10 (by omega)]; exact h10) (by show z 49 18 ≤ _; rw [ZH 49 18 (by omega)]; omega), ?_⟩
        intro d2 PB WL L lb lh m I
        obtain ⟨⟨M, AM⟩, ⟨m57, m88, m54, m51⟩, LB, WN, CO⟩ := I
        obtain ⟨b1, b2, b3, b4⟩ := LB l0
        obtain ⟨MT, MTB, -⟩ := mk_t M
        have cb := M.1.1.1
        refine MAK (MT 167 _ (by omega)) (fun rc => ?_)
        unfold qj_X13_make_305
        refine pc_rA ?_; intro _ _ v7 e7
        rw [MT 167 _ (by omega)] at e7
        refine pc_if (fun _ => ?_) (fun z => absurd (show ¬ v7 = 5 by omega) z)
        rw [m54]
        refine pc_rA ?_; intro _ _ v10 e10
        rw [b1] at e10
        rw [e10]
        refine pc_sv (pc_and (mk_back M CJ (by omega) (by omega) (by omega) (CO l0) (by omega)) (r_jump (by omega))) ?_; intro u12 ⟨⟨M1, F1, l1⟩, RJ⟩
        refine pc_ret ⟨rfl, ⟨[(m 160 68, lb)], ?_, fun e he => .inl (by rw [List.mem_singleton.mp he]), fun y => absurd y (by omega), ?_, fun j hj => ?_⟩, mwf_j F1 (RJ.2.2.2.2.2.2 160 57 (by omega) (by omega) (by omega)), by show _ ≤ u12 160 88; omega, by show u12 160 88 + _ ≤ _; omega⟩
        · rw [pbz_1, wlz_1]
          exact mkx_c M1 (fun cc x q1 q2 q3 => by show z cc x = _; exact ZJ cc x (by omega))
        · show BRl z (h 33 12) (z 33 12) (if lb = lh then m 160 68 :: [] else [])
          rw [if_neg (by omega), ZH 33 12 (by omega)]
          exact brl_n
        · have e : (j, lb) = (m 160 68, lb) := List.mem_singleton.mp hj
          have e1 : j = m 160 68 := congrArg Prod.fst e
          show AMd z j (h 33 9)
          rw [e1, ← cb.1]
          intro lt
          rw [ZJ 35 _ (by omega), ZJ 35 _ (by omega)]
          exact g5 lt
    · -- no loop
      have n9 : h 33 9 = -1 := Classical.byContradiction lp
      refine pc_sv (c_tell B.1.1.1.1 q3 q2 q1) ?_; intro u32 ⟨s1, _⟩
      unfold qj_X0_readLeave_99
      refine pc_xl ?_; intro v3 _
      refine pc_xl ?_; intro h4 e4
      have r0 : r 160 54 = 0 := by
        rcases LP.2 with y | y
        · exact y.1
        · omega
      refine pc_ret (RUL (fun rc => ?_))
      unfold qj_X13_ruled_444
      refine pc_if (fun z => absurd r0 z) (fun _ => ?_)
      refine pc_rA ?_; intro _ _ v91 e91
      rw [T 168 _ (by omega), nd.2] at e91
      refine pc_sv (r_wrong B.1.1.2.2.1 q2 q4 e91) ?_; intro u93 w1
      exact pc_ret (.inl (sf_mk (c := 7) (pl := bP X p) (by decide) (by show h4 2 11 = 7; rw [e4, up_n (by omega)]; exact s1.1) (by show h4 2 12 = _; rw [e4, up_n (by omega)]; exact s1.2) w1.1 w1.2))
end

/- a method, whole -/
/-- what class and rules leave of a method -/
def JMr (nn : Nat) (X : BCx) (j : Nat) (a b : Int) (p q : Nat) (h r u v : ms_M) : Prop := JBw X u v ∧ (∀ cc y : Nat, ¬ (cc = 160 ∧ (y = 50 ∨ y = 51 ∨ y = 52 ∨ y = 53 ∨ y = 54 ∨ y = 57)) → ¬ (174 ≤ cc ∧ cc ≤ 176 ∧ a ≤ (y : Int) ∧ (y : Int) < b) → ¬ (196 ≤ cc ∧ cc ≤ 199) → ¬ (cc = 160 ∧ y = 10) → v cc y = r cc y) ∧ ∃ TM : Prop, ((TM ∧ (h 33 7 = -1 → u 33 7 = bB X 186 j) ∧ (¬ h 33 7 = -1 → u 33 7 = h 33 7)) ∨ (¬ TM ∧ u 33 7 = h 33 7)) ∧ ∀ (B : Int) (m : ms_M), MPr X B a b p q h v m → Pc (qf_X13_makeMethod nn (j : Int) m) (fun w => (TM ∧ w 160 9 = 11 ∧ w 160 10 = bP X (bB X 186 j).toNat) ∨ (¬ TM ∧ PBX X (B + 20000) u w ∧ w 160 9 = 0 ∧ (m 160 88 ≤ w 160 88 ∧ w 160 88 + 4 * (p : Int) ≤ m 160 88 + 4 * (q : Int))))
section
variable {nn : Nat} {X : BCx} {B a b : Int} {k j p q : Nat} {h g u r v m w : ms_M}
theorem pbx_h (P : PBX X B h m) (e : ∀ cc y : Nat, (45 ≤ cc ∧ cc ≤ 48) ∨ (6 ≤ cc ∧ cc ≤ 9) ∨ (17 ≤ cc ∧ cc ≤ 30) ∨ (cc = 2 ∧ y = 9) → g cc y = h cc y) : PBX X B g m := by
  obtain ⟨⟨p1, p2, p3⟩, p4, p5⟩ := P
  exact ⟨⟨plr_k p1 (fun cc y z => e cc y (by omega)) (fun _ _ _ => rfl), p2, p3⟩, txe_k p4 (fun cc y z => e cc y (by omega)) (fun _ _ _ => rfl), bys_c p5 (fun z => by rw [← e 45 5 (by omega)]; exact z) (e 45 7 (by omega)) (fun x => e 48 x (by omega)) rfl (fun _ => rfl)⟩
theorem c_much {uE : ms_M} (W : WFc uE u) : Pc (qf_X1_isTooMuch nn u) (fun y => (y = 1 ∧ TMu uE) ∨ (y = 0 ∧ ¬ TMu uE)) := by
  have e15 := W.2 34 15 (by omega) (by omega)
  have e1 := W.2 34 1 (by omega) (by omega)
  have e8 := W.2 34 8 (by omega) (by omega)
  have e4 := W.2 34 4 (by omega) (by omega)
  unfold qf_X1_isTooMuch
  refine pc_if (fun z => pc_ret (.inl ⟨rfl, fun o => by have := o.2; omega⟩)) (fun z => ?_)
  refine pc_if (fun z1 => pc_ret (.inl ⟨rfl, fun o => by have := o.1.1; omega⟩)) (fun z1 => ?_)
  refine pc_if (fun z2 => pc_ret (.inl ⟨rfl, fun o => by have := o.1.2.1; omega⟩)) (fun z2 => ?_)
  refine pc_if (fun z3 => pc_ret (.inr ⟨rfl, fun t => t ⟨⟨by omega, by omega, by omega⟩, by omega⟩⟩)) (fun z3 => pc_ret (.inl ⟨rfl, fun o => by have := o.1.2.2; omega⟩))
theorem c_wrf : Pc (qf_X1_writeTo nn h) (fun u => WFc h u) := fun u eu => ⟨fun z => (f5_qf_X1_writeTo z u eu).1.trans z, fun cc y z1 z2 => ff_X1_writeTo nn u eu cc y (nw_of (by unfold wl_X1_writeTo; simp only [List.mem_cons, List.not_mem_nil, or_false]; omega) (by unfold wf_X1_writeTo; simp only [List.mem_cons, List.not_mem_nil, or_false, Prod.mk.injEq]; omega))⟩
/-- the class's end of a method -/
theorem c_199 (Y : CXs X) (M : MTm X k j) {uE : ms_M} (G : ∀ cc x : Nat, (17 ≤ cc ∧ cc ≤ 29) → uE cc x = bA X cc x) : Pc (qj_X0_makeMethod_199 nn ((mx_X X k j : Nat) : Int) uE) (fun u => ∃ u4, qf_X1_writeTo nn uE = some u4 ∧ WFc uE u4 ∧ ((TMu uE ∧ uE 33 7 = -1 ∧ u = up_M u4 33 7 (bB X 186 j)) ∨ (u = u4 ∧ (TMu uE → ¬ uE 33 7 = -1)))) := by
  unfold qj_X0_makeMethod_199
  refine pc_se ?_; intro u4 e4
  have W := c_wrf u4 e4
  have e7 := W.2 33 7 (by omega) (by omega)
  refine pc_sv (c_much W) ?_; intro u7 q7
  refine pc_sv (c_mTok Y M (fun cc x z => by rw [W.2 cc x (by omega) (by omega)]; exact G cc x z)) ?_; intro u10 q10
  rw [q10]
  refine pc_sv (P := fun u => (TMu uE ∧ uE 33 7 = -1 ∧ u = up_M u4 33 7 (bB X 186 j)) ∨ (u = u4 ∧ (TMu uE → ¬ uE 33 7 = -1))) ?_ (fun u hu => pc_ret ⟨u4, e4, W, hu⟩)
  unfold qf_X0_noteMuch
  refine pc_if (fun z => pc_ret (.inr ⟨rfl, fun t => ?_⟩)) (fun z => ?_)
  · rcases q7 with y | y
    · omega
    · exact absurd t y.2
  · have tm : TMu uE := by
      rcases q7 with y | y
      · exact y.2
      · omega
    refine pc_if (fun z7 => pc_ret (.inr ⟨rfl, fun _ => by omega⟩)) (fun z7 => ?_)
    refine pc_xl ?_; intro h2 e2
    have z7' : u4 33 7 = -1 := Classical.byContradiction z7
    exact pc_ret (.inl ⟨tm, by omega, e2⟩)
theorem j_meth (Y : CXs X) (Wb : BRw X) (M : MTm X k j) (LK : LKn 0 (bK X) (bT X) 8 0 0 a b (p : Int) (q : Int) (bB X 190 j)) (nb : b ≤ 8999) (e23 : bA X 23 (mx_X X k j) = (p : Int)) (J : JBw X h r) (U : UNr X a b r) {fuel : Nat} {Z : ms_M → ms_M → Prop} (HN : ∀ u v : ms_M, qf_X0_makeMethod nn (k : Int) ((mcn_T (bB X) k 1 j : Nat) : Int) h = some u → (SFj u v ∨ JMr nn X j a b p q h r u v) → Pc (qw_X13_bodies_2 nn fuel ((j + 1 : Nat) : Int) v) (fun y => Z u y)) : Pc (qf_X0_makeMethod nn (k : Int) ((mcn_T (bB X) k 1 j : Nat) : Int) h) (fun u => Pc (qw_X13_bodies_2 nn (fuel + 1) (j : Int) r) (fun y => Z u y)) := by
  intro u eu
  have n8 := Y.2.2.1
  obtain ⟨⟨x96, hx⟩, MB, T2, vt24, b188, vp⟩ := mt_row Y M
  have H8 : S8 nn X 0 a b p q (bB X 190 j) := (s_all Y Wb LK (by omega) nb p q rfl rfl).2.2 rfl
  have kp := lk_8k LK rfl
  rw [Int.toNat_natCast] at kp
  have pc : p < bc X := tb_lt Y.1 (by omega)
  have c3 := Y.1.2.1
  refine c_mbeg (Z := fun u' => u' = u → Pc (qw_X13_bodies_2 nn (fuel + 1) (j : Int) r) (fun y => Z u y)) Y M J (fun h0 g hB C => ?_) u eu rfl
  have C0 := C
  obtain ⟨u57, u66, e57, W57, U66, hh, CP, eB⟩ := C0
  refine pc_se ?_; intro x ex
  intro u' e' eq
  rw [eq] at e'
  refine r_mrul M J (fun r0 R0 j8 => ?_)
  have BX0 := bx_m0 Y M J W57 U66 hh R0
  have z7 := U66.1.2.2.2.1
  have s7 : h0 34 7 ≤ 10 := by
    rcases hh with ⟨-, A⟩ | ⟨-, e⟩
    · rw [A.1]; omega
    · rw [e]; omega
  refine r_pars Y M BX0 CP s7 (fun r1 B1 E1 => ?_)
  have B2 := B1.2.2.2.2.2.2.1
  refine pc_rA ?_; intro _ _ v4 e4
  rw [Int.toNat_natCast, B2 190 _ (by omega)] at e4
  rw [e4]
  -- ahead of the BLOCK
  obtain ⟨c7, CF⟩ := cpr_f _ _ _ CP
  have H0 : ∀ cc y : Nat, ¬ (cc = 34 ∧ (y = 7 ∨ y = 8)) → ¬ (cc = 37 ∨ cc = 38) → h0 cc y = u66 cc y := fun cc y z1 z2 => by
    rcases hh with ⟨-, A⟩ | ⟨-, e⟩
    · exact A.2.2.2 cc y z1 (by omega)
    · rw [e]
  have HBg : ∀ cc y : Nat, ¬ (cc = 33 ∧ (y = 8 ∨ y = 9 ∨ y = 12)) → ¬ (cc = 2 ∧ y = 10) → hB cc y = g cc y := fun cc y z1 z2 => by rw [eB, up_n (by omega), up_n (by omega), up_n (by omega), up_n (by omega)]
  have HB6 : ∀ cc y : Nat, ¬ (cc = 33 ∧ (y = 8 ∨ y = 9 ∨ y = 12)) → ¬ (cc = 2 ∧ y = 10) → ¬ (cc = 34 ∧ (y = 7 ∨ y = 8)) → ¬ (cc = 37 ∨ cc = 38) → hB cc y = u66 cc y := fun cc y z1 z2 z3 z4 => by rw [HBg cc y z1 z2, CF cc y z3 z4]; exact H0 cc y z3 z4
  have HB5 : ∀ cc y : Nat, ¬ (cc = 33 ∧ (y = 8 ∨ y = 9 ∨ y = 12)) → ¬ (cc = 2 ∧ y = 10) → ¬ cc = 34 → ¬ (cc = 37 ∨ cc = 38) → ¬ cc = 49 → ¬ (45 ≤ cc ∧ cc ≤ 48) → hB cc y = h cc y := fun cc y z1 z2 z3 z4 z5 z6 => by rw [HB6 cc y z1 z2 (by omega) z4, U66.2.2 cc y (by omega) (by omega)]; exact W57.2 cc y (by omega) (by omega)
  have p10 : hB 2 10 = (p : Int) := by rw [eB, up_s]; exact e23
  have h12 : hB 33 12 = 0 := by rw [eB, up_n (by omega), up_s]
  have h9 : hB 33 9 = -1 := by rw [eB, up_n (by omega), up_n (by omega), up_s]
  have h8 : hB 33 8 = bA X 24 (mx_X X k j) := by rw [eB, up_n (by omega), up_n (by omega), up_n (by omega), up_s]
  have BB : BX X hB r1 := bx_k B1 (fun cc x z => HBg cc x (by omega) (by omega)) (fun _ _ _ => rfl)
  have zc := U66.1
  have HZ : ∀ y : Nat, ¬ (y = 7 ∨ y = 8) → hB 34 y = u66 34 y := fun y z => HB6 34 y (by omega) (by omega) (by omega) (by omega)
  have r19 : r1 160 9 = 0 := by rw [E1 160 9 (by omega) (by omega), R0.2 160 9 (by omega)]; exact J.2.1.2
  have r154 : r1 160 54 = 0 := by rw [E1 160 54 (by omega) (by omega)]; exact R0.1.2.2.2.2.1
  have r151 : r1 160 51 = (j : Int) := by rw [E1 160 51 (by omega) (by omega)]; exact R0.1.1
  have r157 : r1 160 57 = 0 := by rw [E1 160 57 (by omega) (by omega)]; exact R0.1.2.2.2.2.2
  have ff1 : hB 2 11 = 0 := by rw [HB5 2 11 (by omega) (by omega) (by omega) (by omega) (by omega) (by omega)]; exact J.2.1.1
  have FC : FRc hB := by
    have e14 : hB 34 14 = 0 := by rw [HZ 14 (by omega)]; exact zc.2.2.2.2.2.2.1
    exact ⟨⟨by omega, by omega, fun s hs => absurd hs (by omega)⟩, fun i hi => absurd hi (by omega), fun i j _ hj => absurd hj (by omega), fun s hs => absurd hs (by omega)⟩
  have l1 : hB 34 1 = 0 := by rw [HZ 1 (by omega)]; exact zc.1
  have l3 : hB 34 3 = 0 := by rw [HZ 3 (by omega)]; exact zc.2.1
  have l7 : hB 34 7 ≤ 7 := by
    have a := HBg 34 7 (by omega) (by omega)
    have b := MB.2.2.1
    have f1 : h0 34 7 ≤ 1 := by
      rcases hh with ⟨f, A⟩ | ⟨f, e⟩
      · rw [A.1]; omega
      · rw [e]; omega
    omega
  have l10 : hB 49 10 = 0 := by rw [HB6 49 10 (by omega) (by omega) (by omega) (by omega)]; exact U66.2.1.2.2.2
  have l18 : hB 49 18 = -1 := by rw [HB6 49 18 (by omega) (by omega) (by omega) (by omega)]; exact U66.2.1.2.2.1
  have bp := Wb.2.2 p pc
  have SP : SPq X 0 p 0 hB r1 := by
    refine ⟨⟨BB, ⟨p10, pc, ff1, r19⟩, ⟨FC, by omega, by omega, by omega⟩, by omega, by omega, by omega⟩, ⟨l3, l10, r157, by omega⟩, ⟨⟨⟨by omega, by omega⟩, .inl ⟨r154, h9⟩⟩, ⟨by omega, by omega⟩, by omega⟩, ⟨by rw [h8]; exact vt24, by rw [h8]; exact MB.1.2.2.1⟩, ⟨by omega, ?_⟩, ?_⟩
    · rw [r151]; exact j8
    · rw [r151, Int.toNat_natCast, B2 187 _ (by omega), h8]; exact MB.1.2.2.2
  have U1 : UNr X a b r1 := unr_k U ⟨Int.le_refl _, Int.le_refl _⟩ (fun cc x c1 c2 c4 c5 => by rw [E1 cc x (by omega) (by omega)]; exact R0.2 cc x (by omega))
  refine pc_sv (show Pc (qf_X13_ruled nn (bB X 190 j) r1) _ from H8 240 200 hB r1 0 SP U1 x ex) ?_; intro y hy
  have NX : ∀ v0 : Int, v0 = (j : Int) + 1 → v0 = ((j + 1 : Nat) : Int) := fun v0 e => by omega
  rcases hy with S | SO
  · -- a FAULT of the BLOCK
    have G := fsg_X0_readBlock nn 240
    have FX : Pc (if x.1 = 0 then (qj_X0_makeMethod_199 nn ((mx_X X k j : Nat) : Int) x.2) else (if (x.2 33 8) = 303 then (qj_X0_makeMethod_189 nn ((mx_X X k j : Nat) : Int) x.2) else (mx_sv (qf_X2_tokenOfMethod nn ((mx_X X k j : Nat) : Int) x.2) fun u36 => mx_sv (qf_X9_tell nn 8 u36 x.2) fun u38 => qj_X0_makeMethod_189 nn ((mx_X X k j : Nat) : Int) u38))) (fun u => FSc x.2 u) := by
      refine pc_if (fun _ => fs_qj_X0_makeMethod_199 S.1) (fun _ => ?_)
      refine pc_if (fun _ => fs_qj_X0_makeMethod_189 S.1) (fun _ => ?_)
      refine pc_se ?_; intro u36 _
      refine pc_sv (fs_qf_X9_tell S.1) ?_; intro u38 F
      exact pc_imp (fs_qj_X0_makeMethod_189 (fs_n S.1 F)) (fun _ q => fs_t F q)
    have S2 := sf_c S (FX u e')
    refine pc_if (fun _ => ?_) (fun _ => ?_)
    · refine pc_add (by omega) ?_; intro v7 e7
      rw [NX v7 e7]
      exact HN u y.2 eu (.inl S2)
    · refine pc_rA ?_; intro _ _ v9 _
      refine pc_if (fun _ => ?_) (fun _ => ?_)
      · refine pc_add (by omega) ?_; intro v10 e10
        rw [NX v10 e10]
        exact HN u y.2 eu (.inl S2)
      · refine pc_rA ?_; intro _ _ v12 _
        refine pc_sv (ft_qf_X13_wrong (sf_r S2)) ?_; intro u14 F
        refine pc_add (by omega) ?_; intro v15 e15
        rw [NX v15 e15]
        exact HN u u14 eu (.inl ⟨S2.1, by rw [F.1]; exact S2.2.1, by rw [F.2]; exact S2.2.2⟩)
  · have SO0 := SO
    obtain ⟨⟨en1, en2⟩, SK, -⟩ := SO
    have x8 : x.2 33 8 = bA X 24 (mx_X X k j) := by rw [SK.2.1.2.1.1 33 8 (by omega)]; exact h8
    have BX2 := SK.2.1.1
    have Ty := BX2.2.2.2.2.2.2.1
    have G2 : ∀ cc x' : Nat, (17 ≤ cc ∧ cc ≤ 29) → x.2 cc x' = bA X cc x' := BX2.2.2.2.2.2.2.2.1
    have J2 : JBw X x.2 y.2 := jb_bx BX2 SK.1.2.2.2.1 SK.1.2.2.2.2
    have lx := SK.2.2.1.2.1
    have lx0 := SK.2.1.2.1.2.2.2.2.1
    have qcx := SK.1.2.1
    -- the rules' frame
    have RF : ∀ cc y' : Nat, ¬ (cc = 160 ∧ (y' = 50 ∨ y' = 51 ∨ y' = 52 ∨ y' = 53 ∨ y' = 54 ∨ y' = 57)) → ¬ (174 ≤ cc ∧ cc ≤ 176 ∧ a ≤ (y' : Int) ∧ (y' : Int) < b) → ¬ (196 ≤ cc ∧ cc ≤ 199) → ¬ (cc = 160 ∧ y' = 10) → y.2 cc y' = r cc y' := fun cc y' z1 z2 z3 z4 => by
      have e2 : r1 cc y' = r cc y' := by rw [E1 cc y' (by omega) (by omega)]; exact R0.2 cc y' z1
      by_cases c4 : 174 ≤ cc ∧ cc ≤ 176
      · rw [SK.2.1.2.2.2.1 cc y' c4.1 c4.2 (by omega)]; exact e2
      · by_cases c9 : cc = 160 ∧ y' = 9
        · rw [c9.1, c9.2, SK.1.2.2.2.2]; exact J.2.1.2.symm
        · rw [SK.2.1.2.2.1 cc y' (by omega)]; exact e2
    -- the end of both sides
    have FIN : ∀ uE : ms_M, ((x.1 = 0 ∧ uE = x.2) ∨ (¬ x.1 = 0 ∧ COp 177 x.2 uE)) → qj_X0_makeMethod_199 nn ((mx_X X k j : Nat) : Int) uE = some u → JMr nn X j a b p q h r u y.2 := fun uE hE e9 => by
      have EE : ∀ cc y' : Nat, ¬ (cc = 34 ∧ y' = 1) → ¬ cc = 35 → uE cc y' = x.2 cc y' := fun cc y' z1 z2 => by
        rcases hE with ⟨-, e⟩ | ⟨-, e⟩
        · rw [e]
        · exact e.2.2 cc y' z1 (by omega)
      obtain ⟨u4, e4', W4, hu⟩ := c_199 Y M (fun cc x' z => by rw [EE cc x' (by omega) (by omega)]; exact G2 cc x' z) u e9
      have UF : ∀ cc y' : Nat, ¬ (cc = 33 ∧ y' = 7) → u cc y' = u4 cc y' := fun cc y' z => by
        rcases hu with ⟨-, -, e⟩ | ⟨e, -⟩
        · rw [e, up_n z]
        · rw [e]
      have e337 : uE 33 7 = h 33 7 := by
        rw [EE 33 7 (by omega) (by omega), SK.2.1.2.1.1 33 7 (by omega)]
        exact HB5 33 7 (by omega) (by omega) (by omega) (by omega) (by omega) (by omega)
      have u47 : u4 33 7 = h 33 7 := by rw [W4.2 33 7 (by omega) (by omega)]; exact e337
      refine ⟨jb_k J2 (fun cc x' z => by rw [UF cc x' (by omega), W4.2 cc x' (by omega) (by omega)]; exact EE cc x' (by omega) (by omega)) (fun _ _ _ => rfl), RF, TMu uE, ?_, fun B m MP => ?_⟩
      · rcases hu with ⟨t1, t2, t3⟩ | ⟨t1, t2⟩
        · exact .inl ⟨t1, fun _ => by rw [t3, up_s], fun z => absurd (e337.symm.trans t2) z⟩
        · by_cases tm : TMu uE
          · exact .inl ⟨tm, fun z => absurd (e337.trans z) (t2 tm), fun _ => by rw [t1]; exact u47⟩
          · exact .inr ⟨tm, by rw [t1]; exact u47⟩
      · refine pc_imp (m_meth Y M J C r154 r151 SO0 ex hE e4' MP) (fun w hw => ?_)
        rcases hw with y1 | ⟨y1, y2, y3⟩
        · exact .inl y1
        · exact .inr ⟨y1, pbx_h y2 (fun cc y' z => UF cc y' (by omega)), y3⟩
    by_cases x0 : x.1 = 0
    · rw [if_pos x0] at e'
      refine pc_if (fun _ => ?_) (fun z => absurd (show y.1 = 0 by rw [← en1]; exact x0) z)
      refine pc_add (by omega) ?_; intro v7 e7
      rw [NX v7 e7]
      exact HN u y.2 eu (.inr (FIN x.2 (.inl ⟨x0, rfl⟩) e'))
    · rw [if_neg x0, x8] at e'
      refine pc_if (fun z => absurd (show x.1 = 0 by rw [en1]; exact z) x0) (fun _ => ?_)
      refine pc_rA ?_; intro _ _ v9 e9
      rw [Int.toNat_natCast, Ty 187 _ (by omega), MB.1.2.2.2] at e9
      have t3 := ty_3 (X := X) n8 vt24
      by_cases r3 : bA X 24 (mx_X X k j) = 303
      · rw [if_pos r3] at e'
        refine pc_if (fun _ => ?_) (fun z => absurd (show v9 = 3 by rw [e9]; exact t3.mpr r3) z)
        refine pc_add (by omega) ?_; intro v10 e10
        rw [NX v10 e10]
        have OP : Pc (qj_X0_makeMethod_189 nn ((mx_X X k j : Nat) : Int) x.2) (fun u => ∃ uE, COp 177 x.2 uE ∧ qj_X0_makeMethod_199 nn ((mx_X X k j : Nat) : Int) uE = some u) := by
          unfold qj_X0_makeMethod_189
          refine pc_sv (c_op (by omega)) ?_; intro uE A
          exact fun u eu => ⟨uE, A, eu⟩
        obtain ⟨uE, A, e9'⟩ := OP u e'
        exact HN u y.2 eu (.inr (FIN uE (.inr ⟨x0, A⟩) e9'))
      · rw [if_neg r3] at e'
        refine pc_if (fun z => absurd (t3.mp (by rw [← e9]; exact z)) r3) (fun _ => ?_)
        refine pc_rA ?_; intro _ _ v12 e12
        rw [Int.toNat_natCast, Ty 186 _ (by omega)] at e12
        have tkc : (bB X 186 j).toNat < bc X := tb_lt Y.1 (by omega)
        refine pc_sv (r_wrong BX2.1.1.2.2.1 (p := (bB X 186 j).toNat) tkc J2.2.1.2 (by omega)) ?_; intro u14 w1
        refine pc_add (by omega) ?_; intro v15 e15
        rw [NX v15 e15]
        have TL : Pc (mx_sv (qf_X2_tokenOfMethod nn ((mx_X X k j : Nat) : Int) x.2) fun u36 => mx_sv (qf_X9_tell nn 8 u36 x.2) fun u38 => qj_X0_makeMethod_189 nn ((mx_X X k j : Nat) : Int) u38) (fun u => u 2 11 = 8 ∧ u 2 12 = bP X (bB X 186 j).toNat) := by
          refine pc_sv (c_mTok Y M G2) ?_; intro u36 q36
          refine pc_sv (c_tell BX2.1.1.1.1 J2.2.1.1 (t := (bB X 186 j).toNat) tkc (by omega)) ?_; intro u38 ⟨s1, _⟩
          exact pc_imp (fs_qj_X0_makeMethod_189 (by omega)) (fun u F => ⟨by rw [F.1]; exact s1.1, by rw [F.2]; exact s1.2⟩)
        obtain ⟨s1, s2⟩ := TL u e'
        exact HN u u14 eu (.inl (sf_mk (c := 8) (pl := bP X (bB X 186 j).toNat) (by decide) s1 s2 w1.1 w1.2))
end

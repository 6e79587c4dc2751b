section
/- a method: the making, whole -/
section
variable {nn : Nat} {X : BCx} {B a b : Int} {k j p q : Nat} {h h0 g u r rB m w hB uE u4 : ms_M} {x y : Int × ms_M}
/-- a byte told of both sides: bounds -/
theorem m_meth (Y : CXs X) (M : MTm X k j) (J : JBw X h r) (C : CMb nn X k j h h0 g hB) (r54 : rB 160 54 = 0) (r51 : rB 160 51 = (j : Int)) (SO : SOk nn X (bB X 190 j) a b p q 0 hB rB x y) (ex : qf_X0_readBlock nn 0 hB = some x) (hE : (x.1 = 0 ∧ uE = x.2) ∨ (¬ x.1 = 0 ∧ COp 177 x.2 uE)) (e4 : qf_X1_writeTo nn uE = some u4) (MP : MPr X B a b p q h y.2 m) : Pc (qf_X13_makeMethod nn (j : Int) m) (fun w => (TMu uE ∧ w 160 9 = 11 ∧ w 160 10 = bP X (bB X 186 j).toNat) ∨ (¬ TMu uE ∧ PBX X (B + 20000) u4 w ∧ w 160 9 = 0 ∧ (m 160 88 ≤ w 160 88 ∧ w 160 88 + 4 * (p : Int) ≤ m 160 88 + 4 * (q : Int)))) := by
  obtain ⟨u57, u66, e57, W57, U66, hh, CP, eB⟩ := C
  obtain ⟨P, bB0, AM, ⟨m9, m52, m88, mq⟩, MT⟩ := MP
  obtain ⟨⟨x96, hx⟩, MB, T2, vt24, b188, vp⟩ := mt_row Y M
  have exx : mx_X X k j = 12 * k + mcn_T (bB X) k 1 j := rfl
  have m4 := M.2.2.2.1
  have n8 := Y.2.2.1
  have k8 := M.1.2
  have pc : p < bc X := by have := SO.2.1.1.2.2.1; have := SO.2.1.1.2.1; omega
  have qc := SO.2.1.1.2.1
  have c3 := Y.1.2.1
  have b7 := P.2.2.1
  have G := J.2.2.2.2.2
  have TB : TBc (bK X) (bP X) (bc X) h := J.1.1.1.1
  have VL : VLc (bK X) (bV X) (bc X) h := J.1.1.1.2.1
  obtain ⟨CB, l57, -⟩ := c_begM Y M G TB VL (by omega) u57 e57
  obtain ⟨u2, u7, u9, u14, A2, e7, A9, e14, A16⟩ := CB
  have TP : ∀ cc y : Nat, (178 ≤ cc ∧ cc ≤ 195) → m cc y = bB X cc y := P.2.1.2.2.2.2.2
  have b182 : 0 < bB X 182 j := by omega
  -- the class's frames
  have z7 := U66.1.2.2.2.1
  have s70 : h0 34 7 ≤ 10 ∧ h0 34 7 = (bF X : Int) ∧ h0 34 8 = (bF X : Int) ∧ (bF X = 1 → h0 37 0 = -1 ∧ h0 38 0 = bo X) ∧ (bF X = 0 ∨ bF X = 1) := by
    have z8 := U66.1.2.2.2.2.1
    rcases hh with ⟨f, A⟩ | ⟨f, e⟩
    · have a := A.2.2.1 (by omega)
      rw [show (u66 34 7).toNat = 0 by omega] at a
      have a8 := A.2.1
      rw [if_pos (by omega)] at a8
      exact ⟨by rw [A.1]; omega, by rw [A.1]; omega, by omega, fun _ => a, .inr f⟩
    · exact ⟨by rw [e]; omega, by rw [e]; omega, by rw [e]; omega, fun q => by omega, .inl f⟩
  obtain ⟨s71, s72, s73, s74, s75⟩ := s70
  obtain ⟨-, CF⟩ := cpr_f _ _ _ CP
  have H0 : ∀ cc y : Nat, ¬ (cc = 34 ∧ (y = 7 ∨ y = 8)) → ¬ (cc = 37 ∨ cc = 38) → h0 cc y = u66 cc y := fun cc y z1 z2 => by
    rcases hh with ⟨-, A⟩ | ⟨-, e⟩
    · exact A.2.2.2 cc y z1 (by omega)
    · rw [e]
  have HBg : ∀ cc y : Nat, ¬ (cc = 33 ∧ (y = 8 ∨ y = 9 ∨ y = 12)) → ¬ (cc = 2 ∧ y = 10) → hB cc y = g cc y := fun cc y z1 z2 => by rw [eB, up_n (by omega), up_n (by omega), up_n (by omega), up_n (by omega)]
  have HB6 : ∀ cc y : Nat, ¬ (cc = 33 ∧ (y = 8 ∨ y = 9 ∨ y = 12)) → ¬ (cc = 2 ∧ y = 10) → ¬ (cc = 34 ∧ (y = 7 ∨ y = 8)) → ¬ (cc = 37 ∨ cc = 38) → hB cc y = u66 cc y := fun cc y z1 z2 z3 z4 => by rw [HBg cc y z1 z2, CF cc y z3 z4]; exact H0 cc y z3 z4
  have HB5 : ∀ cc y : Nat, ¬ (cc = 33 ∧ (y = 8 ∨ y = 9 ∨ y = 12)) → ¬ (cc = 2 ∧ y = 10) → ¬ cc = 34 → ¬ (cc = 37 ∨ cc = 38) → ¬ cc = 49 → hB cc y = u57 cc y := fun cc y z1 z2 z3 z4 z5 => by rw [HB6 cc y z1 z2 (by omega) z4]; exact U66.2.2 cc y (by omega) (by omega)
  -- the reference's begin
  unfold qf_X13_makeMethod
  refine pc_xl ?_; intro h166 e166
  refine pc_rA ?_; intro _ _ v168 e168
  rw [Int.toNat_natCast, e166, up_n (by omega), TP 182 _ (by omega)] at e168
  have T21 : ∀ s0 : Int, s0 = 1 - (bF X : Int) → Pc (qj_X13_makeMethod_21 nn (j : Int) s0 h166) (fun w => (TMu uE ∧ w 160 9 = 11 ∧ w 160 10 = bP X (bB X 186 j).toNat) ∨ (¬ TMu uE ∧ PBX X (B + 20000) u4 w ∧ w 160 9 = 0 ∧ (m 160 88 ≤ w 160 88 ∧ w 160 88 + 4 * (p : Int) ≤ m 160 88 + 4 * (q : Int)))) := fun s0 es => by
    unfold qj_X13_makeMethod_21
    refine pc_ck (fun _ => ?_)
    refine pc_xl ?_; intro k1 f1
    refine pc_xl ?_; intro k2 f2
    refine pc_xl ?_; intro k3 f3
    refine pc_xl ?_; intro k4 f4
    refine pc_xl ?_; intro k5 f5
    refine pc_xl ?_; intro k6 f6
    refine pc_xl ?_; intro k7 f7
    refine pc_xl ?_; intro k8' f8
    refine pc_xl ?_; intro k9 f9
    refine pc_xl ?_; intro k10 f10
    refine pc_xl ?_; intro k11 f11
    refine pc_xl ?_; intro m2 f12
    have E2 : ∀ cc y : Nat, ¬ (cc = 160 ∧ (y = 51 ∨ y = 53 ∨ y = 50 ∨ y = 72 ∨ y = 54 ∨ y = 57 ∨ y = 68 ∨ y = 70 ∨ y = 71 ∨ y = 78 ∨ y = 79 ∨ y = 84 ∨ y = 87)) → m2 cc y = m cc y := fun cc y z => by rw [f12, up_n (by omega), f11, up_n (by omega), f10, up_n (by omega), f9, up_n (by omega), f8, up_n (by omega), f7, up_n (by omega), f6, up_n (by omega), f5, up_n (by omega), f4, up_n (by omega), f3, up_n (by omega), f2, up_n (by omega), f1, up_n (by omega), e166, up_n (by omega)]
    have d87 : m2 160 87 = 0 := by rw [f12, up_s]
    have d84 : m2 160 84 = 0 := by rw [f12, up_n (by omega), f11, up_s]
    have d79 : m2 160 79 = 0 := by rw [f12, up_n (by omega), f11, up_n (by omega), f10, up_s]
    have d78 : m2 160 78 = 0 := by rw [f12, up_n (by omega), f11, up_n (by omega), f10, up_n (by omega), f9, up_s]
    have d71 : m2 160 71 = 0 := by rw [f12, up_n (by omega), f11, up_n (by omega), f10, up_n (by omega), f9, up_n (by omega), f8, up_s]
    have d70 : m2 160 70 = 0 := by rw [f12, up_n (by omega), f11, up_n (by omega), f10, up_n (by omega), f9, up_n (by omega), f8, up_n (by omega), f7, up_s]
    have d68 : m2 160 68 = 0 := by rw [f12, up_n (by omega), f11, up_n (by omega), f10, up_n (by omega), f9, up_n (by omega), f8, up_n (by omega), f7, up_n (by omega), f6, up_s]
    have d57 : m2 160 57 = 0 := by rw [f12, up_n (by omega), f11, up_n (by omega), f10, up_n (by omega), f9, up_n (by omega), f8, up_n (by omega), f7, up_n (by omega), f6, up_n (by omega), f5, up_s]
    have d54 : m2 160 54 = 0 := by rw [f12, up_n (by omega), f11, up_n (by omega), f10, up_n (by omega), f9, up_n (by omega), f8, up_n (by omega), f7, up_n (by omega), f6, up_n (by omega), f5, up_n (by omega), f4, up_s]
    have d72 : m2 160 72 = 0 := by rw [f12, up_n (by omega), f11, up_n (by omega), f10, up_n (by omega), f9, up_n (by omega), f8, up_n (by omega), f7, up_n (by omega), f6, up_n (by omega), f5, up_n (by omega), f4, up_n (by omega), f3, up_s]
    have d50 : m2 160 50 = 0 := by rw [f12, up_n (by omega), f11, up_n (by omega), f10, up_n (by omega), f9, up_n (by omega), f8, up_n (by omega), f7, up_n (by omega), f6, up_n (by omega), f5, up_n (by omega), f4, up_n (by omega), f3, up_n (by omega), f2, up_s]
    have d53 : m2 160 53 = s0 := by rw [f12, up_n (by omega), f11, up_n (by omega), f10, up_n (by omega), f9, up_n (by omega), f8, up_n (by omega), f7, up_n (by omega), f6, up_n (by omega), f5, up_n (by omega), f4, up_n (by omega), f3, up_n (by omega), f2, up_n (by omega), f1, up_s]
    have d51 : m2 160 51 = (j : Int) := by rw [f12, up_n (by omega), f11, up_n (by omega), f10, up_n (by omega), f9, up_n (by omega), f8, up_n (by omega), f7, up_n (by omega), f6, up_n (by omega), f5, up_n (by omega), f4, up_n (by omega), f3, up_n (by omega), f2, up_n (by omega), f1, up_n (by omega), e166, up_s]
    have S0 : SG2 X h0 m2 := by
      refine ⟨⟨⟨by omega, by omega, by omega⟩, ?_, fun s hs => absurd hs (by omega)⟩, ⟨by omega, by omega⟩, fun s hs => ?_⟩
      · rcases s75 with f | f
        · exact .inl f
        · exact .inr ⟨f, s74 f⟩
      · have fq : bF X = 1 := by omega
        have ow := Y.2.2.2.1
        rw [show s = 0 by omega, (s74 fq).2]
        exact ⟨.inr (.inr (.inr (.inr (.inr (.inl (by omega)))))), by omega⟩
    refine m_pars Y M S0 (fun cc x z => by rw [E2 cc x (by omega)]; exact TP cc x z) CP s71 (fun m3 S3 E3' => ?_)
    have E3 : ∀ cc y : Nat, ¬ cc = 160 → ¬ (cc = 196 ∨ cc = 197) → m3 cc y = m cc y := fun cc y z1 z2 => by rw [E3' cc y (by omega) z2]; exact E2 cc y (by omega)
    have E36 : ∀ y : Nat, (y = 62 ∨ y = 64 ∨ y = 66 ∨ y = 9 ∨ y = 52 ∨ y = 88 ∨ y = 97) → m3 160 y = m 160 y := fun y z => by rw [E3' 160 y (by omega) (by omega)]; exact E2 160 y (by omega)
    refine pc_rA ?_; intro _ _ v127 e127
    rw [Int.toNat_natCast, E3 186 _ (by omega) (by omega), TP 186 _ (by omega)] at e127
    rw [show v127 = (((bB X 186 j).toNat : Nat) : Int) by omega]
    have W2 := wfc_p A2
    -- the name
    have X2 : TXE (bK X) (bV X) (bC X) (bW X) (bn X) (bA X) (bB X) u2 m3 := txe_k P.2.1 (fun cc y z => W2.2 cc y (by omega) (by omega)) (fun cc y z => E3 cc y (by omega) (by omega))
    have L2 : PLR u2 m3 := plr_k P.1.1 (fun cc y z => A2.2.2 cc y (by omega) (by omega)) (fun cc y z => by
      rcases z with ⟨z1, z2⟩ | z
      · rw [z1]; exact E36 y (by omega)
      · exact E3 cc y (by omega) (by omega))
    have D2 : MBd m3 := ⟨by rw [E36 62 (by omega)]; exact P.1.2.1.1, by rw [E36 64 (by omega)]; exact P.1.2.1.2⟩
    have Q2 : SPL m3 [] := spl_k P.1.2.2 (fun cc y z => by
      rcases z with ⟨z1, z2⟩ | z
      · rw [z1, z2]; exact E36 66 (by omega)
      · exact E3 cc y (by omega) (by omega))
    refine pc_sv (pc_and (j_tok X2 Q2 L2 D2 T2.2 u7 e7) (fun w ew => ew)) ?_; intro u129 ⟨⟨C7, Q7⟩, e129⟩
    -- the kind
    have X7 := txe_p X2 C7
    have X9 : TXE (bK X) (bV X) (bC X) (bW X) (bn X) (bA X) (bB X) u9 u129.2 := txe_k X7 (fun cc y z => A9.2.2 cc y (by omega) (by omega)) (fun _ _ _ => rfl)
    have L9 : PLR u9 u129.2 := plr_k C7.1 (fun cc y z => A9.2.2 cc y (by omega) (by omega)) (fun _ _ _ => rfl)
    refine pc_sv (pc_and (j_kindM n8 X9 Q7 L9 C7.2.2.2.2.2 (x := mx_X X k j) (pn := (bB X 189 j).toNat) (bp := (bB X 188 j).toNat) x96 hx b182 ⟨vt24, MB.1.2.2.1⟩ MB.1.2.2.2 (by have := MB.2.2.1; omega) (by have := MB.2.2.1; omega) (by have := MB.2.2.1; omega) (by have := MB.2.2.1; omega) (fun i hi => by
      obtain ⟨-, p2, p3, -⟩ := MB.2.2.2.1 i (by omega)
      exact ⟨⟨vp i (by omega), p2.2.1⟩, p2.2.2⟩) u14 e14) (fun w ew => ew)) ?_; intro u131 ⟨⟨C14, Q14⟩, e131⟩
    have X14 := txe_p X9 C14
    have FB : ∀ cc y : Nat, ¬ (cc = 160 ∧ (y = 62 ∨ y = 64 ∨ y = 66)) → ¬ (200 ≤ cc ∧ cc ≤ 205) → u131.2 cc y = m3 cc y := fun cc y z1 z2 => by rw [C14.2.2.2.2.1 cc y z1 z2]; exact C7.2.2.2.2.1 cc y z1 z2
    have FB0 : ∀ y : Nat, ¬ (y = 62 ∨ y = 64 ∨ y = 66 ∨ y = 50 ∨ y = 72) → u131.2 160 y = m2 160 y := fun y z => by rw [FB 160 y (by omega) (by omega)]; exact E3' 160 y (by omega) (by omega)
    have HC : ∀ cc y : Nat, ¬ (cc = 33 ∧ (y = 8 ∨ y = 9 ∨ y = 12)) → ¬ (cc = 2 ∧ y = 10) → ¬ cc = 34 → ¬ (cc = 37 ∨ cc = 38) → ¬ cc = 49 → ¬ (cc = 45 ∧ y = 7) → ¬ cc = 48 → hB cc y = u14.2 cc y := fun cc y z1 z2 z3 z4 z5 z6 z7 => by rw [HB5 cc y z1 z2 z3 z4 z5]; exact A16.2.2 cc y z6 (by omega)
    have PB2 : (PLR hB u131.2 ∧ MBd u131.2 ∧ SPL u131.2 []) ∧ TXE (bK X) (bV X) (bC X) (bW X) (bn X) (bA X) (bB X) hB u131.2 := ⟨⟨plr_k C14.1 (fun cc y z => HC cc y (by omega) (by omega) (by omega) (by omega) (by omega) (by omega) (by omega)) (fun _ _ _ => rfl), C14.2.2.2.2.2, Q14⟩, txe_k X14 (fun cc y z => HC cc y (by omega) (by omega) (by omega) (by omega) (by omega) (by omega) (by omega)) (fun _ _ _ => rfl)⟩
    have SB : SG2 X hB u131.2 := sg2_k S3 (fun cc y z => HBg cc y (by omega) (by omega)) (fun cc y z => FB cc y (by omega) (by omega))
    have zc := U66.1
    have HZ : ∀ y : Nat, ¬ (y = 7 ∨ y = 8) → hB 34 y = u66 34 y := fun y z => HB6 34 y (by omega) (by omega) (by omega) (by omega)
    have TB2 : ∀ cc x : Nat, ((163 ≤ cc ∧ cc ≤ 173) ∨ cc = 177) → u131.2 cc x = bT X cc x := fun cc x z => by rw [FB cc x (by omega) (by omega), E3 cc x (by omega) (by omega)]; exact MT cc x z
    have b88 : u131.2 160 88 = m 160 88 := by rw [FB0 88 (by omega)]; exact E2 160 88 (by omega)
    have MK0 : MKe X hB u131.2 := mke_begin Y SB PB2 ⟨by rw [HZ 1 (by omega)]; exact zc.1, by rw [HZ 3 (by omega)]; exact zc.2.1, by rw [HZ 4 (by omega)]; exact zc.2.2.1, by rw [HZ 10 (by omega)]; exact zc.2.2.2.2.2.1, by rw [HZ 14 (by omega)]; exact zc.2.2.2.2.2.2.1, by rw [HZ 15 (by omega)]; exact zc.2.2.2.2.2.2.2⟩ ⟨by rw [FB0 68 (by omega)]; exact d68, by rw [FB0 70 (by omega)]; exact d70, by rw [FB0 71 (by omega)]; exact d71, by rw [FB0 78 (by omega)]; exact d78, by rw [FB0 79 (by omega)]; exact d79, by rw [FB0 84 (by omega)]; exact d84, by rw [FB0 87 (by omega)]; exact d87⟩ (by rw [FB0 53 (by omega), d53]; exact es) (by rw [FB0 52 (by omega), E2 160 52 (by omega)]; exact m52) (by rw [FB0 9 (by omega), E2 160 9 (by omega)]; exact m9) (by rw [b88]; exact m88) TB2
    refine pc_rA ?_; intro _ _ v133 e133
    rw [Int.toNat_natCast, FB 190 _ (by omega) (by omega), E3 190 _ (by omega) (by omega), TP 190 _ (by omega)] at e133
    rw [e133]
    have I : MGi X (fun _ => False) (fun _ _ => False) [] 0 0 a b p q hB rB y.2 u131.2 := by
      refine ⟨⟨MK0, an_m AM (fun cc x c1 c2 => by rw [FB cc x (by omega) (by omega)]; exact E3 cc x (by omega) (by omega))⟩, ⟨by rw [FB0 57 (by omega)]; exact d57, by rw [b88]; exact mq, by rw [FB0 54 (by omega), r54]; exact d54, by rw [FB0 51 (by omega), r51]; exact d51⟩, fun z => absurd z (by omega), fun p n z => z.elim, fun z => absurd z (by omega)⟩
    refine pc_sv (pc_and (SO.2.2 200 (fun _ => False) (fun _ _ => False) [] 0 0 u131.2 I) (fun w ew => ew)) ?_; intro u135 ⟨⟨en, ⟨Z, MZ, _, zy2, _, _⟩, FW, l1, l2⟩, e135⟩
    rw [zy2 r54, pbz_n, wlz_n, List.append_nil] at MZ
    have K1 : MKe X x.2 u135.2 := MZ
    have F135 : ∀ cc y : Nat, cc = 225 ∨ (cc = 160 ∧ (y = 97 ∨ y = 53 ∨ y = 9)) ∨ (163 ≤ cc ∧ cc ≤ 173) ∨ (178 ≤ cc ∧ cc ≤ 195) → u135.2 cc y = u131.2 cc y := fun cc y z => ff_X13_make nn u135 e135 cc y (nw_of (by unfold wl_X13_make; simp only [List.mem_cons, List.not_mem_nil, or_false]; omega) (by unfold wf_X13_make; simp only [List.mem_cons, List.not_mem_nil, or_false, Prod.mk.injEq]; omega))
    -- from the end of the BLOCK on
    have T164 : ∀ mE : ms_M, MKe X uE mE → (∀ cc y : Nat, cc = 225 ∨ (cc = 160 ∧ (y = 97 ∨ y = 53 ∨ y = 9)) ∨ (163 ≤ cc ∧ cc ≤ 173) ∨ (178 ≤ cc ∧ cc ≤ 195) → mE cc y = u135.2 cc y) → mE 160 88 = u135.2 160 88 → Pc (qj_X13_makeMethod_164 nn (j : Int) u129.1 u131.1 mE) (fun w => (TMu uE ∧ w 160 9 = 11 ∧ w 160 10 = bP X (bB X 186 j).toNat) ∨ (¬ TMu uE ∧ PBX X (B + 20000) u4 w ∧ w 160 9 = 0 ∧ (m 160 88 ≤ w 160 88 ∧ w 160 88 + 4 * (p : Int) ≤ m 160 88 + 4 * (q : Int)))) := fun mE ME FE lE => by
      have e53 : mE 160 53 = 1 - (bF X : Int) := by rw [FE 160 53 (by omega), F135 160 53 (by omega), FB0 53 (by omega), d53]; exact es
      have SCE := ME.1.2.2.2.2.2.2.2
      have e72 := SCE.1.1
      have sE := ME.1.2.2.2.1.1
      have CBE := ME.1.1.1
      have SKE := ME.2.1
      have mE9 : mE 160 9 = 0 := SCE.2.2.2.1
      have TE : ∀ cc x : Nat, (178 ≤ cc ∧ cc ≤ 195) → mE cc x = bB X cc x := fun cc x z => by rw [FE cc x (by omega), F135 cc x (by omega), FB cc x (by omega) (by omega), E3 cc x (by omega) (by omega)]; exact TP cc x z
      have TQ : TBq (bK X) (bP X) (bc X) mE := tbq_f Y.2.2.2.2.1 (fun cc x z => by
        exact SCE.2.2.2.2 cc x (by omega))
      have T227 : ∀ l4 : Int, TMu uE → Pc (qj_X13_makeMethod_227 nn (j : Int) u129.1 u131.1 l4 mE) (fun w => (TMu uE ∧ w 160 9 = 11 ∧ w 160 10 = bP X (bB X 186 j).toNat) ∨ (¬ TMu uE ∧ PBX X (B + 20000) u4 w ∧ w 160 9 = 0 ∧ (m 160 88 ≤ w 160 88 ∧ w 160 88 + 4 * (p : Int) ≤ m 160 88 + 4 * (q : Int)))) := fun l4 tm => by
        unfold qj_X13_makeMethod_227
        refine pc_rA ?_; intro _ _ v108 e108
        rw [Int.toNat_natCast, TE 186 _ (by omega)] at e108
        refine pc_sv (r_wrong TQ (p := (bB X 186 j).toNat) (tb_lt Y.1 (by omega)) mE9 (by omega)) ?_; intro u110 w1
        unfold qj_X13_makeMethod_239
        exact pc_if (fun z => absurd z (by omega)) (fun _ => pc_ret (.inl ⟨tm, w1⟩))
      have T180 : ∀ s1 : Int, s1 = (bF X : Int) → Pc (qj_X13_makeMethod_180 nn (j : Int) u129.1 u131.1 s1 (mE 160 72) mE) (fun w => (TMu uE ∧ w 160 9 = 11 ∧ w 160 10 = bP X (bB X 186 j).toNat) ∨ (¬ TMu uE ∧ PBX X (B + 20000) u4 w ∧ w 160 9 = 0 ∧ (m 160 88 ≤ w 160 88 ∧ w 160 88 + 4 * (p : Int) ≤ m 160 88 + 4 * (q : Int)))) := fun s1 es1 => by
        unfold qj_X13_makeMethod_180
        have r72 : 0 ≤ mE 160 72 ∧ mE 160 72 ≤ 2000000000 := by
          have a1 := SCE.1.2.1
          have a2 := sE.2.1
          omega
        refine pc_add (by omega) ?_; intro v111 e111
        have el : v111 = uE 34 8 := by omega
        refine pc_if (fun z => T227 _ (fun o => by have := o.1.2.1; omega)) (fun z1 => ?_)
        refine pc_if (fun z => T227 _ (fun o => by have := o.1.2.2; have := SKE.2.1; omega)) (fun z2 => ?_)
        refine pc_if (fun z => T227 _ (fun o => by have := o.1.1; have := CBE.1; omega)) (fun z3 => ?_)
        have o : OKM uE := ⟨by have := CBE.1; omega, by omega, by have := SKE.2.1; omega⟩
        have mu := much_e ME o
        refine pc_if (fun z => T227 _ (fun o => by
          rcases mu with y | y
          · omega
          · exact y.1 o.2)) (fun z4 => ?_)
        refine pc_if (fun z5 => ?_) (fun z => T227 _ (fun o => by
          rcases mu with y | y
          · omega
          · exact y.1 o.2))
        have f0 : uE 34 15 = 0 := by
          rcases mu with y | y
          · exact y.1
          · omega
        have ntm : ¬ TMu uE := fun z => z ⟨o, f0⟩
        unfold qj_X13_makeMethod_239
        refine pc_if (fun _ => ?_) (fun z => absurd mE9 z)
        -- the bytes of class and reference
        have XF : ∀ cc y : Nat, (cc = 45 ∧ y = 7) ∨ cc = 48 → uE cc y = u57 cc y := fun cc y z => by
          have a1 : x.2 cc y = hB cc y := SO.2.1.2.1.2.1.1 cc y (by omega)
          have a2 : uE cc y = x.2 cc y := by
            rcases hE with ⟨-, e⟩ | ⟨-, e⟩
            · rw [e]
            · exact e.2.2 cc y (by omega) (by omega)
          rw [a2, a1]; exact HB5 cc y (by omega) (by omega) (by omega) (by omega) (by omega)
        have X5 : uE 45 5 = 0 → u57 45 5 = 0 := fun z => by
          have a0 := HB5 45 5 (by omega) (by omega) (by omega) (by omega) (by omega)
          have a2 : uE 45 5 = x.2 45 5 := by
            rcases hE with ⟨-, e⟩ | ⟨-, e⟩
            · rw [e]
            · exact e.2.2 45 5 (by omega) (by omega)
          rcases PB2.1.1 with ⟨y, -⟩ | ⟨y, -⟩
          · omega
          · have := (f5_qf_X0_readBlock y x ex).1
            omega
        have Z5 : u57 45 5 = u14.2 45 5 := A16.2.2 45 5 (by omega) (by omega)
        have Z4 : u14.2 45 5 = 0 → u9 45 5 = 0 := fun z => by
          rcases L9 with ⟨y, -⟩ | ⟨y, -⟩
          · exact y
          · have := C14.2.2.1 y; omega
        have Z3 : u9 45 5 = u7.2 45 5 := A9.2.2 45 5 (by omega) (by omega)
        have Z2 : u7.2 45 5 = 0 → u2 45 5 = 0 := fun z => by
          rcases L2 with ⟨y, -⟩ | ⟨y, -⟩
          · exact y
          · have := C7.2.2.1 y; omega
        have BE : BYS B h mE := bys_c P.2.2 (fun z => z) rfl (fun _ => rfl) (by rw [FE 160 97 (by omega), F135 160 97 (by omega), FB0 97 (by omega)]; exact E2 160 97 (by omega)) (fun x => by rw [FE 225 x (by omega), F135 225 x (by omega), FB 225 x (by omega) (by omega)]; exact E3 225 x (by omega) (by omega))
        have T260 : ∀ s2 : Int, s2 = 1 - (bF X : Int) → Pc (qj_X13_makeMethod_260 nn u129.1 u131.1 v111 s2 mE) (fun w => (TMu uE ∧ w 160 9 = 11 ∧ w 160 10 = bP X (bB X 186 j).toNat) ∨ (¬ TMu uE ∧ PBX X (B + 20000) u4 w ∧ w 160 9 = 0 ∧ (m 160 88 ≤ w 160 88 ∧ w 160 88 + 4 * (p : Int) ≤ m 160 88 + 4 * (q : Int)))) := fun s2 es2 => by
          unfold qj_X13_makeMethod_260
          have be := BE.1
          refine pc_sv (r_tellb (by omega)) ?_; intro t1 R1
          have B1 := bys_p BE (fun _ => by rw [es2]) A2 R1
          have B1' : BYS (B + 1) u7.2 t1 := bys_c B1 Z2 (C7.2.2.2.1 45 7 (by omega) (by omega) (by omega)) (fun x => C7.2.2.2.1 48 x (by omega) (by omega) (by omega)) rfl (fun _ => rfl)
          have b1 := B1.1
          refine pc_sv (r_tellb (by omega)) ?_; intro t2 R2
          have B2 := bys_p B1' (fun z => by rw [(C7.2.1 z).1]) A9 R2
          have B2' : BYS (B + 1 + 1) u14.2 t2 := bys_c B2 Z4 (C14.2.2.2.1 45 7 (by omega) (by omega) (by omega)) (fun x => C14.2.2.2.1 48 x (by omega) (by omega) (by omega)) rfl (fun _ => rfl)
          have b2 := B2.1
          refine pc_sv (r_tellb (by omega)) ?_; intro t3 R3
          have B3 := bys_p B2' (fun z => by rw [(C14.2.1 z).1]) A16 R3
          have B3' : BYS (B + 3) uE t3 := by
            rw [show B + 3 = B + 1 + 1 + 1 by omega]
            exact bys_c B3 X5 (XF 45 7 (by omega)) (fun x => XF 48 x (by omega)) rfl (fun _ => rfl)
          have WE : WFr mE t3 := wfr_t (wfr_t (wfr_p R1) (wfr_p R2)) (wfr_p R3)
          have EE : ∀ cc y : Nat, ¬ (cc = 160 ∧ y = 97) → ¬ cc = 225 → t3 cc y = mE cc y := fun cc y z1 z2 => by rw [R3.2.2 cc y z1 (by omega), R2.2.2 cc y z1 (by omega), R1.2.2 cc y z1 (by omega)]
          have PE := mk_pl ME
          have P3 : PBX X (B + 3) uE t3 := ⟨⟨plr_k PE.1 (fun _ _ _ => rfl) (fun cc y z => EE cc y (by omega) (by omega)), ⟨by rw [EE 160 62 (by omega) (by omega)]; exact PE.2.1.1, by rw [EE 160 64 (by omega) (by omega)]; exact PE.2.1.2⟩, spl_k PE.2.2.1 (fun cc y z => EE cc y (by omega) (by omega))⟩, txe_k PE.2.2.2 (fun _ _ _ => rfl) (fun cc y z => EE cc y (by omega) (by omega)), B3'⟩
          have b3 := B3'.1
          obtain ⟨-, -, JW⟩ := j_write (nn := nn) (B := B + 3) Y ME o f0 (by omega) (by omega) el u4 e4
          refine pc_imp (JW t3 WE P3) (fun w ⟨y1, y2⟩ => .inr ⟨ntm, ⟨y1.1, y1.2.1, ⟨by have := y1.2.2.1; omega, by have := y1.2.2.1; omega⟩, y1.2.2.2⟩, by rw [y2 160 9 (by omega) (by omega) (by omega)]; exact mE9, ?_⟩)
          rw [y2 160 88 (by omega) (by omega) (by omega), lE]
          omega
        exact pc_if (fun z => T260 0 (by omega)) (fun z => T260 1 (by omega))
      unfold qj_X13_makeMethod_164
      exact pc_if (fun z => T180 1 (by omega)) (fun z => T180 0 (by omega))
    rw [en]
    refine pc_if (fun z => ?_) (fun z => ?_)
    · rcases hE with ⟨-, e⟩ | ⟨z2, -⟩
      · exact T164 u135.2 (by rw [e]; exact K1) (fun _ _ _ => rfl) rfl
      · exact absurd z z2
    · rcases hE with ⟨z2, -⟩ | ⟨-, A⟩
      · exact absurd z2 z
      · have cbx := K1.1.1.1
        have lx := SO.2.1.2.2.1.2.1
        have lh : hB 34 1 = 0 := MK0.1.1.1.1.trans ((FB0 68 (by omega)).trans d68)
        refine pc_sv (r_put (by omega)) ?_; intro u137 RP
        exact T164 u137 (mk_op K1 A RP (fun _ => rfl) (by unfold in_R; omega)) (fun cc y z => RP.2.2 cc y (by omega) (by omega)) (RP.2.2 160 88 (by omega) (by omega))
  exact pc_if (fun z => T21 0 (by omega)) (fun z => T21 1 (by omega))
end
end
section
/- a method, whole -/
/-- what class and rules leave of a method -/
def JMr (nn : Nat) (X : BCx) (j : Nat) (a b : Int) (p q : Nat) (h r u v : ms_M) : Prop := JBw X u v ∧ (∀ cc y : Nat, ¬ (cc = 160 ∧ (y = 50 ∨ y = 51 ∨ y = 52 ∨ y = 53 ∨ y = 54 ∨ y = 57)) → ¬ (174 ≤ cc ∧ cc ≤ 176 ∧ a ≤ (y : Int) ∧ (y : Int) < b) → ¬ (196 ≤ cc ∧ cc ≤ 199) → ¬ (cc = 160 ∧ y = 10) → v cc y = r cc y) ∧ ∃ TM : Prop, ((TM ∧ (h 33 7 = -1 → u 33 7 = bB X 186 j) ∧ (¬ h 33 7 = -1 → u 33 7 = h 33 7)) ∨ (¬ TM ∧ u 33 7 = h 33 7)) ∧ ∀ (B : Int) (m : ms_M), MPr X B a b p q h v m → Pc (qf_X13_makeMethod nn (j : Int) m) (fun w => (TM ∧ w 160 9 = 11 ∧ w 160 10 = bP X (bB X 186 j).toNat) ∨ (¬ TM ∧ PBX X (B + 20000) u w ∧ w 160 9 = 0 ∧ (m 160 88 ≤ w 160 88 ∧ w 160 88 + 4 * (p : Int) ≤ m 160 88 + 4 * (q : Int))))
section
variable {nn : Nat} {X : BCx} {B a b : Int} {k j p q : Nat} {h g u r v m w : ms_M}
theorem pbx_h (P : PBX X B h m) (e : ∀ cc y : Nat, (45 ≤ cc ∧ cc ≤ 48) ∨ (6 ≤ cc ∧ cc ≤ 9) ∨ (17 ≤ cc ∧ cc ≤ 30) ∨ (cc = 2 ∧ y = 9) → g cc y = h cc y) : PBX X B g m := by
  obtain ⟨⟨p1, p2, p3⟩, p4, p5⟩ := P
  exact ⟨⟨plr_k p1 (fun cc y z => e cc y (by omega)) (fun _ _ _ => rfl), p2, p3⟩, txe_k p4 (fun cc y z => e cc y (by omega)) (fun _ _ _ => rfl), bys_c p5 (fun z => by rw [← e 45 5 (by omega)]; exact z) (e 45 7 (by omega)) (fun x => e 48 x (by omega)) rfl (fun _ => rfl)⟩
theorem c_much {uE : ms_M} (W : WFc uE u) : Pc (qf_X1_isTooMuch nn u) (fun y => (y = 1 ∧ TMu uE) ∨ (y = 0 ∧ ¬ TMu uE)) := by
  have e15 := W.2 34 15 (by omega) (by omega)
  have e1 := W.2 34 1 (by omega) (by omega)
  have e8 := W.2 34 8 (by omega) (by omega)
  have e4 := W.2 34 4 (by omega) (by omega)
  unfold qf_X1_isTooMuch
  refine pc_if (fun z => pc_ret (.inl ⟨rfl, fun o => by have := o.2; omega⟩)) (fun z => ?_)
  refine pc_if (fun z1 => pc_ret (.inl ⟨rfl, fun o => by have := o.1.1; omega⟩)) (fun z1 => ?_)
  refine pc_if (fun z2 => pc_ret (.inl ⟨rfl, fun o => by have := o.1.2.1; omega⟩)) (fun z2 => ?_)
  refine pc_if (fun z3 => pc_ret (.inr ⟨rfl, fun t => t ⟨⟨by omega, by omega, by omega⟩, by omega⟩⟩)) (fun z3 => pc_ret (.inl ⟨rfl, fun o => by have := o.1.2.2; omega⟩))
theorem c_wrf : Pc (qf_X1_writeTo nn h) (fun u => WFc h u) := fun u eu => ⟨fun z => (f5_qf_X1_writeTo z u eu).1.trans z, fun cc y z1 z2 => ff_X1_writeTo nn u eu cc y (nw_of (by unfold wl_X1_writeTo; simp only [List.mem_cons, List.not_mem_nil, or_false]; omega) (by unfold wf_X1_writeTo; simp only [List.mem_cons, List.not_mem_nil, or_false, Prod.mk.injEq]; omega))⟩
/-- the class's end of a method -/
theorem c_199 (Y : CXs X) (M : MTm X k j) {uE : ms_M} (G : ∀ cc x : Nat, (17 ≤ cc ∧ cc ≤ 29) → uE cc x = bA X cc x) : Pc (qj_X0_makeMethod_199 nn ((mx_X X k j : Nat) : Int) uE) (fun u => ∃ u4, qf_X1_writeTo nn uE = some u4 ∧ WFc uE u4 ∧ ((TMu uE ∧ uE 33 7 = -1 ∧ u = up_M u4 33 7 (bB X 186 j)) ∨ (u = u4 ∧ (TMu uE → ¬ uE 33 7 = -1)))) := by
  unfold qj_X0_makeMethod_199
  refine pc_se ?_; intro u4 e4
  have W := c_wrf u4 e4
  have e7 := W.2 33 7 (by omega) (by omega)
  refine pc_sv (c_much W) ?_; intro u7 q7
  refine pc_sv (c_mTok Y M (fun cc x z => by rw [W.2 cc x (by omega) (by omega)]; exact G cc x z)) ?_; intro u10 q10
  rw [q10]
  refine pc_sv (P := fun u => (TMu uE ∧ uE 33 7 = -1 ∧ u = up_M u4 33 7 (bB X 186 j)) ∨ (u = u4 ∧ (TMu uE → ¬ uE 33 7 = -1))) ?_ (fun u hu => pc_ret ⟨u4, e4, W, hu⟩)
  unfold qf_X0_noteMuch
  refine pc_if (fun z => pc_ret (.inr ⟨rfl, fun t => ?_⟩)) (fun z => ?_)
  · rcases q7 with y | y
    · omega
    · exact absurd t y.2
  · have tm : TMu uE := by
      rcases q7 with y | y
      · exact y.2
      · omega
    refine pc_if (fun z7 => pc_ret (.inr ⟨rfl, fun _ => by omega⟩)) (fun z7 => ?_)
    refine pc_xl ?_; intro h2 e2
    have z7' : u4 33 7 = -1 := Classical.byContradiction z7
    exact pc_ret (.inl ⟨tm, by omega, e2⟩)
theorem j_meth (Y : CXs X) (Wb : BRw X) (M : MTm X k j) (LK : LKn 0 (bK X) (bT X) 8 0 0 a b (p : Int) (q : Int) (bB X 190 j)) (nb : b ≤ 8999) (e23 : bA X 23 (mx_X X k j) = (p : Int)) (J : JBw X h r) (U : UNr X a b r) {fuel : Nat} {Z : ms_M → ms_M → Prop} (HN : ∀ u v : ms_M, qf_X0_makeMethod nn (k : Int) ((mcn_T (bB X) k 1 j : Nat) : Int) h = some u → (SFj u v ∨ JMr nn X j a b p q h r u v) → Pc (qw_X13_bodies_2 nn fuel ((j + 1 : Nat) : Int) v) (fun y => Z u y)) : Pc (qf_X0_makeMethod nn (k : Int) ((mcn_T (bB X) k 1 j : Nat) : Int) h) (fun u => Pc (qw_X13_bodies_2 nn (fuel + 1) (j : Int) r) (fun y => Z u y)) := by
  intro u eu
  have n8 := Y.2.2.1
  obtain ⟨⟨x96, hx⟩, MB, T2, vt24, b188, vp⟩ := mt_row Y M
  have H8 : S8 nn X 0 a b p q (bB X 190 j) := (s_all Y Wb LK (by omega) nb p q rfl rfl).2.2 rfl
  have kp := lk_8k LK rfl
  rw [Int.toNat_natCast] at kp
  have pc : p < bc X := tb_lt Y.1 (by omega)
  have c3 := Y.1.2.1
  refine c_mbeg (Z := fun u' => u' = u → Pc (qw_X13_bodies_2 nn (fuel + 1) (j : Int) r) (fun y => Z u y)) Y M J (fun h0 g hB C => ?_) u eu rfl
  have C0 := C
  obtain ⟨u57, u66, e57, W57, U66, hh, CP, eB⟩ := C0
  refine pc_se ?_; intro x ex
  intro u' e' eq
  rw [eq] at e'
  refine r_mrul M J (fun r0 R0 j8 => ?_)
  have BX0 := bx_m0 Y M J W57 U66 hh R0
  have z7 := U66.1.2.2.2.1
  have s7 : h0 34 7 ≤ 10 := by
    rcases hh with ⟨-, A⟩ | ⟨-, e⟩
    · rw [A.1]; omega
    · rw [e]; omega
  refine r_pars Y M BX0 CP s7 (fun r1 B1 E1 => ?_)
  have B2 := B1.2.2.2.2.2.2.1
  refine pc_rA ?_; intro _ _ v4 e4
  rw [Int.toNat_natCast, B2 190 _ (by omega)] at e4
  rw [e4]
  -- ahead of the BLOCK
  obtain ⟨c7, CF⟩ := cpr_f _ _ _ CP
  have H0 : ∀ cc y : Nat, ¬ (cc = 34 ∧ (y = 7 ∨ y = 8)) → ¬ (cc = 37 ∨ cc = 38) → h0 cc y = u66 cc y := fun cc y z1 z2 => by
    rcases hh with ⟨-, A⟩ | ⟨-, e⟩
    · exact A.2.2.2 cc y z1 (by omega)
    · rw [e]
  have HBg : ∀ cc y : Nat, ¬ (cc = 33 ∧ (y = 8 ∨ y = 9 ∨ y = 12)) → ¬ (cc = 2 ∧ y = 10) → hB cc y = g cc y := fun cc y z1 z2 => by rw [eB, up_n (by omega), up_n (by omega), up_n (by omega), up_n (by omega)]
  have HB6 : ∀ cc y : Nat, ¬ (cc = 33 ∧ (y = 8 ∨ y = 9 ∨ y = 12)) → ¬ (cc = 2 ∧ y = 10) → ¬ (cc = 34 ∧ (y = 7 ∨ y = 8)) → ¬ (cc = 37 ∨ cc = 38) → hB cc y = u66 cc y := fun cc y z1 z2 z3 z4 => by rw [HBg cc y z1 z2, CF cc y z3 z4]; exact H0 cc y z3 z4
  have HB5 : ∀ cc y : Nat, ¬ (cc = 33 ∧ (y = 8 ∨ y = 9 ∨ y = 12)) → ¬ (cc = 2 ∧ y = 10) → ¬ cc = 34 → ¬ (cc = 37 ∨ cc = 38) → ¬ cc = 49 → ¬ (45 ≤ cc ∧ cc ≤ 48) → hB cc y = h cc y := fun cc y z1 z2 z3 z4 z5 z6 => by rw [HB6 cc y z1 z2 (by omega) z4, U66.2.2 cc y (by omega) (by omega)]; exact W57.2 cc y (by omega) (by omega)
  have p10 : hB 2 10 = (p : Int) := by rw [eB, up_s]; exact e23
  have h12 : hB 33 12 = 0 := by rw [eB, up_n (by omega), up_s]
  have h9 : hB 33 9 = -1 := by rw [eB, up_n (by omega), up_n (by omega), up_s]
  have h8 : hB 33 8 = bA X 24 (mx_X X k j) := by rw [eB, up_n (by omega), up_n (by omega), up_n (by omega), up_s]
  have BB : BX X hB r1 := bx_k B1 (fun cc x z => HBg cc x (by omega) (by omega)) (fun _ _ _ => rfl)
  have zc := U66.1
  have HZ : ∀ y : Nat, ¬ (y = 7 ∨ y = 8) → hB 34 y = u66 34 y := fun y z => HB6 34 y (by omega) (by omega) (by omega) (by omega)
  have r19 : r1 160 9 = 0 := by rw [E1 160 9 (by omega) (by omega), R0.2 160 9 (by omega)]; exact J.2.1.2
  have r154 : r1 160 54 = 0 := by rw [E1 160 54 (by omega) (by omega)]; exact R0.1.2.2.2.2.1
  have r151 : r1 160 51 = (j : Int) := by rw [E1 160 51 (by omega) (by omega)]; exact R0.1.1
  have r157 : r1 160 57 = 0 := by rw [E1 160 57 (by omega) (by omega)]; exact R0.1.2.2.2.2.2
  have ff1 : hB 2 11 = 0 := by rw [HB5 2 11 (by omega) (by omega) (by omega) (by omega) (by omega) (by omega)]; exact J.2.1.1
  have FC : FRc hB := by
    have e14 : hB 34 14 = 0 := by rw [HZ 14 (by omega)]; exact zc.2.2.2.2.2.2.1
    exact ⟨⟨by omega, by omega, fun s hs => absurd hs (by omega)⟩, fun i hi => absurd hi (by omega), fun i j _ hj => absurd hj (by omega), fun s hs => absurd hs (by omega)⟩
  have l1 : hB 34 1 = 0 := by rw [HZ 1 (by omega)]; exact zc.1
  have l3 : hB 34 3 = 0 := by rw [HZ 3 (by omega)]; exact zc.2.1
  have l7 : hB 34 7 ≤ 7 := by
    have a := HBg 34 7 (by omega) (by omega)
    have b := MB.2.2.1
    have f1 : h0 34 7 ≤ 1 := by
      rcases hh with ⟨f, A⟩ | ⟨f, e⟩
      · rw [A.1]; omega
      · rw [e]; omega
    omega
  have l10 : hB 49 10 = 0 := by rw [HB6 49 10 (by omega) (by omega) (by omega) (by omega)]; exact U66.2.1.2.2.2
  have l18 : hB 49 18 = -1 := by rw [HB6 49 18 (by omega) (by omega) (by omega) (by omega)]; exact U66.2.1.2.2.1
  have bp := Wb.2.2 p pc
  have SP : SPq X 0 p 0 hB r1 := by
    refine ⟨⟨BB, ⟨p10, pc, ff1, r19⟩, ⟨FC, by omega, by omega, by omega⟩, by omega, by omega, by omega⟩, ⟨l3, l10, r157, by omega⟩, ⟨⟨⟨by omega, by omega⟩, .inl ⟨r154, h9⟩⟩, ⟨by omega, by omega⟩, by omega⟩, ⟨by rw [h8]; exact vt24, by rw [h8]; exact MB.1.2.2.1⟩, ⟨by omega, ?_⟩, ?_⟩
    · rw [r151]; exact j8
    · rw [r151, Int.toNat_natCast, B2 187 _ (by omega), h8]; exact MB.1.2.2.2
  have U1 : UNr X a b r1 := unr_k U ⟨Int.le_refl _, Int.le_refl _⟩ (fun cc x c1 c2 c4 c5 => by rw [E1 cc x (by omega) (by omega)]; exact R0.2 cc x (by omega))
  refine pc_sv (show Pc (qf_X13_ruled nn (bB X 190 j) r1) _ from H8 240 200 hB r1 0 SP U1 x ex) ?_; intro y hy
  have NX : ∀ v0 : Int, v0 = (j : Int) + 1 → v0 = ((j + 1 : Nat) : Int) := fun v0 e => by omega
  rcases hy with S | SO
  · -- a FAULT of the BLOCK
    have G := fsg_X0_readBlock nn 240
    have FX : Pc (if x.1 = 0 then (qj_X0_makeMethod_199 nn ((mx_X X k j : Nat) : Int) x.2) else (if (x.2 33 8) = 303 then (qj_X0_makeMethod_189 nn ((mx_X X k j : Nat) : Int) x.2) else (mx_sv (qf_X2_tokenOfMethod nn ((mx_X X k j : Nat) : Int) x.2) fun u36 => mx_sv (qf_X9_tell nn 8 u36 x.2) fun u38 => qj_X0_makeMethod_189 nn ((mx_X X k j : Nat) : Int) u38))) (fun u => FSc x.2 u) := by
      refine pc_if (fun _ => fs_qj_X0_makeMethod_199 S.1) (fun _ => ?_)
      refine pc_if (fun _ => fs_qj_X0_makeMethod_189 S.1) (fun _ => ?_)
      refine pc_se ?_; intro u36 _
      refine pc_sv (fs_qf_X9_tell S.1) ?_; intro u38 F
      exact pc_imp (fs_qj_X0_makeMethod_189 (fs_n S.1 F)) (fun _ q => fs_t F q)
    have S2 := sf_c S (FX u e')
    refine pc_if (fun _ => ?_) (fun _ => ?_)
    · refine pc_add (by omega) ?_; intro v7 e7
      rw [NX v7 e7]
      exact HN u y.2 eu (.inl S2)
    · refine pc_rA ?_; intro _ _ v9 _
      refine pc_if (fun _ => ?_) (fun _ => ?_)
      · refine pc_add (by omega) ?_; intro v10 e10
        rw [NX v10 e10]
        exact HN u y.2 eu (.inl S2)
      · refine pc_rA ?_; intro _ _ v12 _
        refine pc_sv (ft_qf_X13_wrong (sf_r S2)) ?_; intro u14 F
        refine pc_add (by omega) ?_; intro v15 e15
        rw [NX v15 e15]
        exact HN u u14 eu (.inl ⟨S2.1, by rw [F.1]; exact S2.2.1, by rw [F.2]; exact S2.2.2⟩)
  · have SO0 := SO
    obtain ⟨⟨en1, en2⟩, SK, -⟩ := SO
    have x8 : x.2 33 8 = bA X 24 (mx_X X k j) := by rw [SK.2.1.2.1.1 33 8 (by omega)]; exact h8
    have BX2 := SK.2.1.1
    have Ty := BX2.2.2.2.2.2.2.1
    have G2 : ∀ cc x' : Nat, (17 ≤ cc ∧ cc ≤ 29) → x.2 cc x' = bA X cc x' := BX2.2.2.2.2.2.2.2.1
    have J2 : JBw X x.2 y.2 := jb_bx BX2 SK.1.2.2.2.1 SK.1.2.2.2.2
    have lx := SK.2.2.1.2.1
    have lx0 := SK.2.1.2.1.2.2.2.2.1
    have qcx := SK.1.2.1
    -- the rules' frame
    have RF : ∀ cc y' : Nat, ¬ (cc = 160 ∧ (y' = 50 ∨ y' = 51 ∨ y' = 52 ∨ y' = 53 ∨ y' = 54 ∨ y' = 57)) → ¬ (174 ≤ cc ∧ cc ≤ 176 ∧ a ≤ (y' : Int) ∧ (y' : Int) < b) → ¬ (196 ≤ cc ∧ cc ≤ 199) → ¬ (cc = 160 ∧ y' = 10) → y.2 cc y' = r cc y' := fun cc y' z1 z2 z3 z4 => by
      have e2 : r1 cc y' = r cc y' := by rw [E1 cc y' (by omega) (by omega)]; exact R0.2 cc y' z1
      by_cases c4 : 174 ≤ cc ∧ cc ≤ 176
      · rw [SK.2.1.2.2.2.1 cc y' c4.1 c4.2 (by omega)]; exact e2
      · by_cases c9 : cc = 160 ∧ y' = 9
        · rw [c9.1, c9.2, SK.1.2.2.2.2]; exact J.2.1.2.symm
        · rw [SK.2.1.2.2.1 cc y' (by omega)]; exact e2
    -- the end of both sides
    have FIN : ∀ uE : ms_M, ((x.1 = 0 ∧ uE = x.2) ∨ (¬ x.1 = 0 ∧ COp 177 x.2 uE)) → qj_X0_makeMethod_199 nn ((mx_X X k j : Nat) : Int) uE = some u → JMr nn X j a b p q h r u y.2 := fun uE hE e9 => by
      have EE : ∀ cc y' : Nat, ¬ (cc = 34 ∧ y' = 1) → ¬ cc = 35 → uE cc y' = x.2 cc y' := fun cc y' z1 z2 => by
        rcases hE with ⟨-, e⟩ | ⟨-, e⟩
        · rw [e]
        · exact e.2.2 cc y' z1 (by omega)
      obtain ⟨u4, e4', W4, hu⟩ := c_199 Y M (fun cc x' z => by rw [EE cc x' (by omega) (by omega)]; exact G2 cc x' z) u e9
      have UF : ∀ cc y' : Nat, ¬ (cc = 33 ∧ y' = 7) → u cc y' = u4 cc y' := fun cc y' z => by
        rcases hu with ⟨-, -, e⟩ | ⟨e, -⟩
        · rw [e, up_n z]
        · rw [e]
      have e337 : uE 33 7 = h 33 7 := by
        rw [EE 33 7 (by omega) (by omega), SK.2.1.2.1.1 33 7 (by omega)]
        exact HB5 33 7 (by omega) (by omega) (by omega) (by omega) (by omega) (by omega)
      have u47 : u4 33 7 = h 33 7 := by rw [W4.2 33 7 (by omega) (by omega)]; exact e337
      refine ⟨jb_k J2 (fun cc x' z => by rw [UF cc x' (by omega), W4.2 cc x' (by omega) (by omega)]; exact EE cc x' (by omega) (by omega)) (fun _ _ _ => rfl), RF, TMu uE, ?_, fun B m MP => ?_⟩
      · rcases hu with ⟨t1, t2, t3⟩ | ⟨t1, t2⟩
        · exact .inl ⟨t1, fun _ => by rw [t3, up_s], fun z => absurd (e337.symm.trans t2) z⟩
        · by_cases tm : TMu uE
          · exact .inl ⟨tm, fun z => absurd (e337.trans z) (t2 tm), fun _ => by rw [t1]; exact u47⟩
          · exact .inr ⟨tm, by rw [t1]; exact u47⟩
      · refine pc_imp (m_meth Y M J C r154 r151 SO0 ex hE e4' MP) (fun w hw => ?_)
        rcases hw with y1 | ⟨y1, y2, y3⟩
        · exact .inl y1
        · exact .inr ⟨y1, pbx_h y2 (fun cc y' z => UF cc y' (by omega)), y3⟩
    by_cases x0 : x.1 = 0
    · rw [if_pos x0] at e'
      refine pc_if (fun _ => ?_) (fun z => absurd (show y.1 = 0 by rw [← en1]; exact x0) z)
      refine pc_add (by omega) ?_; intro v7 e7
      rw [NX v7 e7]
      exact HN u y.2 eu (.inr (FIN x.2 (.inl ⟨x0, rfl⟩) e'))
    · rw [if_neg x0, x8] at e'
      refine pc_if (fun z => absurd (show x.1 = 0 by rw [en1]; exact z) x0) (fun _ => ?_)
      refine pc_rA ?_; intro _ _ v9 e9
      rw [Int.toNat_natCast, Ty 187 _ (by omega), MB.1.2.2.2] at e9
      have t3 := ty_3 (X := X) n8 vt24
      by_cases r3 : bA X 24 (mx_X X k j) = 303
      · rw [if_pos r3] at e'
        refine pc_if (fun _ => ?_) (fun z => absurd (show v9 = 3 by rw [e9]; exact t3.mpr r3) z)
        refine pc_add (by omega) ?_; intro v10 e10
        rw [NX v10 e10]
        have OP : Pc (qj_X0_makeMethod_189 nn ((mx_X X k j : Nat) : Int) x.2) (fun u => ∃ uE, COp 177 x.2 uE ∧ qj_X0_makeMethod_199 nn ((mx_X X k j : Nat) : Int) uE = some u) := by
          unfold qj_X0_makeMethod_189
          refine pc_sv (c_op (by omega)) ?_; intro uE A
          exact fun u eu => ⟨uE, A, eu⟩
        obtain ⟨uE, A, e9'⟩ := OP u e'
        exact HN u y.2 eu (.inr (FIN uE (.inr ⟨x0, A⟩) e9'))
      · rw [if_neg r3] at e'
        refine pc_if (fun z => absurd (t3.mp (by rw [← e9]; exact z)) r3) (fun _ => ?_)
        refine pc_rA ?_; intro _ _ v12 e12
        rw [Int.toNat_natCast, Ty 186 _ (by omega)] at e12
        have tkc : (bB X 186 j).toNat < bc X := tb_lt Y.1 (by omega)
        refine pc_sv (r_wrong BX2.1.1.2.2.1 (p := (bB X 186 j).toNat) tkc J2.2.1.2 (by omega)) ?_; intro u14 w1
        refine pc_add (by omega) ?_; intro v15 e15
        rw [NX v15 e15]
        have TL : Pc (mx_sv (qf_X2_tokenOfMethod nn ((mx_X X k j : Nat) : Int) x.2) fun u36 => mx_sv (qf_X9_tell nn 8 u36 x.2) fun u38 => qj_X0_makeMethod_189 nn ((mx_X X k j : Nat) : Int) u38) (fun u => u 2 11 = 8 ∧ u 2 12 = bP X (bB X 186 j).toNat) := by
          refine pc_sv (c_mTok Y M G2) ?_; intro u36 q36
          refine pc_sv (c_tell BX2.1.1.1.1 J2.2.1.1 (t := (bB X 186 j).toNat) tkc (by omega)) ?_; intro u38 ⟨s1, _⟩
          exact pc_imp (fs_qj_X0_makeMethod_189 (by omega)) (fun u F => ⟨by rw [F.1]; exact s1.1, by rw [F.2]; exact s1.2⟩)
        obtain ⟨s1, s2⟩ := TL u e'
        exact HN u u14 eu (.inl (sf_mk (c := 8) (pl := bP X (bB X 186 j).toNat) (by decide) s1 s2 w1.1 w1.2))
end
end
section
/- a class: its head on both sides -/
/-- what the making wants of the reference's memory -/
def BAm (X : BCx) (h m : ms_M) : Prop := TXE (bK X) (bV X) (bC X) (bW X) (bn X) (bA X) (bB X) h m ∧ (m 160 9 = 0 ∧ m 160 24 = (bn X : Int) ∧ m 160 28 = (bM X : Int)) ∧ ∀ cc x : Nat, ((163 ≤ cc ∧ cc ≤ 173) ∨ cc = 177) → m cc x = bT X cc x
/-- what the making of a class leaves -/
def MCf (m w : ms_M) : Prop := ∀ cc y : Nat, ¬ (cc = 160 ∧ (y = 52 ∨ y = 62 ∨ y = 64 ∨ y = 66 ∨ y = 97)) → ¬ (200 ≤ cc ∧ cc ≤ 205) → ¬ cc = 225 → w cc y = m cc y
/-- a field of the class: name and kind -/
def FDm (nn : Nat) (X : BCx) (x : Nat) (h g : ms_M) : Prop := ∃ (u15 : Int × ms_M) (u17 : ms_M) (u22 : Int × ms_M), qf_X6_constant nn 1 (bA X 18 x) h = some u15 ∧ CPt u15.1 u15.2 u17 ∧ qf_X6_constant nn 1 (u17 20 x) u17 = some u22 ∧ CPt u22.1 u22.2 g
def CFL (nn : Nat) (X : BCx) (k n : Nat) (h g : ms_M) : Prop := ∃ f : Nat → ms_M, f 0 = h ∧ f n = g ∧ ∀ i : Nat, i < n → FDm nn X (12 * k + i) (f i) (f (i + 1))
section
variable {nn : Nat} {X : BCx} {B v v2 : Int} {k j i n : Nat} {h g u r m m0 w : ms_M}
theorem cfl_0 : CFL nn X k 0 h h := ⟨fun _ => h, rfl, rfl, fun i hi => absurd hi (by omega)⟩
theorem cfl_s (C : CFL nn X k n h g) (A : FDm nn X (12 * k + n) g u) : CFL nn X k (n + 1) h u := by
  obtain ⟨f, f0, f1, f2⟩ := C
  refine ⟨fun s => if s ≤ n then f s else u, ?_, ?_, fun i hi => ?_⟩
  · show (if 0 ≤ n then f 0 else u) = h
    rw [if_pos (by omega)]; exact f0
  · show (if n + 1 ≤ n then f (n + 1) else u) = u
    rw [if_neg (by omega)]
  · show FDm nn X (12 * k + i) (if i ≤ n then f i else u) (if i + 1 ≤ n then f (i + 1) else u)
    by_cases q : i = n
    · rw [q, if_pos (Nat.le_refl _), if_neg (by omega), f1]; exact A
    · rw [if_pos (by omega), if_pos (by omega)]; exact f2 i (by omega)
theorem fld_f {x : Nat} (F : FDm nn X x h g) : WFc h g ∧ g 45 7 = h 45 7 + 2 := by
  obtain ⟨u15, u17, u22, e15, A17, e22, A24⟩ := F
  have E15 := c_cfr u15 e15
  have E22 := c_cfr u22 e22
  refine ⟨wfc_t (wfc_c E15 (c_k5 u15 e15)) (wfc_t (wfc_p A17) (wfc_t (wfc_c E22 (c_k5 u22 e22)) (wfc_p A24))), ?_⟩
  rw [A24.1, E22 45 7 (by omega) (by omega) (by omega), A17.1, E15 45 7 (by omega) (by omega) (by omega)]
  omega
theorem cfl_f : ∀ (n : Nat) (h g : ms_M), CFL nn X k n h g → WFc h g ∧ g 45 7 = h 45 7 + 2 * n := by
  intro n
  induction n with
  | zero =>
    intro h g ⟨f, f0, f1, _⟩
    rw [← f1, f0]
    exact ⟨wfc_r, by show _ = _ + 2 * ((0 : Nat) : Int); omega⟩
  | succ n ih =>
    intro h g ⟨f, f0, f1, f2⟩
    obtain ⟨a1, a2⟩ := ih h (f n) ⟨f, f0, rfl, fun i hi => f2 i (by omega)⟩
    obtain ⟨b1, b2⟩ := fld_f (f2 n (by omega))
    rw [f1] at b1 b2
    exact ⟨wfc_t a1 b1, by rw [b2, a2]; omega⟩
/-- the class's fields -/
theorem c_flds (G : ∀ cc x : Nat, (17 ≤ cc ∧ cc ≤ 29) → ¬ cc = 20 → g cc x = bA X cc x) (k8 : k < 8) (n12 : n ≤ 12) (e17 : bA X 17 k = (n : Int)) {Z : ms_M → Prop} (l7 : 0 ≤ g 45 7 ∧ g 45 7 ≤ 1000) (HK : ∀ u, CFL nn X k n g u → Pc (mx_sv (qf_X2_methodsOf nn (k : Int) u) fun u6 => mx_sv (qf_X6_put nn u6 u) fun u8 => some u8) Z) : ∀ (f i : Nat) (h : ms_M), i ≤ n → CFL nn X k i g h → Pc (qw_X6_beginClass_62 nn f (k : Int) (i : Int) h) Z := by
  intro f
  induction f with
  | zero => intro i h hi C; exact fun _ z => nomatch z
  | succ f ih =>
    intro i h hi C
    obtain ⟨W, l⟩ := cfl_f i g h C
    have GH : ∀ cc x : Nat, (17 ≤ cc ∧ cc ≤ 29) → ¬ cc = 20 → h cc x = bA X cc x := fun cc x z z2 => by rw [W.2 cc x (by omega) (by omega)]; exact G cc x z z2
    unfold qw_X6_beginClass_62
    refine pc_sv (P := fun y => y = (n : Int)) ?_ ?_
    · unfold qf_X2_fieldsOf qf_X2_isOwn
      refine pc_add (by omega) ?_; intro v1 e1
      refine pc_sv (P := fun y => y = 1) (pc_if (fun z => absurd z (by omega)) (fun _ => pc_if (fun z => absurd z (by omega)) (fun _ => pc_ret rfl))) ?_; intro u2 q2
      refine pc_if (fun z => absurd z (by omega)) (fun _ => ?_)
      refine pc_rA ?_; intro _ _ v4 e4
      rw [Int.toNat_natCast, GH 17 _ (by omega) (by omega), e17] at e4
      exact pc_ret e4
    intro u3 q3
    refine pc_if (fun z => ?_) (fun z => ?_)
    · rw [show i = n by omega] at C
      exact HK h C
    · refine pc_xl ?_; intro v9 e9
      rw [oq_mul_eq (by omega) (by omega) (by omega)] at e9
      refine pc_add (by omega) ?_; intro v10 e10
      refine pc_sv (P := fun y => y = bA X 18 (12 * k + i)) ?_ ?_
      · unfold qf_X2_nameOfField
        refine pc_if (fun z => absurd z (by omega)) (fun _ => ?_)
        refine pc_if (fun z => absurd z (by omega)) (fun _ => ?_)
        refine pc_rA ?_; intro _ _ v4 e4
        rw [show v10.toNat = 12 * k + i by omega, GH 18 _ (by omega) (by omega)] at e4
        exact pc_ret e4
      intro u13 q13
      rw [q13]
      refine pc_se ?_; intro u15 e15
      have E15 := c_cfr u15 e15
      have l15 := E15 45 7 (by omega) (by omega) (by omega)
      refine pc_sv (c_put (by omega)) ?_; intro u17 A17
      refine pc_sv (P := fun y => y = u17 20 (12 * k + i)) ?_ ?_
      · unfold qf_X2_kindOfField
        refine pc_if (fun z => absurd z (by omega)) (fun _ => ?_)
        refine pc_if (fun z => absurd z (by omega)) (fun _ => ?_)
        refine pc_rA ?_; intro _ _ v4 e4
        rw [show v10.toNat = 12 * k + i by omega] at e4
        exact pc_ret e4
      intro u20 q20
      rw [q20]
      refine pc_se ?_; intro u22 e22
      have E22 := c_cfr u22 e22
      have l22 := E22 45 7 (by omega) (by omega) (by omega)
      have l17 := A17.1
      refine pc_sv (c_put (by omega)) ?_; intro u24 A24
      refine pc_add (by omega) ?_; intro v25 e25
      rw [show v25 = ((i + 1 : Nat) : Int) by omega]
      exact ih (i + 1) u24 (by omega) (cfl_s C ⟨u15, u17, u22, e15, A17, e22, A24⟩)
/-- members of one sort are counted -/
theorem r_w78 {qkk : Int → Int → ms_M → Option ms_M} {s : Nat} (s1 : s = 0 ∨ s = 1) (m28 : m 160 28 = (bM X : Int)) (T : ∀ cc x : Nat, (178 ≤ cc ∧ cc ≤ 195) → m cc x = bB X cc x) (M8 : bM X ≤ 100000) {Z : ms_M → Prop} (HK : Pc (mx_sv (qf_X13_tell nn ((mcn_T (bB X) k s (bM X) : Nat) : Int) m) fun u92 => qw_X13_makeClass_143 nn qkk nn (k : Int) (s : Int) 0 u92) Z) : ∀ (f j : Nat), j ≤ bM X → Pc (qw_X13_makeClass_78 nn qkk f (k : Int) (s : Int) ((mcn_T (bB X) k s j : Nat) : Int) (j : Int) m) Z := by
  have ML : ∀ j : Nat, mcn_T (bB X) k s j ≤ j := by
    intro j
    induction j with
    | zero => exact Nat.le_refl _
    | succ j ih => have := (mcn_1 (r := bB X) (k := k) (s := s) (m := j)).2; omega
  intro f
  induction f with
  | zero => intro j hj; exact fun _ z => nomatch z
  | succ f ih =>
    intro j hj
    unfold qw_X13_makeClass_78
    have ml := ML j
    refine pc_if (fun z => ?_) (fun z => ?_)
    · rw [show j = bM X by omega]; exact HK
    · refine pc_rA ?_; intro _ _ v94 e94
      rw [Int.toNat_natCast, T 181 _ (by omega)] at e94
      have GO : ∀ q : Prop, (q ↔ MSm (bB X) k s j) → q → Pc (xl (oq_add ((mcn_T (bB X) k s j : Nat) : Int) 1) fun v86 => xl (oq_add (j : Int) 1) fun v87 => qw_X13_makeClass_78 nn qkk f (k : Int) (s : Int) v86 v87 m) Z := fun q hq y => by
        refine pc_add (by omega) ?_; intro v86 e86
        refine pc_add (by omega) ?_; intro v87 e87
        have a := mcn_s (hq.mp y)
        rw [show v86 = ((mcn_T (bB X) k s (j + 1) : Nat) : Int) by omega, show v87 = ((j + 1 : Nat) : Int) by omega]
        exact ih (j + 1) (by omega)
      have NO : ¬ MSm (bB X) k s j → Pc (xl (oq_add (j : Int) 1) fun v85 => qw_X13_makeClass_78 nn qkk f (k : Int) (s : Int) ((mcn_T (bB X) k s j : Nat) : Int) v85 m) Z := fun y => by
        refine pc_add (by omega) ?_; intro v85 e85
        have a := mcn_n y
        rw [← a, show v85 = ((j + 1 : Nat) : Int) by omega]
        exact ih (j + 1) (by omega)
      refine pc_if (fun z2 => NO (fun y => z2 (by rw [e94]; exact y.1))) (fun z2 => ?_)
      have e1 : bB X 181 j = (k : Int) := by rw [← e94]; exact Classical.byContradiction z2
      refine pc_rA ?_; intro _ _ v97 e97
      rw [Int.toNat_natCast, T 182 _ (by omega)] at e97
      have C123 : ∀ (t s0 : Int), (MSm (bB X) k s j ↔ s0 = t) → Pc (qj_X13_makeClass_123 nn qkk (qw_X13_makeClass_78 nn qkk f) (k : Int) (s : Int) ((mcn_T (bB X) k s j : Nat) : Int) (j : Int) t s0 m) Z := fun t s0 hq => by
        unfold qj_X13_makeClass_123
        refine pc_if (fun y => NO (fun z => y (hq.mp z))) (fun y => ?_)
        have e : s0 = t := Classical.byContradiction y
        exact GO (s0 = t) hq.symm e
      have C113 : ∀ s0 : Int, (s0 = 0 ∧ bB X 182 j ≤ 0) ∨ (s0 = 1 ∧ 0 < bB X 182 j) → Pc (qj_X13_makeClass_113 nn qkk (qw_X13_makeClass_78 nn qkk f) (k : Int) (s : Int) ((mcn_T (bB X) k s j : Nat) : Int) (j : Int) s0 m) Z := fun s0 hs => by
        unfold qj_X13_makeClass_113
        refine pc_if (fun y => C123 0 s0 ⟨fun z => ?_, fun z => ?_⟩) (fun y => C123 1 s0 ⟨fun z => ?_, fun z => ?_⟩)
        · have := z.2; omega
        · exact ⟨e1, by omega⟩
        · have := z.2; omega
        · exact ⟨e1, by omega⟩
      exact pc_if (fun y => C113 0 (.inl ⟨rfl, by omega⟩)) (fun y => C113 1 (.inr ⟨rfl, by omega⟩))
end
end
section
/- a class: its head, making and class side by side -/
section
variable {nn : Nat} {X : BCx} {B v v2 : Int} {k j i n : Nat} {h g u r m m0 w : ms_M}
/-- a constant, then its number told -/
theorem pb_ct {u15 : Int × ms_M} {u17 : ms_M} {e : Option (Int × ms_M)} (P : PBX X B h m) (bB0 : B ≤ 900000000) (A17 : CPt u15.1 u15.2 u17) (J : Pc e (fun w => PCo h m u15 w ∧ SPL w.2 [])) : Pc (mx_sv e fun u57 => qf_X13_tell nn u57.1 u57.2) (fun w => PBX X (B + 1) u17 w ∧ WFr m w) := by
  refine pc_sv J ?_; intro w ⟨C, S⟩
  have P2 := pbx_c P C S
  have b := P2.2.2.1.2
  refine pc_imp (r_tellb (v := w.1) (by omega)) (fun w2 T => ⟨pbx_p P2 (fun o => ?_) A17 T, wfr_t (fun cc y z1 z2 z3 => C.2.2.2.2.1 cc y (by omega) (by omega)) (wfr_p T)⟩)
  obtain ⟨c1, c2, c3⟩ := C.2.1 o
  rw [c1]
/-- the making's fields -/
theorem m_flds (Y : CXs X) (k8 : k < 8) (C : CFL nn X k (mcn_T (bB X) k 0 (bM X)) g u) (m9 : m0 160 9 = 0) (m28 : m0 160 28 = (bM X : Int)) (M8 : bM X ≤ 100000) (B0 : 0 ≤ B ∧ B ≤ 100000) (P0 : PBX X B g m0) {qkk : Int → Int → ms_M → Option ms_M} : ∀ fuel : Nat, Pc (qw_X13_makeClass_143 nn qkk fuel (k : Int) 0 0 m0) (fun y => ∃ w, PBX X (B + 2 * (mcn_T (bB X) k 0 (bM X) : Nat)) u w ∧ WFr m0 w ∧ qkk (k : Int) 1 w = some y) := by
  obtain ⟨-, -, n8, -, -, -, HD, s0', TF, -⟩ := Y
  have MT := HD.2.2.1
  obtain ⟨F, F0, F1, F2⟩ := C
  rw [← F1]
  rw [← F0] at P0
  have L12 := (MT.1 k k8).2.1
  suffices H : ∀ (fuel j : Nat) (w : ms_M), j ≤ bM X → PBX X (B + 2 * (mcn_T (bB X) k 0 j : Nat)) (F (mcn_T (bB X) k 0 j)) w → WFr m0 w → Pc (qw_X13_makeClass_143 nn qkk fuel (k : Int) 0 (j : Int) w) (fun y => ∃ w, PBX X (B + 2 * (mcn_T (bB X) k 0 (bM X) : Nat)) (F (mcn_T (bB X) k 0 (bM X))) w ∧ WFr m0 w ∧ qkk (k : Int) 1 w = some y) from fun fuel => H fuel 0 m0 (Nat.zero_le _) (by show PBX X (B + 2 * ((0 : Nat) : Int)) (F 0) m0; rw [show B + 2 * ((0 : Nat) : Int) = B by omega]; exact P0) wfr_r
  intro fuel
  induction fuel with
  | zero => intro j w hj P W; exact fun _ z => nomatch z
  | succ f ih =>
    intro j w hj P W
    have T := P.2.1.2.2.2.2.2
    have w28 : w 160 28 = (bM X : Int) := by rw [W 160 28 (by omega) (by omega) (by omega)]; exact m28
    have w9 : w 160 9 = 0 := by rw [W 160 9 (by omega) (by omega) (by omega)]; exact m9
    unfold qw_X13_makeClass_143
    refine pc_if (fun z => ?_) (fun z => ?_)
    · refine pc_add (by omega) ?_; intro v73 e73
      rw [show v73 = 1 by omega]
      rw [show j = bM X by omega] at P
      exact fun y ey => ⟨w, P, W, ey⟩
    refine pc_if (fun z9 => absurd w9 z9) (fun _ => ?_)
    have SK : ¬ MSm (bB X) k 0 j → ∀ v, v = (j : Int) + 1 → Pc (qw_X13_makeClass_143 nn qkk f (k : Int) 0 v w) (fun y => ∃ w, PBX X (B + 2 * (mcn_T (bB X) k 0 (bM X) : Nat)) (F (mcn_T (bB X) k 0 (bM X))) w ∧ WFr m0 w ∧ qkk (k : Int) 1 w = some y) := fun q v ev => by
      rw [show v = ((j + 1 : Nat) : Int) by omega]
      rw [← mcn_n q] at P
      exact ih (j + 1) w (by omega) P W
    refine pc_rA ?_; intro _ _ v77 e77
    rw [Int.toNat_natCast, T 181 _ (by omega)] at e77
    refine pc_if (fun z1 => ?_) (fun z1 => ?_)
    · refine pc_add (by omega) ?_; intro v78 e78
      exact SK (fun q => z1 (by rw [e77]; exact q.1)) v78 e78
    have e1 : bB X 181 j = (k : Int) := by rw [← e77]; exact Classical.byContradiction z1
    refine pc_rA ?_; intro _ _ v80 e80
    rw [Int.toNat_natCast, T 182 _ (by omega)] at e80
    have C195 : ∀ s0 : Int, (s0 = 0 ∧ bB X 182 j ≤ 0) ∨ (s0 = 1 ∧ 0 < bB X 182 j) → Pc (qj_X13_makeClass_185 nn qkk (qw_X13_makeClass_143 nn qkk f) (k : Int) 0 (j : Int) s0 w) (fun y => ∃ w, PBX X (B + 2 * (mcn_T (bB X) k 0 (bM X) : Nat)) (F (mcn_T (bB X) k 0 (bM X))) w ∧ WFr m0 w ∧ qkk (k : Int) 1 w = some y) := fun s0 hs => by
      unfold qj_X13_makeClass_185
      refine pc_if (fun _ => ?_) (fun z => absurd (show ¬ (0 : Int) = 1 by decide) z)
      unfold qj_X13_makeClass_195
      refine pc_if (fun z0 => ?_) (fun z0 => ?_)
      · refine pc_if (fun _ => ?_) (fun z => absurd (show ¬ (0 : Int) = 1 by decide) z)
        have ms : MSm (bB X) k 0 j := ⟨e1, by omega⟩
        have hj2 : j < bM X := by omega
        obtain ⟨i1, i2⟩ := mb_ix MT hj2 k8 (.inl rfl) ms
        have b182 : bB X 182 j = 0 := by have := s0' j hj2; omega
        obtain ⟨f1, f2, f3, f4⟩ := MT.2.1 j k hj2 k8 ms
        have d2 := HD.2.2.2.2.1 j hj2
        have c17 := (MT.1 k k8).1.1
        have vt := TF j k hj2 k8 ms
        have P' := P
        have FD := F2 _ i1
        rw [← mcn_s ms] at FD
        have eS := mcn_s ms
        generalize ec : mcn_T (bB X) k 0 j = cn at *
        have x96 : 12 * k + cn < 96 := by omega
        have hx : (((12 * k + cn) % 12 : Nat) : Int) < bA X 17 ((12 * k + cn) / 12) := by
          rw [show (12 * k + cn) / 12 = k by omega, show (12 * k + cn) % 12 = cn by omega, c17]; omega
        obtain ⟨u15, u17, u22, e15, A17, e22, A24⟩ := FD
        refine pc_rA ?_; intro _ _ v55 e55
        rw [Int.toNat_natCast, T 186 _ (by omega)] at e55
        rw [e55, show bB X 186 j = (((bB X 186 j).toNat : Nat) : Int) by omega]
        rw [f1] at e15
        have S1 := pb_ct (nn := nn) P' (by omega) A17 (j_tok P'.2.1 P'.1.2.2 P'.1.1 P'.1.2.1 d2.2 u15 e15)
        refine pc_se ?_; intro u57 g57
        refine pc_se ?_; intro u59 g59
        obtain ⟨P3, W3⟩ := S1 u59 (by rw [g57]; exact g59)
        refine pc_se ?_; intro u61 g61
        refine pc_se ?_; intro u63 g63
        have S2 := pb_ct (nn := nn) P3 (by omega) A24 (j_kindF n8 P3.2.1 P3.1.2.2 P3.1.1 P3.1.2.1 x96 hx b182 ⟨vt, f2.2.1⟩ f2.2.2 u22 e22)
        obtain ⟨P4, W4⟩ := S2 u63 (by rw [g61]; exact g63)
        show Pc (xl (oq_add (j : Int) 1) fun v64 => qw_X13_makeClass_143 nn qkk f (k : Int) 0 v64 u63) _
        refine pc_add (by omega) ?_; intro v64 e64
        rw [show v64 = ((j + 1 : Nat) : Int) by omega]
        refine ih (j + 1) u63 (by omega) ?_ (wfr_t W (wfr_t W3 W4))
        rw [show B + 2 * ((mcn_T (bB X) k 0 (j + 1) : Nat) : Int) = B + 2 * (cn : Int) + 1 + 1 by omega]
        exact P4
      · refine pc_add (by omega) ?_; intro v78 e78
        exact SK (fun q => by have := q.2; omega) v78 e78
    exact pc_if (fun y => C195 0 (.inl ⟨rfl, by omega⟩)) (fun y => C195 1 (.inr ⟨rfl, by omega⟩))
/-- the head of a class -/
theorem j_begC (Y : CXs X) (kn : k < bn X) (J : JBw X h r) (M8 : bM X ≤ 100000) : Pc (qf_X0_beginClass nn (k : Int) h) (fun u => (∀ cc y : Nat, ¬ (cc = 45 ∧ (y = 4 ∨ y = 5 ∨ y = 7)) → ¬ (46 ≤ cc ∧ cc ≤ 48) → u cc y = h cc y) ∧ ∀ m, BAm X h m → Pc (qf_X13_makeClass nn (k : Int) m) (fun y => ∃ (f : Nat) (w : ms_M), PBX X 100 u w ∧ MCf m w ∧ w 160 52 = 8 + (k : Int) ∧ qw_X13_makeClass_143 nn (qw_X13_makeClass_68 nn f) nn (k : Int) 1 0 w = some y)) := by
  have Y0 := Y
  obtain ⟨-, S2, n8, -, -, -, HD, s0, TF, -⟩ := Y0
  have k8 : k < 8 := by omega
  have MT := HD.2.2.1
  obtain ⟨⟨c17, c21⟩, L0, L1⟩ := MT.1 k k8
  have G := J.2.2.2.2.2
  have T := J.2.2.2.2.1
  have K13 := J.1.2.1.2.2.2.1 (8 + k) (by omega)
  rw [if_neg (by omega), if_pos (by omega), show 8 + k - 8 = k by omega, T 180 _ (by omega)] at K13
  have up := HD.2.1.2.1 k kn
  have ub := upk_b S2 kn up
  have un := (HD.2.1.2.2.1 k kn).2.1
  generalize eU : bB X 180 k = U at *
  have VU : (0 ≤ U ∧ U < 8 + (bn X : Int)) ∨ (100 ≤ U ∧ U < 108 + (bn X : Int)) ∨ U = 200 := by omega
  have V8 : (0 ≤ 8 + (k : Int) ∧ 8 + (k : Int) < 8 + (bn X : Int)) ∨ (100 ≤ 8 + (k : Int) ∧ 8 + (k : Int) < 108 + (bn X : Int)) ∨ 8 + (k : Int) = 200 := by omega
  have t8 : ty_T (8 + (k : Int)) = 8 + 2 * (8 + (k : Int)) := by unfold ty_T; repeat (first | rw [if_neg (by omega)] | rw [if_pos (by omega)])
  have tU : ty_T U = 8 + 2 * U := by unfold ty_T; repeat (first | rw [if_neg (by omega)] | rw [if_pos (by omega)])
  unfold qf_X0_beginClass qf_X6_beginClass
  refine pc_sv (P := fun u => (∀ cc y : Nat, ¬ (cc = 45 ∧ (y = 4 ∨ y = 5 ∨ y = 7)) → ¬ (46 ≤ cc ∧ cc ≤ 48) → u cc y = h cc y) ∧ ∀ m, BAm X h m → Pc (qf_X13_makeClass nn (k : Int) m) (fun y => ∃ (f : Nat) (w : ms_M), PBX X 100 u w ∧ MCf m w ∧ w 160 52 = 8 + (k : Int) ∧ qw_X13_makeClass_143 nn (qw_X13_makeClass_68 nn f) nn (k : Int) 1 0 w = some y)) ?_ (fun u hu => pc_ret hu)
  refine pc_xl ?_; intro h27 e27
  refine pc_xl ?_; intro h28 e28
  refine pc_xl ?_; intro h29 e29
  have E29 : ∀ cc y : Nat, ¬ (cc = 45 ∧ (y = 4 ∨ y = 5 ∨ y = 7)) → h29 cc y = h cc y := fun cc y z => by rw [e29, up_n (by omega), e28, up_n (by omega), e27, up_n (by omega)]
  have z4 : h29 45 4 = 0 := by rw [e29, up_n (by omega), e28, up_n (by omega), e27, up_s]
  have z5 : h29 45 5 = 0 := by rw [e29, up_n (by omega), e28, up_s]
  have z7 : h29 45 7 = 0 := by rw [e29, up_s]
  refine pc_add (by omega) ?_; intro v30 e30
  rw [e30]
  -- the class's own name
  refine pc_se ?_; intro u32 g32
  refine pc_se ?_; intro u34 g34
  obtain ⟨⟨W1, -⟩, l1⟩ := j_cls (nn := nn) (X := X) (B := 0) (m0 := h29) Y (h := h29) (t := 8 + (k : Int)) (by omega) (by omega) V8 u34 (by rw [g32]; exact g34)
  refine pc_se ?_; intro u38 g38
  have q38 : u38 = U := by
    have A : Pc (qf_X4_above nn 12 (8 + (k : Int)) u34) (fun y => y = U) := by
      unfold qf_X4_above
      refine pc_sv c_isCl ?_; intro u1 q1
      refine pc_if (fun z => absurd z (by omega)) (fun _ => ?_)
      refine pc_rA ?_; intro _ _ v3 e3
      refine pc_ret ?_
      rw [e3, show (8 + (k : Int)).toNat = 8 + k by omega, W1.2 (12 + 1) _ (by omega) (by omega), E29 _ _ (by omega)]
      exact K13
    exact A u38 g38
  rw [q38]
  refine pc_se ?_; intro u40 g40
  refine pc_se ?_; intro u42 g42
  obtain ⟨⟨W2, -⟩, l2⟩ := j_cls (nn := nn) (X := X) (B := 1) (m0 := h29) Y (h := u34) (t := U) (by omega) (by omega) VU u42 (by rw [g40]; exact g42)
  have E42 : ∀ cc y : Nat, ¬ (cc = 45 ∧ (y = 4 ∨ y = 5 ∨ y = 7)) → ¬ (46 ≤ cc ∧ cc ≤ 48) → u42 cc y = h cc y := fun cc y z1 z2 => by rw [W2.2 cc y z1 z2, W1.2 cc y z1 z2]; exact E29 cc y z1
  refine pc_se ?_; intro u45 g45
  have q45 : u45 = ((mcn_T (bB X) k 0 (bM X) : Nat) : Int) := by
    have A : Pc (qf_X2_fieldsOf nn (k : Int) u42) (fun y => y = ((mcn_T (bB X) k 0 (bM X) : Nat) : Int)) := by
      unfold qf_X2_fieldsOf qf_X2_isOwn
      refine pc_add (by omega) ?_; intro v1 e1
      refine pc_sv (P := fun y => y = 1) (pc_if (fun z => absurd z (by omega)) (fun _ => pc_if (fun z => absurd z (by omega)) (fun _ => pc_ret rfl))) ?_; intro u2 q2
      refine pc_if (fun z => absurd z (by omega)) (fun _ => ?_)
      refine pc_rA ?_; intro _ _ v4 e4
      rw [Int.toNat_natCast, E42 17 _ (by omega) (by omega), G 17 _ (by omega), c17] at e4
      exact pc_ret e4
    exact A u45 g45
  refine pc_se ?_; intro u47 g47
  have A47 := c_put (by omega) u47 g47
  have l47 := A47.1
  have E47 : ∀ cc y : Nat, ¬ (cc = 45 ∧ (y = 4 ∨ y = 5 ∨ y = 7)) → ¬ (46 ≤ cc ∧ cc ≤ 48) → u47 cc y = h cc y := fun cc y z1 z2 => by rw [A47.2.2 cc y (by omega) (by omega)]; exact E42 cc y z1 z2
  show Pc (qw_X6_beginClass_62 nn nn (k : Int) 0 u47) _
  refine c_flds (n := mcn_T (bB X) k 0 (bM X)) (g := u47) (fun cc x z z2 => by rw [E47 cc x (by omega) (by omega)]; exact G cc x z) k8 L0 c17 (by omega) (fun uF C => ?_) nn 0 u47 (Nat.zero_le _) cfl_0
  obtain ⟨WF, lF⟩ := cfl_f _ _ _ C
  have EF : ∀ cc y : Nat, ¬ (cc = 45 ∧ (y = 4 ∨ y = 5 ∨ y = 7)) → ¬ (46 ≤ cc ∧ cc ≤ 48) → uF cc y = h cc y := fun cc y z1 z2 => by rw [WF.2 cc y z1 z2]; exact E47 cc y z1 z2
  refine pc_sv (P := fun y => y = ((mcn_T (bB X) k 1 (bM X) : Nat) : Int)) ?_ ?_
  · unfold qf_X2_methodsOf qf_X2_isOwn
    refine pc_add (by omega) ?_; intro v1 e1
    refine pc_sv (P := fun y => y = 1) (pc_if (fun z => absurd z (by omega)) (fun _ => pc_if (fun z => absurd z (by omega)) (fun _ => pc_ret rfl))) ?_; intro u2 q2
    refine pc_if (fun z => absurd z (by omega)) (fun _ => ?_)
    refine pc_rA ?_; intro _ _ v4 e4
    rw [Int.toNat_natCast, EF 21 _ (by omega) (by omega), G 21 _ (by omega), c21] at e4
    exact pc_ret e4
  intro u6 q6
  rw [q6]
  refine pc_sv (c_put (by omega)) ?_; intro u A
  refine pc_ret ⟨fun cc y z1 z2 => by rw [A.2.2 cc y (by omega) (by omega)]; exact EF cc y z1 z2, fun m BA => ?_⟩
  obtain ⟨TX, ⟨m9, m24, m28⟩, MT2⟩ := BA
  unfold qf_X13_makeClass
  refine pc_xl ?_; intro h104 e104
  refine pc_xl ?_; intro h105 e105
  refine pc_xl ?_; intro h106 e106
  refine pc_xl ?_; intro h107 e107
  refine pc_add (by omega) ?_; intro v108 e108
  refine pc_xl ?_; intro h109 e109
  have f62 : h109 160 62 = 0 := by rw [e109, up_n (by omega), e107, up_n (by omega), e106, up_n (by omega), e105, up_n (by omega), e104, up_s]
  have f64 : h109 160 64 = 0 := by rw [e109, up_n (by omega), e107, up_n (by omega), e106, up_n (by omega), e105, up_s]
  have f66 : h109 160 66 = 0 := by rw [e109, up_n (by omega), e107, up_n (by omega), e106, up_s]
  have f97 : h109 160 97 = 0 := by rw [e109, up_n (by omega), e107, up_s]
  have f52 : h109 160 52 = 8 + (k : Int) := by rw [e109, up_s]; omega
  have F109 : ∀ cc y : Nat, ¬ (cc = 160 ∧ (y = 52 ∨ y = 62 ∨ y = 64 ∨ y = 66 ∨ y = 97)) → h109 cc y = m cc y := fun cc y z => by rw [e109, up_n (by omega), e107, up_n (by omega), e106, up_n (by omega), e105, up_n (by omega), e104, up_n (by omega)]
  have P0 : PBX X 0 h29 h109 := by
    refine ⟨⟨.inl ⟨z5, ⟨by omega, by omega⟩, 0, z4, f62, by omega, fun k k1 k2 => absurd k2 (by omega)⟩, ⟨by omega, by omega⟩, ⟨f66, by show 0 ≤ 200; omega, lr_0⟩, fun k hk => absurd hk (by show ¬ k < 0; omega)⟩, txe_k TX (fun cc y z => E29 cc y (by omega)) (fun cc y z => F109 cc y (by omega)), ⟨by omega, by omega⟩, fun _ => ⟨by omega, fun x hx => absurd hx (by omega)⟩⟩
  rw [f52]
  refine pc_xl ?_; intro v111 e111
  rw [oq_mul_eq (by omega) (by omega) (by omega)] at e111
  refine pc_add (by omega) ?_; intro v112 e112
  rw [show v112 = ty_T (8 + (k : Int)) by rw [t8]; omega]
  refine pc_se ?_; intro u114 g114
  refine pc_se ?_; intro u116 g116
  obtain ⟨P1, V1⟩ := (j_cls (nn := nn) (X := X) (B := 0) (m0 := h109) Y (h := h29) (t := 8 + (k : Int)) (by omega) (by omega) V8 u34 (by rw [g32]; exact g34)).1.2 h109 wfr_r P0 u116 (by show mx_sv (qf_X13_classConstant nn (ty_T (8 + (k : Int))) h109) _ = _; rw [g114]; exact g116)
  have f52' : u116 160 52 = 8 + (k : Int) := by rw [V1 160 52 (by omega) (by omega) (by omega)]; exact f52
  rw [f52']
  refine pc_se ?_; intro u119 g119
  have q119 : u119 = U := by
    rw [r_up (by omega) u119 g119]
    unfold uq_T
    rw [if_neg (by omega), if_neg (by omega), if_pos (by omega), show (8 + (k : Int) - 8).toNat = k by omega, P1.2.1.2.2.2.2.2 180 _ (by omega)]
    exact eU
  rw [q119]
  show Pc (xl (oq_mul 2 U) fun v120 => xl (oq_add 8 v120) fun v121 => mx_sv (qf_X13_classConstant nn v121 u116) fun u123 => mx_sv (qf_X13_tell nn u123.1 u123.2) fun u125 => qw_X13_makeClass_68 nn nn (k : Int) 0 u125) _
  refine pc_xl ?_; intro v120 e120
  rw [oq_mul_eq (by omega) (by omega) (by omega)] at e120
  refine pc_add (by omega) ?_; intro v121 e121
  rw [show v121 = ty_T U by rw [tU]; omega]
  refine pc_se ?_; intro u123 g123
  refine pc_se ?_; intro u125 g125
  obtain ⟨P2, V2⟩ := (j_cls (nn := nn) (X := X) (B := 0 + 1) (m0 := h109) Y (h := u34) (t := U) (by omega) (by omega) VU u42 (by rw [g40]; exact g42)).1.2 u116 V1 P1 u125 (by show mx_sv (qf_X13_classConstant nn (ty_T U) u116) _ = _; rw [g123]; exact g125)
  show Pc (qw_X13_makeClass_68 nn nn (k : Int) 0 u125) _
  have TT : ∀ {B : Int} {g w : ms_M}, PBX X B g w → ∀ cc x : Nat, (178 ≤ cc ∧ cc ≤ 195) → w cc x = bB X cc x := fun P => P.2.1.2.2.2.2.2
  -- fields, then methods
  have N0 : ∀ fuel : Nat, Pc (qw_X13_makeClass_68 nn fuel (k : Int) 0 u125) (fun y => ∃ (f : Nat) (w : ms_M), PBX X 100 u w ∧ MCf m w ∧ w 160 52 = 8 + (k : Int) ∧ qw_X13_makeClass_143 nn (qw_X13_makeClass_68 nn f) nn (k : Int) 1 0 w = some y) := fun fuel => by
    cases fuel with
    | zero => exact fun _ z => nomatch z
    | succ f1 =>
      unfold qw_X13_makeClass_68
      refine pc_if (fun z => absurd z (by omega)) (fun _ => ?_)
      refine r_w78 (s := 0) (.inl rfl) (by rw [V2 160 28 (by omega) (by omega) (by omega), F109 160 28 (by omega)]; exact m28) (TT P2) M8 ?_ nn 0 (Nat.zero_le _)
      refine pc_sv (r_tellb (v := ((mcn_T (bB X) k 0 (bM X) : Nat) : Int)) (by have := P2.2.2.1.2; omega)) ?_; intro u92 T92
      have P3 : PBX X (0 + 1 + 1 + 1) u47 u92 := pbx_p P2 (fun _ => by rw [q45]) A47 T92
      have V3 : WFr h109 u92 := wfr_t V2 (wfr_p T92)
      have MF := m_flds Y k8 C (by rw [V3 160 9 (by omega) (by omega) (by omega), F109 160 9 (by omega)]; exact m9) (by rw [V3 160 28 (by omega) (by omega) (by omega), F109 160 28 (by omega)]; exact m28) M8 (by omega) P3 (qkk := qw_X13_makeClass_68 nn f1) nn
      refine fun y ey0 => ?_
      obtain ⟨w4, P4, V4, ey⟩ := MF y ey0
      clear ey0
      have V5 : WFr h109 w4 := wfr_t V3 V4
      revert y
      show Pc (qw_X13_makeClass_68 nn f1 (k : Int) 1 w4) _
      cases f1 with
      | zero => exact fun _ z => nomatch z
      | succ f2 =>
        unfold qw_X13_makeClass_68
        refine pc_if (fun z => absurd z (by omega)) (fun _ => ?_)
        refine r_w78 (s := 1) (.inr rfl) (by rw [V5 160 28 (by omega) (by omega) (by omega), F109 160 28 (by omega)]; exact m28) (TT P4) M8 ?_ nn 0 (Nat.zero_le _)
        refine pc_sv (r_tellb (v := ((mcn_T (bB X) k 1 (bM X) : Nat) : Int)) (by have := P4.2.2.1.2; omega)) ?_; intro w5 T5
        have P5 := pbx_p P4 (fun _ => rfl) A T5
        have V6 : WFr h109 w5 := wfr_t V5 (wfr_p T5)
        intro y ey
        refine ⟨f2, w5, ⟨P5.1, P5.2.1, ⟨by have := P5.2.2.1; omega, by have := P5.2.2.1; omega⟩, P5.2.2.2⟩, fun cc y z1 z2 z3 => ?_, ?_, ey⟩
        · rw [V6 cc y (by omega) z2 z3]; exact F109 cc y z1
        · rw [V6 160 52 (by omega) (by omega) (by omega)]; exact f52
  exact N0 nn
end
end
section
/- the methods of a class: making, rules and class side by side -/
/-- the bodies of all methods: nodes [a, b), tokens [p, q) -/
def MBO (X : BCx) (a b : Nat → Int) (p q : Nat → Nat) : Prop := (∀ j : Nat, j < bM X → 0 < bB X 182 j → LKn 0 (bK X) (bT X) 8 0 0 (a j) (b j) (p j : Int) (q j : Int) (bB X 190 j) ∧ (0 ≤ a j ∧ a j ≤ b j ∧ b j ≤ 8999) ∧ (p j ≤ q j ∧ q j ≤ 4000) ∧ bB X 182 j ≤ 2 ∧ (∀ k : Nat, k < 8 → MSm (bB X) k 1 j → bA X 23 (mx_X X k j) = (p j : Int)) ∧ ∀ i : Nat, (i : Int) < bB X 189 j → 0 ≤ bB X 194 ((bB X 188 j).toNat + i) ∧ bK X (bB X 194 ((bB X 188 j).toNat + i)).toNat = 2) ∧ ∀ i j : Nat, i < j → j < bM X → 0 < bB X 182 i → 0 < bB X 182 j → b i ≤ a j ∧ q i ≤ p j
/-- X, of method j of class k -/
def xm_X (X : BCx) (k j : Nat) : BCx := (X.1, (bc X, bn X, bNN X, bM X, if bB X 182 j = 1 then 1 else 0), (bq X, 8 + (k : Int)), X.2.2.2)
/-- y: what the rules leave in the end; R0: what they began with; members below j are ruled in r -/
def FIN (X : BCx) (a b : Nat → Int) (R0 : ms_M) (j : Nat) (r y : ms_M) : Prop := (∀ cc x : Nat, ¬ (cc = 160 ∧ (x = 10 ∨ x = 50 ∨ x = 51 ∨ x = 52 ∨ x = 53 ∨ x = 54 ∨ x = 57)) → ¬ (174 ≤ cc ∧ cc ≤ 176) → ¬ (196 ≤ cc ∧ cc ≤ 199) → y cc x = R0 cc x) ∧ ∀ i : Nat, i < j → i < bM X → 0 < bB X 182 i → AN (a i) (b i) r y
/-- the images of classes below k -/
def IMJ (k : Nat) (h w : ms_M) : Prop := ∀ c : Nat, c < k → ∃ id : Nat, h 43 c = (id : Int) ∧ (256 ≤ id ∧ id < cn_M h ∧ id < 900000) ∧ ln_I h id = w 224 c ∧ (0 ≤ w 224 c ∧ w 224 c ≤ 6000) ∧ ∀ x : Nat, (x : Int) < w 224 c → w 223 (6000 * c + x) = h id x % 256
/-- the labels given out so far -/
def LBB (X : BCx) (p : Nat → Nat) (L0 : Int) (j : Nat) (w : ms_M) : Prop := 0 ≤ w 160 88 ∧ ∃ D : Nat, w 160 88 ≤ L0 + 4 * (D : Int) ∧ ∀ i : Nat, j ≤ i → i < bM X → 0 < bB X 182 i → D ≤ p i
/-- the making, within a class -/
def WST (X : BCx) (p : Nat → Nat) (L0 : Int) (k j : Nat) (h y w : ms_M) : Prop := PBX X (100 + 20000 * (mcn_T (bB X) k 1 j : Nat)) h w ∧ (w 160 9 = 0 ∧ w 160 52 = 8 + (k : Int)) ∧ LBB X p L0 j w ∧ (∀ cc x : Nat, (162 ≤ cc ∧ cc ≤ 195) ∨ (cc = 160 ∧ (x = 24 ∨ x = 28)) → w cc x = y cc x) ∧ IMJ k h w
/-- the making, between classes -/
def WSB (X : BCx) (p : Nat → Nat) (L0 : Int) (k j : Nat) (h y w : ms_M) : Prop := (w 160 9 = 0 ∧ TXE (bK X) (bV X) (bC X) (bW X) (bn X) (bA X) (bB X) h w) ∧ LBB X p L0 j w ∧ (∀ cc x : Nat, (162 ≤ cc ∧ cc ≤ 195) ∨ (cc = 160 ∧ (x = 24 ∨ x = 28)) → w cc x = y cc x) ∧ IMJ k h w
/-- too much was found -/
def TMF (X : BCx) (h : ms_M) (B : Int × ms_M) : Prop := (¬ h 33 7 = -1 ∧ 0 ≤ h 33 7 ∧ (h 33 7).toNat < bc X) ∧ B.1 = -1 ∧ B.2 160 9 = 11 ∧ B.2 160 10 = bP X (h 33 7).toNat
def RST (nn : Nat) (X : BCx) (a b : Nat → Int) (p : Nat → Nat) (L0 : Int) (R0 : ms_M) (k j : Nat) (h r : ms_M) : Prop := (h 33 7 = -1 ∨ (0 ≤ h 33 7 ∧ (h 33 7).toNat < bc X)) ∧ ∀ (y : ms_M) (B : Int × ms_M), FIN X a b R0 j r y → qw_X13_compile_110 nn nn 0 y = some B → TMF X h B ∨ (h 33 7 = -1 ∧ ∃ (f f1 f2 : Nat) (w u28 : ms_M), WST X p L0 k j h y w ∧ qw_X13_makeClass_143 nn (qw_X13_makeClass_68 nn f1) f2 (k : Int) 1 (j : Int) w = some u28 ∧ (xl (oq_add (k : Int) 1) fun v29 => qw_X13_compile_110 nn f v29 u28) = some B)
def RSB (nn : Nat) (X : BCx) (a b : Nat → Int) (p : Nat → Nat) (L0 : Int) (R0 : ms_M) (k j : Nat) (h r : ms_M) : Prop := (h 33 7 = -1 ∨ (0 ≤ h 33 7 ∧ (h 33 7).toNat < bc X)) ∧ ∀ (y : ms_M) (B : Int × ms_M), FIN X a b R0 j r y → qw_X13_compile_110 nn nn 0 y = some B → TMF X h B ∨ (h 33 7 = -1 ∧ ∃ (f : Nat) (w : ms_M), WSB X p L0 k j h y w ∧ qw_X13_compile_110 nn f (k : Int) w = some B)
/-- a step of the making's methods: what it may be -/
def N143 (nn : Nat) (X : BCx) (qkk : Int → Int → ms_M → Option ms_M) (k j : Nat) (w y : ms_M) : Prop := (j = bM X ∧ qkk (k : Int) 2 w = some y) ∨ (j < bM X ∧ ¬ MSm (bB X) k 1 j ∧ ∃ f3, qw_X13_makeClass_143 nn qkk f3 (k : Int) 1 ((j + 1 : Nat) : Int) w = some y) ∨ (j < bM X ∧ MSm (bB X) k 1 j ∧ ∃ (f3 : Nat) (u66 : ms_M), qf_X13_makeMethod nn (j : Int) w = some u66 ∧ qw_X13_makeClass_143 nn qkk f3 (k : Int) 1 ((j + 1 : Nat) : Int) u66 = some y)
section
variable {nn : Nat} {X : BCx} {a b : Nat → Int} {p q : Nat → Nat} {L0 B v : Int} {k j i n : Nat} {h g u r m m0 w y R0 : ms_M}
theorem m_f261 (w9 : ¬ w 160 9 = 0) {l1 : Int} : ∀ (f : Nat) (l2 l3 : Int), Pc (qw_X13_makeClass_261 nn f l1 l2 l3 w) (fun u => u = w) := by
  have E : ∀ l2 : Int, Pc (qj_X13_makeClass_364 nn l1 l2 w) (fun u => u = w) := fun l2 => by
    unfold qj_X13_makeClass_364
    exact pc_if (fun z => absurd z w9) (fun _ => pc_ret rfl)
  intro f
  induction f with
  | zero => intro l2 l3; exact fun _ z => nomatch z
  | succ f ih =>
    intro l2 l3
    have N : ∀ s0 s1 : Int, Pc (qj_X13_makeClass_320 nn (qw_X13_makeClass_261 nn f) l1 l3 s0 s1 w) (fun u => u = w) := fun s0 s1 => by
      unfold qj_X13_makeClass_320
      refine pc_xl ?_; intro v33 _
      refine pc_xl ?_; intro v34 _
      exact ih v33 v34
    unfold qw_X13_makeClass_261
    refine pc_if (fun _ => pc_if (fun _ => E l2) (fun z => absurd w9 z)) (fun _ => ?_)
    refine pc_rA ?_; intro _ _ v42 _
    refine pc_if (fun _ => ?_) (fun _ => ?_)
    · refine pc_rA ?_; intro _ _ v44 _
      refine pc_if (fun _ => ?_) (fun _ => N 5 l2)
      refine pc_rA ?_; intro _ _ v46 _
      exact pc_if (fun _ => N 4 l2) (fun _ => N 2 l2)
    · refine pc_rA ?_; intro _ _ v50 _
      refine pc_xl ?_; intro v51 _
      exact N v51 l2
theorem m_f68 (w9 : ¬ w 160 9 = 0) {l1 : Int} : ∀ f : Nat, Pc (qw_X13_makeClass_68 nn f l1 2 w) (fun u => u = w) := by
  intro f
  cases f with
  | zero => exact fun _ z => nomatch z
  | succ f =>
    unfold qw_X13_makeClass_68
    refine pc_if (fun _ => ?_) (fun z => absurd (show (2 : Int) ≤ 2 by omega) z)
    refine pc_xl ?_; intro v102 _
    exact m_f261 w9 nn v102 1
/-- behind a FAULT the making of a class ends -/
theorem m_f143 (w9 : ¬ w 160 9 = 0) {l1 l4 : Int} {f1 : Nat} : ∀ f : Nat, Pc (qw_X13_makeClass_143 nn (qw_X13_makeClass_68 nn f1) f l1 1 l4 w) (fun u => u = w) := by
  intro f
  cases f with
  | zero => exact fun _ z => nomatch z
  | succ f =>
    unfold qw_X13_makeClass_143
    refine pc_if (fun _ => ?_) (fun _ => ?_)
    · refine pc_add (by omega) ?_; intro v73 e73
      rw [show v73 = 2 by omega]
      exact m_f68 w9 f1
    · refine pc_if (fun _ => ?_) (fun z => absurd w9 z)
      refine pc_add (by omega) ?_; intro v73 e73
      rw [show v73 = 2 by omega]
      exact m_f68 w9 f1
/-- a step of the making's methods -/
theorem m_143 {qkk : Int → Int → ms_M → Option ms_M} (w9 : w 160 9 = 0) (w28 : w 160 28 = (bM X : Int)) (T : ∀ cc x : Nat, (178 ≤ cc ∧ cc ≤ 195) → w cc x = bB X cc x) (hj : j ≤ bM X) : ∀ f : Nat, Pc (qw_X13_makeClass_143 nn qkk f (k : Int) 1 (j : Int) w) (fun y => N143 nn X qkk k j w y) := by
  intro f
  cases f with
  | zero => exact fun _ z => nomatch z
  | succ f =>
    unfold qw_X13_makeClass_143
    refine pc_if (fun z => ?_) (fun z => ?_)
    · refine pc_add (by omega) ?_; intro v73 e73
      rw [show v73 = 2 by omega]
      exact fun y ey => .inl ⟨by omega, ey⟩
    refine pc_if (fun z9 => absurd w9 z9) (fun _ => ?_)
    refine pc_rA ?_; intro _ j8 v77 e77
    rw [Int.toNat_natCast, T 181 _ (by omega)] at e77
    have SK : ∀ v : Int, v = (j : Int) + 1 → v = ((j + 1 : Nat) : Int) := fun v e => by omega
    refine pc_if (fun z1 => ?_) (fun z1 => ?_)
    · refine pc_add (by omega) ?_; intro v78 e78
      rw [SK v78 e78]
      exact fun y ey => .inr (.inl ⟨by omega, fun q => z1 (by rw [e77]; exact q.1), f, ey⟩)
    have e1 : bB X 181 j = (k : Int) := by rw [← e77]; exact Classical.byContradiction z1
    refine pc_rA ?_; intro _ _ v80 e80
    rw [Int.toNat_natCast, T 182 _ (by omega)] at e80
    have C195 : ∀ s0 : Int, (s0 = 0 ∧ bB X 182 j ≤ 0) ∨ (s0 = 1 ∧ 0 < bB X 182 j) → Pc (qj_X13_makeClass_185 nn qkk (qw_X13_makeClass_143 nn qkk f) (k : Int) 1 (j : Int) s0 w) (fun y => N143 nn X qkk k j w y) := fun s0 hs => by
      unfold qj_X13_makeClass_185
      refine pc_if (fun z => absurd rfl z) (fun _ => ?_)
      unfold qj_X13_makeClass_195
      refine pc_if (fun z0 => ?_) (fun z0 => ?_)
      · refine pc_if (fun z => absurd rfl z) (fun _ => ?_)
        refine pc_se ?_; intro u66 g66
        refine pc_add (by omega) ?_; intro v67 e67
        rw [SK v67 e67]
        exact fun y ey => .inr (.inr ⟨by omega, ⟨e1, by omega⟩, f, u66, g66, ey⟩)
      · refine pc_add (by omega) ?_; intro v78 e78
        rw [SK v78 e78]
        exact fun y ey => .inr (.inl ⟨by omega, fun q => by have := q.2; omega, f, ey⟩)
    exact pc_if (fun y => C195 0 (.inl ⟨rfl, by omega⟩)) (fun y => C195 1 (.inr ⟨rfl, by omega⟩))
theorem img_k (I : IMJ k h w) (e1 : ∀ cc x : Nat, cc = 43 ∨ 256 ≤ cc → g cc x = h cc x) (e2 : ∀ cc x : Nat, cc = 223 ∨ cc = 224 → m cc x = w cc x) : IMJ k g m := fun c hc => by
  obtain ⟨id, i1, i2, i3, i4, i5⟩ := I c hc
  refine ⟨id, by rw [e1 43 c (by omega)]; exact i1, ⟨i2.1, ?_, i2.2.2⟩, ?_, by rw [e2 224 c (by omega)]; exact i4, fun x hx => ?_⟩
  · have := i2.2.1
    unfold cn_M at *
    rw [e1 900000 0 (by omega)]; exact this
  · rw [e2 224 c (by omega), ← i3]
    unfold ln_I
    rw [if_neg (by omega), if_neg (by omega)]
    exact e1 900001 id (by omega)
  · rw [e2 224 c (by omega)] at hx
    rw [e2 223 _ (by omega), e1 id x (by omega)]
    exact i5 x hx
theorem fin_k (F : FIN X a b R0 (j + 1) r y) : FIN X a b R0 j r y := ⟨F.1, fun i hi => F.2 i (by omega)⟩
end
end
section
/- the methods of a class: steps -/
/-- what the rules began with -/
def R0F (X : BCx) (R0 : ms_M) : Prop := (R0 160 9 = 0 ∧ R0 160 24 = (bn X : Int) ∧ R0 160 28 = (bM X : Int)) ∧ ∀ cc x : Nat, ((163 ≤ cc ∧ cc ≤ 173) ∨ cc = 177) → R0 cc x = bT X cc x
section
variable {nn : Nat} {X : BCx} {a b : Nat → Int} {p q : Nat → Nat} {L0 : Int} {k j i n : Nat} {h g u r v m m0 w y R0 : ms_M}
theorem fin_28 (F : FIN X a b R0 j r y) (R : R0F X R0) : y 160 28 = (bM X : Int) ∧ y 160 24 = (bn X : Int) ∧ ∀ cc x : Nat, ((163 ≤ cc ∧ cc ≤ 173) ∨ cc = 177) → y cc x = bT X cc x := by
  refine ⟨?_, ?_, fun cc x z => ?_⟩
  · rw [F.1 160 28 (by omega) (by omega) (by omega)]; exact R.1.2.2
  · rw [F.1 160 24 (by omega) (by omega) (by omega)]; exact R.1.2.1
  · rw [F.1 cc x (by omega) (by omega) (by omega)]; exact R.2 cc x z
theorem tmf_k {B : Int × ms_M} (T : TMF X h B) (e : u 33 7 = h 33 7) : TMF X u B := by
  unfold TMF at *
  rw [e]; exact T
theorem lbb_m (L : LBB X p L0 j w) : LBB X p L0 (j + 1) w := by
  obtain ⟨l1, D, l2, l3⟩ := L
  exact ⟨l1, D, l2, fun i hi => l3 i (by omega)⟩
theorem rs_skip (R0f : R0F X R0) (hj : j < bM X) (ms : ¬ MSm (bB X) k 1 j) (R : RST nn X a b p L0 R0 k j h r) : RST nn X a b p L0 R0 k (j + 1) h r := by
  refine ⟨R.1, fun y B F e => ?_⟩
  rcases R.2 y B (fin_k F) e with T | ⟨z7, f, f1, f2, w, u28, ⟨W1, W2, W3, W4, W5⟩, e1, e2⟩
  · exact .inl T
  · refine .inr ⟨z7, ?_⟩
    have T := W1.2.1.2.2.2.2.2
    rcases m_143 (X := X) W2.1 (by rw [W4 160 28 (by omega)]; exact (fin_28 F R0f).1) T (by omega) f2 u28 e1 with ⟨z, -⟩ | ⟨-, -, f3, e3⟩ | ⟨-, z, -⟩
    · omega
    · exact ⟨f, f1, f3, w, u28, ⟨by rw [mcn_n ms]; exact W1, W2, lbb_m W3, W4, W5⟩, e3, e2⟩
    · exact absurd z ms
theorem rs_meth (Y : CXs X) (k8 : k < 8) (R0f : R0F X R0) (L1 : L0 ≤ 1600000000) (MB : MBO X a b p q) (hj : j < bM X) (ms : MSm (bB X) k 1 j) (eu : qf_X0_makeMethod nn (k : Int) ((mcn_T (bB X) k 1 j : Nat) : Int) h = some u) (JM : JMr nn (xm_X X k j) j (a j) (b j) (p j) (q j) h r u v) (R : RST nn X a b p L0 R0 k j h r) : RST nn X a b p L0 R0 k (j + 1) u v := by
  have b182 : 0 < bB X 182 j := by
    rcases ms.2 with ⟨z, z2⟩ | ⟨-, z2⟩
    · omega
    · exact absurd z2 (by decide)
  have BK := Y.1
  obtain ⟨-, -, -, -, -, -, HD, -, -, -⟩ := Y
  have d2 := HD.2.2.2.2.1 j hj
  have tkc : (bB X 186 j).toNat < bc X := tb_lt BK (by rw [d2.2]; decide)
  obtain ⟨i1, i2⟩ := mb_ix HD.2.2.1 hj k8 (.inr rfl) ms
  obtain ⟨M1, M2⟩ := MB
  obtain ⟨-, A1, P1, -, -, -⟩ := M1 j hj b182
  obtain ⟨-, RF, TM, tm, JM⟩ := JM
  have tm' : (TM ∧ (h 33 7 = -1 → u 33 7 = bB X 186 j) ∧ (¬ h 33 7 = -1 → u 33 7 = h 33 7)) ∨ (¬ TM ∧ u 33 7 = h 33 7) := tm
  have S7 : ¬ h 33 7 = -1 → u 33 7 = h 33 7 := fun z => by
    rcases tm' with ⟨-, -, t⟩ | ⟨-, t⟩
    · exact t z
    · exact t
  refine ⟨?_, fun y B F e => ?_⟩
  · by_cases z : h 33 7 = -1
    · rcases tm' with ⟨-, t, -⟩ | ⟨-, t⟩
      · rw [t z]; exact .inr ⟨d2.1, tkc⟩
      · rw [t]; exact R.1
    · rw [S7 z]; exact R.1
  have FJ : FIN X a b R0 j r y := ⟨F.1, fun i hi hM h2 cc x c1 c2 x1 x2 => by
    have o := (M2 i j hi hj h2 b182).1
    rw [F.2 i (by omega) hM h2 cc x c1 c2 x1 x2]
    exact RF cc x (by omega) (by omega) (by omega) (by omega)⟩
  rcases R.2 y B FJ e with T | ⟨z7, f, f1, f2, w, u28, ⟨W1, W2, W3, W4, W5⟩, e1, e2⟩
  · exact .inl (tmf_k T (S7 T.1.1))
  have T := W1.2.1.2.2.2.2.2
  obtain ⟨y28, y24, yT⟩ := fin_28 F R0f
  rcases m_143 (X := X) W2.1 (by rw [W4 160 28 (by omega)]; exact y28) T (by omega) f2 u28 e1 with ⟨z, -⟩ | ⟨-, z, -⟩ | ⟨-, -, f3, u66, e66, e3⟩
  · omega
  · exact absurd ms z
  obtain ⟨l1, D, l2, l3⟩ := W3
  have l4 := l3 j (Nat.le_refl _) hj b182
  have MP : MPr (xm_X X k j) (100 + 20000 * (mcn_T (bB X) k 1 j : Nat)) (a j) (b j) (p j) (q j) h v w := by
    refine ⟨W1, by omega, fun cc x c1 c2 x1 x2 => ?_, ⟨W2.1, W2.2, l1, by omega⟩, fun cc x z => ?_⟩
    · rw [W4 cc x (by omega)]; exact F.2 j (by omega) hj b182 cc x c1 c2 x1 x2
    · rw [W4 cc x (by omega)]; exact yT cc x z
  rcases JM _ w MP u66 e66 with ⟨t, t9, t10⟩ | ⟨t, PX, t9, t88⟩
  · refine .inl ?_
    have u7 : u 33 7 = bB X 186 j := by
      rcases tm' with ⟨-, t2, -⟩ | ⟨t2, -⟩
      · exact t2 z7
      · exact absurd t t2
    have q28 := m_f143 (by omega) f3 u28 e3
    rw [q28] at e2
    obtain ⟨B1, B2⟩ := r_F110 (by omega) f _ B e2
    refine ⟨⟨by omega, by omega, by rw [u7]; exact tkc⟩, B1, by rw [B2]; exact t9, ?_⟩
    rw [B2, u7]; exact t10
  · have u7 : u 33 7 = h 33 7 := by
      rcases tm' with ⟨t2, -⟩ | ⟨-, t2⟩
      · exact absurd t2 t
      · exact t2
    refine .inr ⟨u7.trans z7, f, f1, f3, u66, u28, ⟨?_, ⟨t9, ?_⟩, ⟨by omega, q j, by omega, fun i hi hM h2 => (M2 j i (by omega) hM b182 h2).2⟩, fun cc x z => ?_, ?_⟩, e3, e2⟩
    · rw [mcn_s ms, show (100 + 20000 * ((mcn_T (bB X) k 1 j + 1 : Nat) : Int)) = 100 + 20000 * ((mcn_T (bB X) k 1 j : Nat) : Int) + 20000 by omega]
      exact PX
    · exact (ff_X13_makeMethod nn u66 e66 160 52 rfl).trans W2.2
    · exact (ff_X13_makeMethod nn u66 e66 cc x (nw_of (by unfold wl_X13_makeMethod; simp only [List.mem_cons, List.not_mem_nil, or_false]; omega) (by unfold wf_X13_makeMethod; simp only [List.mem_cons, List.not_mem_nil, or_false, Prod.mk.injEq]; omega))).trans (W4 cc x z)
    · refine img_k W5 (fun cc x z => ff_X0_makeMethod nn u eu cc x (nw_of (by unfold wl_X0_makeMethod; simp only [List.mem_cons, List.not_mem_nil, or_false]; omega) (by unfold wf_X0_makeMethod; simp only [List.mem_cons, List.not_mem_nil, or_false, Prod.mk.injEq]; omega))) (fun cc x z => ff_X13_makeMethod nn u66 e66 cc x (nw_of (by unfold wl_X13_makeMethod; simp only [List.mem_cons, List.not_mem_nil, or_false]; omega) (by unfold wf_X13_makeMethod; simp only [List.mem_cons, List.not_mem_nil, or_false, Prod.mk.injEq]; omega)))
/-- the making of a class, as far as its methods -/
theorem rs_begin (Y : CXs X) (kn : k < bn X) (M8 : bM X ≤ 100000) (R0f : R0F X R0) (J : JBw X h r) (hj : j ≤ bM X) (z0 : ∀ i : Nat, i < j → ¬ MSm (bB X) k 1 i) (R : RSB nn X a b p L0 R0 k j h r) : Pc (qf_X0_beginClass nn (k : Int) h) (fun u => RST nn X a b p L0 R0 k j u r ∧ JBw X u r) := by
  have n8 := Y.2.2.1
  have mc0 : ∀ i : Nat, i ≤ j → mcn_T (bB X) k 1 i = 0 := by
    intro i
    induction i with
    | zero => intro _; rfl
    | succ i ih => intro hi; rw [mcn_n (z0 i (by omega))]; exact ih (by omega)
  refine pc_imp (j_begC Y kn J M8) (fun u ⟨E, HM⟩ => ⟨⟨by rw [E 33 7 (by omega) (by omega)]; exact R.1, fun y B F e => ?_⟩, jb_k J (fun cc x z => E cc x (by omega) (by omega)) (fun _ _ _ => rfl)⟩)
  have e7 : u 33 7 = h 33 7 := E 33 7 (by omega) (by omega)
  rcases R.2 y B F e with T | ⟨z7, f, w, ⟨⟨w9, TX⟩, W3, W4, W5⟩, e2⟩
  · exact .inl (tmf_k T e7)
  obtain ⟨y28, y24, yT⟩ := fin_28 F R0f
  refine .inr ⟨e7.trans z7, ?_⟩
  have w24 : w 160 24 = (bn X : Int) := by rw [W4 160 24 (by omega)]; exact y24
  have w28 : w 160 28 = (bM X : Int) := by rw [W4 160 28 (by omega)]; exact y28
  have ST : ∀ f : Nat, Pc (qw_X13_compile_110 nn f (k : Int) w) (fun B => ∃ (f3 : Nat) (u28 : ms_M), qf_X13_makeClass nn (k : Int) w = some u28 ∧ (xl (oq_add (k : Int) 1) fun v29 => qw_X13_compile_110 nn f3 v29 u28) = some B) := fun f => by
    cases f with
    | zero => exact fun _ z => nomatch z
    | succ f3 =>
      rw [show qw_X13_compile_110 nn (f3 + 1) (k : Int) w = (if (w 160 24) ≤ (k : Int) then (qj_X13_compile_136 nn w) else (if ¬ (w 160 9) = 0 then (qj_X13_compile_136 nn w) else (mx_sv (qf_X13_makeClass nn (k : Int) w) fun u28 => xl (oq_add (k : Int) 1) fun v29 => qw_X13_compile_110 nn f3 v29 u28))) from rfl]
      refine pc_if (fun z => absurd z (by omega)) (fun _ => pc_if (fun z => absurd w9 z) (fun _ => ?_))
      refine pc_se ?_; intro u28 g28
      exact fun B eB => ⟨f3, u28, g28, eB⟩
  obtain ⟨f3, u28, g28, e3⟩ := ST f B e2
  obtain ⟨f1, w', P', MC, w52, e4⟩ := HM w ⟨TX, ⟨w9, w24, w28⟩, fun cc x z => by rw [W4 cc x (by omega)]; exact yT cc x z⟩ u28 g28
  have w9' : w' 160 9 = 0 := by rw [MC 160 9 (by omega) (by omega) (by omega)]; exact w9
  have w28' : w' 160 28 = (bM X : Int) := by rw [MC 160 28 (by omega) (by omega) (by omega)]; exact w28
  have SK : ∀ i : Nat, i ≤ j → ∃ f2, qw_X13_makeClass_143 nn (qw_X13_makeClass_68 nn f1) f2 (k : Int) 1 (i : Int) w' = some u28 := by
    intro i
    induction i with
    | zero => intro _; exact ⟨nn, e4⟩
    | succ i ih =>
      intro hi
      obtain ⟨f2, e5⟩ := ih (by omega)
      rcases m_143 (X := X) w9' w28' P'.2.1.2.2.2.2.2 (by omega) f2 u28 e5 with ⟨z, -⟩ | ⟨-, -, f3, e6⟩ | ⟨-, z, -⟩
      · omega
      · exact ⟨f3, e6⟩
      · exact absurd z (z0 i (by omega))
  obtain ⟨f2, e5⟩ := SK j (Nat.le_refl _)
  refine ⟨f3, f1, f2, w', u28, ⟨by rw [mc0 j (Nat.le_refl _)]; exact P', ⟨w9', w52⟩, ?_, fun cc x z => ?_, ?_⟩, e5, e3⟩
  · obtain ⟨l1, D, l2, l3⟩ := W3
    have e88 := MC 160 88 (by omega) (by omega) (by omega)
    exact ⟨by omega, D, by omega, l3⟩
  · rw [MC cc x (by omega) (by omega) (by omega)]; exact W4 cc x z
  · exact img_k W5 (fun cc x z => E cc x (by omega) (by omega)) (fun cc x z => MC cc x (by omega) (by omega) (by omega))
end
end
section
/- the image of a class: the class's side -/
/-- bytes of constant i: how many, which -/
def cl_T (m : ms_M) (i : Nat) : Nat := if m 200 i = 1 then 2 + (m 202 i).toNat else if m 200 i = 2 then 5 else if m 200 i = 3 then 2 else 4
def cb_T (m : ms_M) (i x : Nat) : Int := if x = 0 then m 200 i else if m 200 i = 1 then (if x = 1 then m 202 i else m 204 ((m 201 i).toNat + (x - 2))) else if m 200 i = 2 then oq_shr (m 201 i) (8 * (4 - (x : Int))) % 256 else if x = 1 then m 201 i else if x = 2 then m 202 i else m 203 i
def sm_T (m : ms_M) : Nat → Nat
  | 0 => 0
  | i + 1 => sm_T m i + cl_T m (i + 1)
/-- a constant, for the image -/
def PCi (h m : ms_M) (i : Nat) : Prop := h 46 i = m 200 i ∧ ((m 200 i = 1 ∧ (0 ≤ h 47 i ∧ h 47 i < h 2 9) ∧ ln_T h (h 47 i).toNat = m 202 i ∧ (0 ≤ m 202 i ∧ m 202 i ≤ 255) ∧ (0 ≤ m 201 i ∧ m 201 i ≤ 100000) ∧ ∀ k : Nat, (k : Int) < m 202 i → m 204 ((m 201 i).toNat + k) = h 6 ((h 7 (h 47 i).toNat).toNat + k) ∧ 0 ≤ m 204 ((m 201 i).toNat + k) ∧ m 204 ((m 201 i).toNat + k) ≤ 255) ∨ (m 200 i = 2 ∧ h 47 i = m 201 i) ∨ (m 200 i = 3 ∧ (1 ≤ m 201 i ∧ m 201 i ≤ 200) ∧ h 47 i = m 201 i) ∨ (m 200 i = 4 ∧ ((1 ≤ m 201 i ∧ m 201 i ≤ 200) ∧ (1 ≤ m 202 i ∧ m 202 i ≤ 200) ∧ (1 ≤ m 203 i ∧ m 203 i ≤ 200)) ∧ h 47 i = m 201 i * 65536 + m 202 i * 256 + m 203 i))
section
variable {nn : Nat} {cn i id : Nat} {h g u m w : ms_M}
theorem pci_e (m64 : m 160 64 ≤ 100000) (P : PCe h m i) : PCi h m i := by
  obtain ⟨p1, p2⟩ := P
  refine ⟨p1, ?_⟩
  rcases p2 with ⟨a1, L, ⟨a2, a3, a4⟩, ⟨a5, a51, a52⟩, a6, a7⟩ | ⟨a1 | ⟨a1, a2⟩, a3, -⟩ | ⟨a1, a2, a3⟩
  · have e : ln_T h (h 47 i).toNat = m 202 i := by rw [a3, a5]
    refine .inl ⟨a1, a2, e, by omega, by omega, fun k hk => ?_⟩
    have b := lr_g a52 (k := k) (by omega)
    have c : h 6 ((h 7 (h 47 i).toNat).toNat + k) = L.getD k 0 := a4 k (by omega)
    have d := a7 k (by omega)
    rw [d, c]
    exact ⟨rfl, b⟩
  · exact .inr (.inl ⟨a1, a3⟩)
  · exact .inr (.inr (.inl ⟨a1, a2, a3⟩))
  · exact .inr (.inr (.inr ⟨a1, a2, a3⟩))
theorem pci_k (P : PCi h m i) (e : ∀ cc x : Nat, cc < 256 → g cc x = h cc x) : PCi g m i := by
  unfold PCi ln_T at *
  rw [e 46 _ (by omega), e 47 _ (by omega), e 2 _ (by omega), e 7 _ (by omega), e 7 _ (by omega)]
  refine ⟨P.1, ?_⟩
  rcases P.2 with ⟨a1, a2, a3, a4, a5, a6⟩ | p
  · refine .inl ⟨a1, a2, a3, a4, a5, fun k hk => ?_⟩
    rw [e 6 _ (by omega)]; exact a6 k hk
  · exact .inr p
theorem cl_b (P : PCi h m i) : 2 ≤ cl_T m i ∧ cl_T m i ≤ 257 := by
  unfold cl_T
  rcases P.2 with ⟨a1, -, -, a4, -⟩ | ⟨a1, -⟩ | ⟨a1, -⟩ | ⟨a1, -⟩
  · rw [if_pos a1]; omega
  · rw [if_neg (by omega), if_pos a1]; omega
  · rw [if_neg (by omega), if_neg (by omega), if_pos a1]; omega
  · rw [if_neg (by omega), if_neg (by omega), if_neg (by omega)]; omega
theorem sm_b (P : ∀ i : Nat, 1 ≤ i → i ≤ cn → PCi h m i) : ∀ i : Nat, i ≤ cn → sm_T m i ≤ 257 * i := by
  intro i
  induction i with
  | zero => intro _; exact Nat.le_refl _
  | succ i ih =>
    intro hi
    have a := ih (by omega)
    have b := cl_b (P (i + 1) (by omega) hi)
    show sm_T m i + cl_T m (i + 1) ≤ _
    omega
theorem sm_m : ∀ d i : Nat, sm_T m i ≤ sm_T m (i + d) := by
  intro d
  induction d with
  | zero => intro i; exact Nat.le_refl _
  | succ d ih => intro i; have a := ih i; show _ ≤ sm_T m (i + d) + cl_T m (i + d + 1); omega
theorem smi_le {i j : Nat} (ij : i ≤ j) : sm_T m i ≤ sm_T m j := by
  have a := sm_m (m := m) (j - i) i
  rw [show i + (j - i) = j by omega] at a; exact a
/-- how many bytes a constant takes -/
theorem c_byt (T : NTB h) (P : PCi h m i) {a1 a2 : Int} (e1 : a1 = h 46 i) (e2 : a2 = h 47 i) : Pc (qf_X6_bytesOf nn a1 a2 h) (fun y => y = (cl_T m i : Int)) := by
  unfold qf_X6_bytesOf
  obtain ⟨p1, p2⟩ := P
  rcases p2 with ⟨b1, b2, b3, b4, -⟩ | ⟨b1, -⟩ | ⟨b1, -⟩ | ⟨b1, -⟩
  · have cl : cl_T m i = 2 + (m 202 i).toNat := by unfold cl_T; rw [if_pos b1]
    rw [cl, e2]
    refine pc_if (fun _ => ?_) (fun z => absurd (show a1 = 1 by omega) z)
    refine pc_sv (c_nameLen T b2 (l := ln_T h (h 47 i).toNat) (t := fun k => h 6 ((h 7 (h 47 i).toNat).toNat + k)) ⟨rfl, fun _ _ => rfl⟩) ?_; intro u3 q3
    refine pc_add (by omega) ?_; intro v4 e4
    exact pc_ret (by omega)
  · have cl : cl_T m i = 5 := by unfold cl_T; rw [if_neg (by omega), if_pos b1]
    rw [cl]
    exact pc_if (fun z => absurd z (by omega)) (fun _ => pc_if (fun _ => pc_ret rfl) (fun z => absurd (show a1 = 2 by omega) z))
  · have cl : cl_T m i = 2 := by unfold cl_T; rw [if_neg (by omega), if_neg (by omega), if_pos b1]
    rw [cl]
    exact pc_if (fun z => absurd z (by omega)) (fun _ => pc_if (fun z => absurd z (by omega)) (fun _ => pc_if (fun _ => pc_ret rfl) (fun z => absurd (show a1 = 3 by omega) z)))
  · have cl : cl_T m i = 4 := by unfold cl_T; rw [if_neg (by omega), if_neg (by omega), if_neg (by omega)]
    rw [cl]
    exact pc_if (fun z => absurd z (by omega)) (fun _ => pc_if (fun z => absurd z (by omega)) (fun _ => pc_if (fun z => absurd z (by omega)) (fun _ => pc_ret rfl)))
/-- the size of the image -/
theorem c_size (T : NTB h) (c2 : cn ≤ 200) (e4 : h 45 4 = (cn : Int)) (P : ∀ i : Nat, 1 ≤ i → i ≤ cn → PCi h m i) (l7 : 0 ≤ h 45 7 ∧ h 45 7 ≤ 100000000) : Pc (qf_X6_imageSize nn h) (fun y => y = 3 + h 45 7 + (sm_T m cn : Int)) := by
  have L : ∀ (f i : Nat), i ≤ cn → Pc (qw_X6_imageSize_9 nn f (3 + h 45 7 + (sm_T m i : Int)) ((i + 1 : Nat) : Int) h) (fun y => y = 3 + h 45 7 + (sm_T m cn : Int)) := by
    intro f
    induction f with
    | zero => intro i hi; exact fun _ z => nomatch z
    | succ f ih =>
      intro i hi
      unfold qw_X6_imageSize_9
      refine pc_if (fun z => ?_) (fun z => ?_)
      · rw [show i = cn by omega]; exact pc_ret rfl
      · have pi := P (i + 1) (by omega) (by omega)
        have sb := sm_b P i (by omega)
        have cb := cl_b pi
        refine pc_rA ?_; intro _ _ v3 e3
        rw [Int.toNat_natCast] at e3
        refine pc_rA ?_; intro _ _ v5 e5
        rw [Int.toNat_natCast] at e5
        refine pc_sv (c_byt T pi e3 e5) ?_; intro u7 q7
        refine pc_add (by omega) ?_; intro v8 e8
        refine pc_add (by omega) ?_; intro v9 e9
        have e : v8 = 3 + h 45 7 + (sm_T m (i + 1) : Int) := by
          show v8 = 3 + h 45 7 + ((sm_T m i + cl_T m (i + 1) : Nat) : Int)
          omega
        rw [e, show v9 = ((i + 1 + 1 : Nat) : Int) by omega]
        exact ih (i + 1) (by omega)
  unfold qf_X6_imageSize
  refine pc_add (by omega) ?_; intro v12 e12
  have a := L nn 0 (Nat.zero_le _)
  rw [show v12 = 3 + h 45 7 + ((sm_T m 0 : Nat) : Int) by show v12 = 3 + h 45 7 + ((0 : Nat) : Int); omega]
  exact a
theorem shr_0 {v : Int} (hv : -2147483648 ≤ v ∧ v ≤ 2147483647) : oq_shr v 0 = v := by
  unfold oq_shr
  rw [show (Int32.ofInt 0 &&& 31 : Int32) = 0 by decide]
  rw [show (Int32.ofInt v >>> (0 : Int32)) = Int32.ofInt v by simp]
  exact Int32.toInt_ofInt_of_le (by omega) (by omega)
theorem shr_p {v : Int} {y : Int} {n : Nat} (hn : (Int32.ofInt y &&& 31 : Int32).toBitVec.smod 32 = BitVec.ofNat 32 n) (n32 : n < 32) (hv : -2147483648 ≤ v ∧ v ≤ 2147483647) : oq_shr v y = v / ((2 ^ n : Nat) : Int) := by
  unfold oq_shr
  rw [← Int32.toInt_toBitVec, Int32.toBitVec_shiftRight, hn]
  show ((Int32.ofInt v).toBitVec.sshiftRight (BitVec.ofNat 32 n).toNat).toInt = _
  rw [BitVec.toInt_sshiftRight, BitVec.toNat_ofNat, Nat.mod_eq_of_lt (by omega), Int32.toInt_toBitVec, Int32.toInt_ofInt_of_le (by omega) (by omega), Int.shiftRight_eq_div_pow]
theorem shr_8 {v : Int} (hv : 0 ≤ v ∧ v ≤ 2147483647) : oq_shr v 8 = v / 256 := shr_p (y := 8) (n := 8) (by decide) (by omega) (by omega)
theorem shr_16 {v : Int} (hv : 0 ≤ v ∧ v ≤ 2147483647) : oq_shr v 16 = v / 65536 := shr_p (y := 16) (n := 16) (by decide) (by omega) (by omega)
theorem bb_256 {v : Int} : oq_b (oq_b v) % 256 = v % 256 := by
  rw [oq_b_b, oq_b_al]
  exact Int.bmod_emod
end
end
section
/- the image of a class: constants, the class's side -/
section
variable {nn : Nat} {cn i id pos : Nat} {h g u m w : ms_M}
theorem c_w83 {cl : Nat} (i2 : i ≤ 200) (p6 : pos ≤ 100000) (c2 : cl ≤ 300) (I : 256 ≤ id ∧ id < 900000) : ∀ (f x : Nat) (h : ms_M), 1 ≤ x → x ≤ cl → Pc (qw_X6_writeConstant_83 nn f (i : Int) id (pos : Int) (cl : Int) (x : Int) h) (fun u => (∀ cc y : Nat, ¬ (cc = id ∧ pos + x ≤ y ∧ y < pos + cl) → u cc y = h cc y) ∧ ∀ y : Nat, x ≤ y → y < cl → u id (pos + y) % 256 = oq_shr (h 47 i) (8 * ((cl : Int) - 1 - y)) % 256) := by
  intro f
  induction f with
  | zero => intro x h _ _; exact fun _ z => nomatch z
  | succ f ih =>
    intro x h x1 x2
    unfold qw_X6_writeConstant_83
    refine pc_if (fun z => pc_ret ⟨fun _ _ _ => rfl, fun y y1 y2 => absurd y2 (by omega)⟩) (fun z => ?_)
    refine pc_add (by omega) ?_; intro v1 e1
    refine pc_rA ?_; intro _ _ v3 e3
    rw [Int.toNat_natCast] at e3
    refine pc_xl ?_; intro v4 e4
    rw [oq_sub_eq (by omega) (by omega) (by omega)] at e4
    refine pc_xl ?_; intro v5 e5
    rw [oq_sub_eq (by omega) (by omega) (by omega)] at e5
    refine pc_xl ?_; intro v6 e6
    rw [oq_mul_eq (by omega) (by omega) (by omega)] at e6
    refine pc_xl ?_; intro v7 e7
    refine pc_xl ?_; intro v8 e8
    refine pc_wT ?_; intro h9 e9
    rw [show v1.toNat = pos + x by omega] at e9
    refine pc_add (by omega) ?_; intro v10 e10
    rw [show v10 = ((x + 1 : Nat) : Int) by omega]
    refine pc_imp (ih (x + 1) h9 (by omega) (by omega)) (fun u ⟨a1, a2⟩ => ⟨fun cc y z => ?_, fun y y1 y2 => ?_⟩)
    · rw [a1 cc y (by omega), e9, up_n (by omega)]
    · by_cases q : y = x
      · rw [q, a1 id (pos + x) (by omega), e9, up_s, e8, bb_256, e7, e6, e5, e4, e3]
      · rw [a2 y (by omega) y2, e9, up_n (by omega)]
/-- a constant is written -/
theorem c_wcn (T : NTB h) (P : PCi h m i) (i2 : i ≤ 200) (I : 256 ≤ id ∧ id < 900000) (hl : ((pos + cl_T m i : Nat) : Int) ≤ ln_I h id) (l6 : ln_I h id ≤ 6000) : Pc (qf_X6_writeConstant nn (i : Int) id (pos : Int) h) (fun u => (∀ cc y : Nat, ¬ (cc = id ∧ pos ≤ y ∧ y < pos + cl_T m i) → u cc y = h cc y) ∧ ∀ y : Nat, y < cl_T m i → u id (pos + y) % 256 = cb_T m i y % 256) := by
  have cb := cl_b P
  unfold qf_X6_writeConstant
  refine pc_rA ?_; intro _ _ v13 e13
  rw [Int.toNat_natCast] at e13
  refine pc_rA ?_; intro _ _ v15 e15
  rw [Int.toNat_natCast] at e15
  refine pc_sv (c_byt T P e13 e15) ?_; intro u17 q17
  refine pc_if (fun z => absurd z (by omega)) (fun _ => ?_)
  refine pc_add (by omega) ?_; intro v18 e18
  refine pc_lS ?_; intro v19 e19
  refine pc_if (fun _ => ?_) (fun z => absurd (show v18 ≤ v19 by omega) z)
  refine pc_rA ?_; intro _ _ v21 e21
  rw [Int.toNat_natCast] at e21
  refine pc_xl ?_; intro v22 e22
  refine pc_wT ?_; intro h23 e23
  rw [Int.toNat_natCast] at e23
  have E23 : ∀ cc y : Nat, ¬ (cc = id ∧ y = pos) → h23 cc y = h cc y := fun cc y z => by rw [e23, up_n z]
  have b0 : h23 id pos % 256 = cb_T m i 0 % 256 := by
    rw [e23, up_s, e22, bb_256, e21, P.1]
    unfold cb_T; rw [if_pos rfl]
  refine pc_rA ?_; intro _ _ v25 e25
  rw [Int.toNat_natCast, E23 46 _ (by omega)] at e25
  have p1 := P.1
  refine pc_if (fun z => ?_) (fun z => ?_)
  · rw [q17, show (1 : Int) = ((1 : Nat) : Int) from rfl]
    refine pc_imp (c_w83 (i := i) (id := id) (pos := pos) (cl := cl_T m i) i2 (by omega) (by omega) I nn 1 h23 (by omega) (by omega)) (fun u ⟨a1, a2⟩ => ⟨fun cc y z => ?_, fun y hy => ?_⟩)
    · rw [a1 cc y (by omega)]; exact E23 cc y (by omega)
    · by_cases y0 : y = 0
      · rw [y0, Nat.add_zero, a1 id pos (by omega)]; exact b0
      · rw [a2 y (by omega) hy, E23 47 _ (by omega)]
        unfold cl_T at hy
        unfold cb_T cl_T
        rcases P.2 with ⟨c1, -⟩ | ⟨c1, c2⟩ | ⟨c1, c2, c3⟩ | ⟨c1, c2, c3⟩
        · omega
        · rw [if_neg (by omega), if_pos c1] at hy
          rw [if_neg (by omega : ¬ m 200 i = 1), if_pos c1, if_neg y0, if_neg (by omega : ¬ m 200 i = 1), if_pos c1, c2]
          rw [show (8 : Int) * (((5 : Nat) : Int) - 1 - (y : Int)) = 8 * (4 - (y : Int)) by omega]
          omega
        · rw [if_neg (by omega), if_neg (by omega), if_pos c1] at hy
          rw [if_neg (by omega : ¬ m 200 i = 1), if_neg (by omega : ¬ m 200 i = 2), if_pos c1, if_neg y0, if_neg (by omega : ¬ m 200 i = 1), if_neg (by omega : ¬ m 200 i = 2), if_pos (by omega), c3]
          rw [show (8 : Int) * (((2 : Nat) : Int) - 1 - (y : Int)) = 0 by omega, shr_0 (by omega)]
        · rw [if_neg (by omega), if_neg (by omega), if_neg (by omega)] at hy
          rw [if_neg (by omega : ¬ m 200 i = 1), if_neg (by omega : ¬ m 200 i = 2), if_neg (by omega : ¬ m 200 i = 3), if_neg y0, if_neg (by omega : ¬ m 200 i = 1), if_neg (by omega : ¬ m 200 i = 2), c3]
          have hy3 : y = 1 ∨ y = 2 ∨ y = 3 := by omega
          rcases hy3 with q | q | q
          · rw [q, if_pos rfl, show (8 : Int) * (((4 : Nat) : Int) - 1 - ((1 : Nat) : Int)) = 16 by decide, shr_16 (by omega)]; omega
          · rw [q, if_neg (by omega), if_pos rfl, show (8 : Int) * (((4 : Nat) : Int) - 1 - ((2 : Nat) : Int)) = 8 by decide, shr_8 (by omega)]; omega
          · rw [q, if_neg (by omega), if_neg (by omega), show (8 : Int) * (((4 : Nat) : Int) - 1 - ((3 : Nat) : Int)) = 0 by decide, shr_0 (by omega)]; omega
  · have k1 : m 200 i = 1 := by rw [← p1, ← e25]; exact Classical.byContradiction z
    have cl : cl_T m i = 2 + (m 202 i).toNat := by unfold cl_T; rw [if_pos k1]
    rcases P.2 with ⟨c1, c2, c3, c4, c5, c6⟩ | ⟨c1, -⟩ | ⟨c1, -⟩ | ⟨c1, -⟩
    · refine pc_add (by omega) ?_; intro v26 e26
      refine pc_xl ?_; intro v27 e27
      rw [oq_sub_eq (by omega) (by omega) (by omega)] at e27
      refine pc_xl ?_; intro v28 e28
      refine pc_wT ?_; intro h29 e29
      rw [show v26.toNat = pos + 1 by omega] at e29
      have E29 : ∀ cc y : Nat, ¬ (cc = id ∧ (y = pos ∨ y = pos + 1)) → h29 cc y = h cc y := fun cc y z => by rw [e29, up_n (by omega)]; exact E23 cc y (by omega)
      have T29 : NTB h29 := ntb_f T (fun cc y z => E29 cc y (by omega))
      have b0' : h29 id pos % 256 = cb_T m i 0 % 256 := by rw [e29, up_n (by omega)]; exact b0
      have b1 : h29 id (pos + 1) % 256 = cb_T m i 1 % 256 := by
        rw [e29, up_s, e28, bb_256]
        unfold cb_T; rw [if_neg (by omega), if_pos k1, if_pos rfl]
        omega
      refine pc_rA ?_; intro _ _ v32 e32
      rw [Int.toNat_natCast, E29 47 _ (by omega)] at e32
      refine pc_add (by omega) ?_; intro v33 e33
      refine pc_sv (P := fun u => (∀ cc y : Nat, ¬ (cc = id ∧ pos ≤ y ∧ y < pos + cl_T m i) → u cc y = h cc y) ∧ ∀ y : Nat, y < cl_T m i → u id (pos + y) % 256 = cb_T m i y % 256) ?_ (fun u hu => pc_ret hu)
      unfold qf_X9_copyName
      rw [e32]
      refine pc_sv (c_nameLen T29 (x := h 47 i) (by rw [E29 2 9 (by omega)]; exact c2) (l := m 202 i) (t := fun k => h29 6 ((h29 7 (h 47 i).toNat).toNat + k)) ⟨by rw [← c3]; unfold ln_T; rw [E29 7 _ (by omega), E29 7 _ (by omega)], fun _ _ => rfl⟩) ?_; intro u2 q2
      refine pc_if (fun z => absurd z (by omega)) (fun _ => ?_)
      refine pc_add (by omega) ?_; intro v3 e3
      refine pc_lS ?_; intro v4 e4
      have L29 : ln_I h29 id = ln_I h id := by unfold ln_I; rw [if_neg (by omega), if_neg (by omega)]; exact E29 900001 id (by omega)
      refine pc_if (fun z => absurd z (by omega)) (fun _ => ?_)
      have B01 : ∀ y : Nat, y < 2 → h29 id (pos + y) % 256 = cb_T m i y % 256 := fun y hy => by
        by_cases y0 : y = 0
        · rw [y0, Nat.add_zero]; exact b0'
        · rw [show y = 1 by omega]; exact b1
      refine pc_if (fun z => pc_ret ⟨fun cc y z => E29 cc y (by omega), fun y hy => B01 y (by omega)⟩) (fun z => ?_)
      refine pc_rA ?_; intro _ _ v7 e7
      rw [E29 7 _ (by omega)] at e7
      refine pc_cpS ?_; intro h8 e8
      have E8 : ∀ cc y : Nat, h8 cc y = if cc = id ∧ v33.toNat ≤ y ∧ y < v33.toNat + u2.toNat then h29 6 (v7.toNat + (y - v33.toNat)) else h29 cc y := fun cc y => by rw [e8]; rfl
      refine pc_ret ⟨fun cc y z => ?_, fun y hy => ?_⟩
      · rw [E8, if_neg (by omega)]; exact E29 cc y (by omega)
      · by_cases y2 : y < 2
        · rw [E8, if_neg (by omega)]; exact B01 y y2
        · rw [E8, if_pos ⟨rfl, by omega, by omega⟩, E29 6 _ (by omega)]
          have o := (c6 (y - 2) (by omega)).1
          unfold cb_T
          rw [if_neg (by omega), if_pos k1, if_neg (by omega), o, e7]
          rw [show pos + y - v33.toNat = y - 2 by omega]
    · omega
    · omega
    · omega
end
end
section
/- the image of a class: the class's side, whole -/
/-- the bytes of an image -/
def CIM (m : ms_M) (cn : Nat) (l7 : Int) (src b : Nat → Int) : Prop := (b 0 % 256 = 74 ∧ b 1 % 256 = 77 ∧ b 2 % 256 = (cn : Int) % 256) ∧ (∀ i : Nat, i < cn → ∀ x : Nat, x < cl_T m (i + 1) → b (3 + sm_T m i + x) % 256 = cb_T m (i + 1) x % 256) ∧ ∀ x : Nat, (x : Int) < l7 → b (3 + sm_T m cn + x) % 256 = src x % 256
section
variable {nn : Nat} {cn i id pos k : Nat} {h g u m w : ms_M}
theorem fr_w83 {l1 l3 l4 : Int} : ∀ (f : Nat) (l5 : Int) (h : ms_M), Pc (qw_X6_writeConstant_83 nn f l1 id l3 l4 l5 h) (fun u => ∀ cc y : Nat, ¬ cc = id → u cc y = h cc y) := by
  intro f
  induction f with
  | zero => intro l5 h; exact fun _ z => nomatch z
  | succ f ih =>
    intro l5 h
    unfold qw_X6_writeConstant_83
    refine pc_if (fun z => pc_ret (fun _ _ _ => rfl)) (fun z => ?_)
    refine pc_xl ?_; intro v1 _
    refine pc_rA ?_; intro _ _ v3 _
    refine pc_xl ?_; intro v4 _
    refine pc_xl ?_; intro v5 _
    refine pc_xl ?_; intro v6 _
    refine pc_xl ?_; intro v7 _
    refine pc_xl ?_; intro v8 _
    refine pc_wT ?_; intro h9 e9
    refine pc_xl ?_; intro v10 _
    exact pc_imp (ih v10 h9) (fun u a cc y z => by rw [a cc y z, e9, up_n (by omega)])
theorem fr_wcn {l1 l3 : Int} : Pc (qf_X6_writeConstant nn l1 id l3 h) (fun u => ∀ cc y : Nat, ¬ cc = id → u cc y = h cc y) := by
  unfold qf_X6_writeConstant
  refine pc_rA ?_; intro _ _ v13 _
  refine pc_rA ?_; intro _ _ v15 _
  refine pc_se ?_; intro u17 _
  refine pc_if (fun z => pc_ret (fun _ _ _ => rfl)) (fun _ => ?_)
  refine pc_xl ?_; intro v18 _
  refine pc_lS ?_; intro v19 _
  refine pc_if (fun _ => ?_) (fun z => pc_ret (fun _ _ _ => rfl))
  refine pc_rA ?_; intro _ _ v21 _
  refine pc_xl ?_; intro v22 _
  refine pc_wT ?_; intro h23 e23
  refine pc_rA ?_; intro _ _ v25 _
  refine pc_if (fun _ => pc_imp (fr_w83 nn 1 h23) (fun u a cc y z => by rw [a cc y z, e23, up_n (by omega)])) (fun _ => ?_)
  refine pc_xl ?_; intro v26 _
  refine pc_xl ?_; intro v27 _
  refine pc_xl ?_; intro v28 _
  refine pc_wT ?_; intro h29 e29
  refine pc_rA ?_; intro _ _ v32 _
  refine pc_xl ?_; intro v33 _
  refine pc_se ?_; intro u35 e35
  exact pc_ret (fun cc y z => by rw [cpn_fr e35 cc y z, e29, up_n (by omega), e23, up_n (by omega)])
theorem fr_40 : ∀ (f : Nat) (l2 l3 : Int) (h : ms_M) (c s : Nat), Pc (qw_X6_closeImage_40 nn f id l2 l3 h c s) (fun A => A.1 = (id : Int) ∧ ∀ cc y : Nat, ¬ cc = id → A.2.1 cc y = h cc y) := by
  intro f
  induction f with
  | zero => intro l2 l3 h c s; exact fun _ z => nomatch z
  | succ f ih =>
    intro l2 l3 h c s
    unfold qw_X6_closeImage_40
    refine pc_if (fun z => ?_) (fun z => ?_)
    · refine pc_cpS ?_; intro h4 e4
      refine pc_ret ⟨rfl, fun cc y z => ?_⟩
      show h4 cc y = h cc y
      rw [e4]; unfold cp_M; rw [if_neg (by omega)]
    · refine pc_sv fr_wcn ?_; intro u6 E6
      refine pc_rA ?_; intro _ _ v8 _
      refine pc_rA ?_; intro _ _ v10 _
      refine pc_se ?_; intro u12 _
      refine pc_xl ?_; intro v13 _
      refine pc_xl ?_; intro v14 _
      exact pc_imp (ih v13 v14 u6 c s) (fun A a => ⟨a.1, fun cc y z => by rw [a.2 cc y z]; exact E6 cc y z⟩)
/-- what closing an image changes -/
def FCI (h u : ms_M) : Prop := (256 ≤ cn_M h ∧ cn_M h < 700000) ∧ cn_M u = cn_M h + 1 ∧ ∀ cc y : Nat, ¬ cc = cn_M h → ¬ (cc = 900000 ∧ y = 0) → ¬ (cc = 900001 ∧ y = cn_M h) → u cc y = h cc y
theorem nw_cn {y : Int} {z : ms_M} (hM : 256 ≤ h 900000 0 ∧ h 900000 0 < 700000) (e : z = nw_M h y (fun _ => 0)) : FCI h z ∧ ln_I z (cn_M h) = y := by
  have c1 : (256 ≤ cn_M h ∧ cn_M h < 700000) := by unfold cn_M; omega
  have z0 : z 900000 0 = h 900000 0 + 1 := by rw [e]; unfold nw_M; rw [if_neg (by omega), if_pos ⟨rfl, rfl⟩]
  refine ⟨⟨c1, ?_, fun cc y z1 z2 z3 => ?_⟩, ?_⟩
  · unfold cn_M; omega
  · rw [e]; unfold nw_M; rw [if_neg z1, if_neg z2, if_neg z3]
  · unfold ln_I
    rw [if_neg (by omega), e]
    unfold nw_M; rw [if_neg (by omega), if_neg (by omega), if_pos ⟨rfl, rfl⟩]
theorem fci_k (F : FCI h g) (e : ∀ cc y : Nat, ¬ cc = cn_M h → u cc y = g cc y) : FCI h u := by
  obtain ⟨f1, f2, f3⟩ := F
  refine ⟨f1, ?_, fun cc y z1 z2 z3 => by rw [e cc y z1]; exact f3 cc y z1 z2 z3⟩
  unfold cn_M at *
  rw [e 900000 0 (by omega)]; exact f2
theorem fr_ci : Pc (qf_X6_closeImage nn h) (fun A => A.1 = (cn_M h : Int) ∧ FCI h A.2.1) := by
  unfold qf_X6_closeImage
  refine pc_se ?_; intro u17 _
  refine pc_if (fun z => ?_) (fun z => ?_)
  · refine pc_se ?_; intro u19 _
    refine pc_ck ?_; intro _
    refine pc_nB ?_; intro z hM ez
    obtain ⟨F, -⟩ := nw_cn hM ez
    refine pc_wT ?_; intro h22 e22
    refine pc_wT ?_; intro h23 e23
    refine pc_xl ?_; intro v25 _
    refine pc_wT ?_; intro h26 e26
    exact pc_imp (fr_40 nn 3 1 h26 _ _) (fun A a => ⟨a.1, fci_k F (fun cc y z => by rw [a.2 cc y z, e26, up_n (by omega), e23, up_n (by omega), e22, up_n (by omega)])⟩)
  · refine pc_ck ?_; intro _
    refine pc_nB ?_; intro z hM ez
    exact pc_ret ⟨rfl, (nw_cn hM ez).1⟩
/-- what closing a class changes -/
theorem fr_cc : Pc (qf_X0_closeClass nn (k : Int) h) (fun A => (A.1 33 7 = h 33 7 ∨ (h 33 7 = -1 ∧ qf_X2_tokenOfClass nn (k : Int) h = some (A.1 33 7))) ∧ ∀ cc y : Nat, cc < 256 → ¬ cc = 43 → ¬ (cc = 33 ∧ y = 7) → A.1 cc y = h cc y) := by
  unfold qf_X0_closeClass
  refine pc_se ?_; intro u3 _
  refine pc_se ?_; intro u6 e6
  refine pc_sv (P := fun u8 => (u8 33 7 = h 33 7 ∨ (h 33 7 = -1 ∧ qf_X2_tokenOfClass nn (k : Int) h = some (u8 33 7))) ∧ ∀ cc y : Nat, ¬ (cc = 33 ∧ y = 7) → u8 cc y = h cc y) ?_ ?_
  · unfold qf_X0_noteMuch
    refine pc_if (fun _ => pc_ret ⟨.inl rfl, fun _ _ _ => rfl⟩) (fun _ => ?_)
    refine pc_if (fun _ => pc_ret ⟨.inl rfl, fun _ _ _ => rfl⟩) (fun z => ?_)
    refine pc_xl ?_; intro h2 e2
    refine pc_ret ⟨.inr ⟨Classical.byContradiction z, ?_⟩, fun cc y z => by rw [e2, up_n z]⟩
    rw [e2, up_s]; exact e6
  intro u8 ⟨a1, a2⟩
  have R : Pc (some (u8, 0, 0) : Option (ms_M × Nat × Nat)) (fun A => (A.1 33 7 = h 33 7 ∨ (h 33 7 = -1 ∧ qf_X2_tokenOfClass nn (k : Int) h = some (A.1 33 7))) ∧ ∀ cc y : Nat, cc < 256 → ¬ cc = 43 → ¬ (cc = 33 ∧ y = 7) → A.1 cc y = h cc y) := pc_ret ⟨a1, fun cc y _ _ z => a2 cc y z⟩
  refine pc_if (fun _ => R) (fun _ => pc_if (fun _ => R) (fun _ => pc_if (fun _ => R) (fun _ => pc_if (fun _ => R) (fun _ => ?_))))
  refine pc_sv fr_ci ?_; intro u17 ⟨_, F⟩
  have c1 := F.1
  unfold wr_QB
  refine pc_if (fun _ => ?_) (fun _ => fun _ z => nomatch z)
  refine pc_ret ⟨?_, fun cc y z1 z2 z3 => ?_⟩
  · have e : up_M u17.2.1 43 (k : Int).toNat u17.1 33 7 = u8 33 7 := by rw [up_n (by omega)]; exact F.2.2 33 7 (by omega) (by omega) (by omega)
    show (up_M u17.2.1 43 (k : Int).toNat u17.1 33 7 = h 33 7 ∨ (h 33 7 = -1 ∧ qf_X2_tokenOfClass nn (k : Int) h = some (up_M u17.2.1 43 (k : Int).toNat u17.1 33 7)))
    rw [e]; exact a1
  · show up_M u17.2.1 43 _ _ cc y = _
    rw [up_n (by omega), F.2.2 cc y (by omega) (by omega) (by omega)]; exact a2 cc y z3
end
end

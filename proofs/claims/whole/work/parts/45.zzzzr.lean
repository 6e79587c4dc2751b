/- a method: the making, whole -/
section
variable {nn : Nat} {X : BCx} {B a b : Int} {k j p q : Nat} {h h0 g u r rB m w hB uE u4 : ms_M} {x y : Int × ms_M}
/-- a byte told of both sides: bounds -/
theorem m_meth (Y : CXs X) (M : MTm X k j) (J : JBw X h r) (C : CMb nn X k j h h0 g hB) (r54 : rB 160 54 = 0) (r51 : rB 160 51 = (j : Int)) (SO : SOk nn X (bB X 190 j) a b p q 0 hB rB x y) (ex : qf_X0_readBlock nn 0 hB = some x) (hE : (x.1 = 0 ∧ uE = x.2) ∨ (¬ x.1 = 0 ∧ COp 177 x.2 uE)) (e4 : qf_X1_writeTo nn uE = some u4) (MP : MPr X B a b p q h y.2 m) : Pc (qf_X13_makeMethod nn (j : Int) m) (fun w => (TMu uE ∧ w 160 9 = 11 ∧ w 160 10 = bP X (bB X 186 j).toNat) ∨ (¬ TMu uE ∧ PBX X (B + 20000) u4 w ∧ w 160 9 = 0 ∧ (m 160 88 ≤ w 160 88 ∧ w 160 88 + 4 * (p : Int) ≤ m 160 88 + 4 * (q : Int)))) := by
  obtain ⟨u57, u66, e57, W57, U66, hh, CP, eB⟩ := C
  obtain ⟨P, bB0, AM, ⟨m9, m52, m88, mq⟩, MT⟩ := MP
  obtain ⟨⟨x96, hx⟩, MB, T2, vt24, b188, vp⟩ := mt_row Y M
  have exx : mx_X X k j = 12 * k + mcn_T (bB X) k 1 j := rfl
  have m4 := M.2.2.2.1
  have n8 := Y.2.2.1
  have k8 := M.1.2
  have pc : p < bc X := by have := SO.2.1.1.2.2.1; have := SO.2.1.1.2.1; omega
  have qc := SO.2.1.1.2.1
  have c3 := Y.1.2.1
  have b7 := P.2.2.1
  have G := J.2.2.2.2.2
  have TB : TBc (bK X) (bP X) (bc X) h := J.1.1.1.1
  have VL : VLc (bK X) (bV X) (bc X) h := J.1.1.1.2.1
  obtain ⟨CB, l57, -⟩ := c_begM Y M G TB VL (by omega) u57 e57
  obtain ⟨u2, u7, u9, u14, A2, e7, A9, e14, A16⟩ := CB
  have TP : ∀ cc y : Nat, (178 ≤ cc ∧ cc ≤ 195) → m cc y = bB X cc y := P.2.1.2.2.2.2.2
  have b182 : 0 < bB X 182 j := by omega
  -- the class's frames
  have z7 := U66.1.2.2.2.1
  have s70 : h0 34 7 ≤ 10 ∧ h0 34 7 = (bF X : Int) ∧ h0 34 8 = (bF X : Int) ∧ (bF X = 1 → h0 37 0 = -1 ∧ h0 38 0 = bo X) ∧ (bF X = 0 ∨ bF X = 1) := by
    have z8 := U66.1.2.2.2.2.1
    rcases hh with ⟨f, A⟩ | ⟨f, e⟩
    · have a := A.2.2.1 (by omega)
      rw [show (u66 34 7).toNat = 0 by omega] at a
      have a8 := A.2.1
      rw [if_pos (by omega)] at a8
      exact ⟨by rw [A.1]; omega, by rw [A.1]; omega, by omega, fun _ => a, .inr f⟩
    · exact ⟨by rw [e]; omega, by rw [e]; omega, by rw [e]; omega, fun q => by omega, .inl f⟩
  obtain ⟨s71, s72, s73, s74, s75⟩ := s70
  obtain ⟨-, CF⟩ := cpr_f _ _ _ CP
  have H0 : ∀ cc y : Nat, ¬ (cc = 34 ∧ (y = 7 ∨ y = 8)) → ¬ (cc = 37 ∨ cc = 38) → h0 cc y = u66 cc y := fun cc y z1 z2 => by
    rcases hh with ⟨-, A⟩ | ⟨-, e⟩
    · exact A.2.2.2 cc y z1 (by omega)
    · rw [e]
  have HBg : ∀ cc y : Nat, ¬ (cc = 33 ∧ (y = 8 ∨ y = 9 ∨ y = 12)) → ¬ (cc = 2 ∧ y = 10) → hB cc y = g cc y := fun cc y z1 z2 => by rw [eB, up_n (by omega), up_n (by omega), up_n (by omega), up_n (by omega)]
  have HB6 : ∀ cc y : Nat, ¬ (cc = 33 ∧ (y = 8 ∨ y = 9 ∨ y = 12)) → ¬ (cc = 2 ∧ y = 10) → ¬ (cc = 34 ∧ (y = 7 ∨ y = 8)) → ¬ (cc = 37 ∨ cc = 38) → hB cc y = u66 cc y := fun cc y z1 z2 z3 z4 => by rw [HBg cc y z1 z2, CF cc y z3 z4]; exact H0 cc y z3 z4
  have HB5 : ∀ cc y : Nat, ¬ (cc = 33 ∧ (y = 8 ∨ y = 9 ∨ y = 12)) → ¬ (cc = 2 ∧ y = 10) → ¬ cc = 34 → ¬ (cc = 37 ∨ cc = 38) → ¬ cc = 49 → hB cc y = u57 cc y := fun cc y z1 z2 z3 z4 z5 => by rw [HB6 cc y z1 z2 (by omega) z4]; exact U66.2.2 cc y (by omega) (by omega)
  -- the reference's begin
  unfold qf_X13_makeMethod
  refine pc_xl ?_; intro h166 e166
  refine pc_rA ?_; intro _ _ v168 e168
  rw [Int.toNat_natCast, e166, up_n (by omega), TP 182 _ (by omega)] at e168
  have T21 : ∀ s0 : Int, s0 = 1 - (bF X : Int) → Pc (qj_X13_makeMethod_21 nn (j : Int) s0 h166) (fun w => (TMu uE ∧ w 160 9 = 11 ∧ w 160 10 = bP X (bB X 186 j).toNat) ∨ (¬ TMu uE ∧ PBX X (B + 20000) u4 w ∧ w 160 9 = 0 ∧ (m 160 88 ≤ w 160 88 ∧ w 160 88 + 4 * (p : Int) ≤ m 160 88 + 4 * (q : Int)))) := fun s0 es => by
    unfold qj_X13_makeMethod_21
    refine pc_ck (fun _ => ?_)
    refine pc_xl ?_; intro k1 f1
    refine pc_xl ?_; intro k2 f2
    refine pc_xl ?_; intro k3 f3
    refine pc_xl ?_; intro k4 f4
    refine pc_xl ?_; intro k5 f5
    refine pc_xl ?_; intro k6 f6
    refine pc_xl ?_; intro k7 f7
    refine pc_xl ?_; intro k8' f8
    refine pc_xl ?_; intro k9 f9
    refine pc_xl ?_; intro k10 f10
    refine pc_xl ?_; intro k11 f11
    refine pc_xl ?_; intro m2 f12
    have E2 : ∀ cc y : Nat, ¬ (cc = 160 ∧ (y = 51 ∨ y = 53 ∨ y = 50 ∨ y = 72 ∨ y = 54 ∨ y = 57 ∨ y = 68 ∨ y = 70 ∨ y = 71 ∨ y = 78 ∨ y = 79 ∨ y = 84 ∨ y = 87)) → m2 cc y = m cc y := fun cc y z => by rw [f12, up_n (by omega), f11, up_n (by omega), f10, up_n (by omega), f9, up_n (by omega), f8, up_n (by omega), f7, up_n (by omega), f6, up_n (by omega), f5, up_n (by omega), f4, up_n (by omega), f3, up_n (by omega), f2, up_n (by omega), f1, up_n (by omega), e166, up_n (by omega)]
    have d87 : m2 160 87 = 0 := by rw [f12, up_s]
    have d84 : m2 160 84 = 0 := by rw [f12, up_n (by omega), f11, up_s]
    have d79 : m2 160 79 = 0 := by rw [f12, up_n (by omega), f11, up_n (by omega), f10, up_s]
    have d78 : m2 160 78 = 0 := by rw [f12, up_n (by omega), f11, up_n (by omega), f10, up_n (by omega), f9, up_s]
    have d71 : m2 160 71 = 0 := by rw [f12, up_n (by omega), f11, up_n (by omega), f10, up_n (by omega), f9, up_n (by omega), f8, up_s]
    have d70 : m2 160 70 = 0 := by rw [f12, up_n (by omega), f11, up_n (by omega), f10, up_n (by omega), f9, up_n (by omega), f8, up_n (by omega), f7, up_s]
    have d68 : m2 160 68 = 0 := by rw [f12, up_n (by omega), f11, up_n (by omega), f10, up_n (by omega), f9, up_n (by omega), f8, up_n (by omega), f7, up_n (by omega), f6, up_s]
    have d57 : m2 160 57 = 0 := by rw [f12, up_n (by omega), f11, up_n (by omega), f10, up_n (by omega), f9, up_n (by omega), f8, up_n (by omega), f7, up_n (by omega), f6, up_n (by omega), f5, up_s]
    have d54 : m2 160 54 = 0 := by rw [f12, up_n (by omega), f11, up_n (by omega), f10, up_n (by omega), f9, up_n (by omega), f8, up_n (by omega), f7, up_n (by omega), f6, up_n (by omega), f5, up_n (by omega), f4, up_s]
    have d72 : m2 160 72 = 0 := by rw [f12, up_n (by omega), f11, up_n (by omega), f10, up_n (by omega), f9, up_n (by omega), f8, up_n (by omega), f7, up_n (by omega), f6, up_n (by omega), f5, up_n (by omega), f4, up_n (by omega), f3, up_s]
    have d50 : m2 160 50 = 0 := by rw [f12, up_n (by omega), f11, up_n (by omega), f10, up_n (by omega), f9, up_n (by omega), f8, up_n (by omega), f7, up_n (by omega), f6, up_n (by omega), f5, up_n (by omega), f4, up_n (by omega), f3, up_n (by omega), f2, up_s]
    have d53 : m2 160 53 = s0 := by rw [f12, up_n (by omega), f11, up_n (by omega), f10, up_n (by omega), f9, up_n (by omega), f8, up_n (by omega), f7, up_n (by omega), f6, up_n (by omega), f5, up_n (by omega), f4, up_n (by omega), f3, up_n (by omega), f2, up_n (by omega), f1, up_s]
    have d51 : m2 160 51 = (j : Int) := by rw [f12, up_n (by omega), f11, up_n (by omega), f10, up_n (by omega), f9, up_n (by omega), f8, up_n (by omega), f7, up_n (by omega), f6, up_n (by omega), f5, up_n (by omega), f4, up_n (by omega), f3, up_n (by omega), f2, up_n (by omega), f1, up_n (by omega), e166, up_s]
    have S0 : SG2 X h0 m2 := by
      refine ⟨⟨⟨by omega, by omega, by omega⟩, ?_, fun s hs => absurd hs (by omega)⟩, ⟨by omega, by omega⟩, fun s hs => ?_⟩
      · rcases s75 with f | f
        · exact .inl f
        · exact .inr ⟨f, s74 f⟩
      · have fq : bF X = 1 := by omega
        have ow := Y.2.2.2.1
        rw [show s = 0 by omega, (s74 fq).2]
        exact ⟨.inr (.inr (.inr (.inr (.inr (.inl (by omega)))))), by omega⟩
    refine m_pars Y M S0 (fun cc x z => by rw [E2 cc x (by omega)]; exact TP cc x z) CP s71 (fun m3 S3 E3' => ?_)
    have E3 : ∀ cc y : Nat, ¬ cc = 160 → ¬ (cc = 196 ∨ cc = 197) → m3 cc y = m cc y := fun cc y z1 z2 => by rw [E3' cc y (by omega) z2]; exact E2 cc y (by omega)
    have E36 : ∀ y : Nat, (y = 62 ∨ y = 64 ∨ y = 66 ∨ y = 9 ∨ y = 52 ∨ y = 88 ∨ y = 97) → m3 160 y = m 160 y := fun y z => by rw [E3' 160 y (by omega) (by omega)]; exact E2 160 y (by omega)
    refine pc_rA ?_; intro _ _ v127 e127
    rw [Int.toNat_natCast, E3 186 _ (by omega) (by omega), TP 186 _ (by omega)] at e127
    rw [show v127 = (((bB X 186 j).toNat : Nat) : Int) by omega]
    have W2 := wfc_p A2
    -- the name
    have X2 : TXE (bK X) (bV X) (bC X) (bW X) (bn X) (bA X) (bB X) u2 m3 := txe_k P.2.1 (fun cc y z => W2.2 cc y (by omega) (by omega)) (fun cc y z => E3 cc y (by omega) (by omega))
    have L2 : PLR u2 m3 := plr_k P.1.1 (fun cc y z => A2.2.2 cc y (by omega) (by omega)) (fun cc y z => by
      rcases z with ⟨z1, z2⟩ | z
      · rw [z1]; exact E36 y (by omega)
      · exact E3 cc y (by omega) (by omega))
    have D2 : MBd m3 := ⟨by rw [E36 62 (by omega)]; exact P.1.2.1.1, by rw [E36 64 (by omega)]; exact P.1.2.1.2⟩
    have Q2 : SPL m3 [] := spl_k P.1.2.2 (fun cc y z => by
      rcases z with ⟨z1, z2⟩ | z
      · rw [z1, z2]; exact E36 66 (by omega)
      · exact E3 cc y (by omega) (by omega))
    refine pc_sv (pc_and (j_tok X2 Q2 L2 D2 T2.2 u7 e7) (fun w ew => ew)) ?_; intro u129 ⟨⟨C7, Q7⟩, e129⟩
    -- the kind
    have X7 := txe_p X2 C7
    have X9 : TXE (bK X) (bV X) (bC X) (bW X) (bn X) (bA X) (bB X) u9 u129.2 := txe_k X7 (fun cc y z => A9.2.2 cc y (by omega) (by omega)) (fun _ _ _ => rfl)
    have L9 : PLR u9 u129.2 := plr_k C7.1 (fun cc y z => A9.2.2 cc y (by omega) (by omega)) (fun _ _ _ => rfl)
    refine pc_sv (pc_and (j_kindM n8 X9 Q7 L9 C7.2.2.2.2.2 (x := mx_X X k j) (pn := (bB X 189 j).toNat) (bp := (bB X 188 j).toNat) x96 hx b182 ⟨vt24, MB.1.2.2.1⟩ MB.1.2.2.2 (by have := MB.2.2.1; omega) (by have := MB.2.2.1; omega) (by have := MB.2.2.1; omega) (by have := MB.2.2.1; omega) (fun i hi => by
      obtain ⟨-, p2, p3, -⟩ := MB.2.2.2.1 i (by omega)
      exact ⟨⟨vp i (by omega), p2.2.1⟩, p2.2.2⟩) u14 e14) (fun w ew => ew)) ?_; intro u131 ⟨⟨C14, Q14⟩, e131⟩
    have X14 := txe_p X9 C14
    have FB : ∀ cc y : Nat, ¬ (cc = 160 ∧ (y = 62 ∨ y = 64 ∨ y = 66)) → ¬ (200 ≤ cc ∧ cc ≤ 205) → u131.2 cc y = m3 cc y := fun cc y z1 z2 => by rw [C14.2.2.2.2.1 cc y z1 z2]; exact C7.2.2.2.2.1 cc y z1 z2
    have FB0 : ∀ y : Nat, ¬ (y = 62 ∨ y = 64 ∨ y = 66 ∨ y = 50 ∨ y = 72) → u131.2 160 y = m2 160 y := fun y z => by rw [FB 160 y (by omega) (by omega)]; exact E3' 160 y (by omega) (by omega)
    have HC : ∀ cc y : Nat, ¬ (cc = 33 ∧ (y = 8 ∨ y = 9 ∨ y = 12)) → ¬ (cc = 2 ∧ y = 10) → ¬ cc = 34 → ¬ (cc = 37 ∨ cc = 38) → ¬ cc = 49 → ¬ (cc = 45 ∧ y = 7) → ¬ cc = 48 → hB cc y = u14.2 cc y := fun cc y z1 z2 z3 z4 z5 z6 z7 => by rw [HB5 cc y z1 z2 z3 z4 z5]; exact A16.2.2 cc y z6 (by omega)
    have PB2 : (PLR hB u131.2 ∧ MBd u131.2 ∧ SPL u131.2 []) ∧ TXE (bK X) (bV X) (bC X) (bW X) (bn X) (bA X) (bB X) hB u131.2 := ⟨⟨plr_k C14.1 (fun cc y z => HC cc y (by omega) (by omega) (by omega) (by omega) (by omega) (by omega) (by omega)) (fun _ _ _ => rfl), C14.2.2.2.2.2, Q14⟩, txe_k X14 (fun cc y z => HC cc y (by omega) (by omega) (by omega) (by omega) (by omega) (by omega) (by omega)) (fun _ _ _ => rfl)⟩
    have SB : SG2 X hB u131.2 := sg2_k S3 (fun cc y z => HBg cc y (by omega) (by omega)) (fun cc y z => FB cc y (by omega) (by omega))
    have zc := U66.1
    have HZ : ∀ y : Nat, ¬ (y = 7 ∨ y = 8) → hB 34 y = u66 34 y := fun y z => HB6 34 y (by omega) (by omega) (by omega) (by omega)
    have TB2 : ∀ cc x : Nat, ((163 ≤ cc ∧ cc ≤ 173) ∨ cc = 177) → u131.2 cc x = bT X cc x := fun cc x z => by rw [FB cc x (by omega) (by omega), E3 cc x (by omega) (by omega)]; exact MT cc x z
    have b88 : u131.2 160 88 = m 160 88 := by rw [FB0 88 (by omega)]; exact E2 160 88 (by omega)
    have MK0 : MKe X hB u131.2 := mke_begin Y SB PB2 ⟨by rw [HZ 1 (by omega)]; exact zc.1, by rw [HZ 3 (by omega)]; exact zc.2.1, by rw [HZ 4 (by omega)]; exact zc.2.2.1, by rw [HZ 10 (by omega)]; exact zc.2.2.2.2.2.1, by rw [HZ 14 (by omega)]; exact zc.2.2.2.2.2.2.1, by rw [HZ 15 (by omega)]; exact zc.2.2.2.2.2.2.2⟩ ⟨by rw [FB0 68 (by omega)]; exact d68, by rw [FB0 70 (by omega)]; exact d70, by rw [FB0 71 (by omega)]; exact d71, by rw [FB0 78 (by omega)]; exact d78, by rw [FB0 79 (by omega)]; exact d79, by rw [FB0 84 (by omega)]; exact d84, by rw [FB0 87 (by omega)]; exact d87⟩ (by rw [FB0 53 (by omega), d53]; exact es) (by rw [FB0 52 (by omega), E2 160 52 (by omega)]; exact m52) (by rw [FB0 9 (by omega), E2 160 9 (by omega)]; exact m9) (by rw [b88]; exact m88) TB2
    refine pc_rA ?_; intro _ _ v133 e133
    rw [Int.toNat_natCast, FB 190 _ (by omega) (by omega), E3 190 _ (by omega) (by omega), TP 190 _ (by omega)] at e133
    rw [e133]
    have I : MGi X (fun _ => False) (fun _ _ => False) [] 0 0 a b p q hB rB y.2 u131.2 := by
      refine ⟨⟨MK0, an_m AM (fun cc x c1 c2 => by rw [FB cc x (by omega) (by omega)]; exact E3 cc x (by omega) (by omega))⟩, ⟨by rw [FB0 57 (by omega)]; exact d57, by rw [b88]; exact mq, by rw [FB0 54 (by omega), r54]; exact d54, by rw [FB0 51 (by omega), r51]; exact d51⟩, fun z => absurd z (by omega), fun p n z => z.elim, fun z => absurd z (by omega)⟩
    refine pc_sv (pc_and (SO.2.2 200 (fun _ => False) (fun _ _ => False) [] 0 0 u131.2 I) (fun w ew => ew)) ?_; intro u135 ⟨⟨en, ⟨Z, MZ, _, zy2, _, _⟩, FW, l1, l2⟩, e135⟩
    rw [zy2 r54, pbz_n, wlz_n, List.append_nil] at MZ
    have K1 : MKe X x.2 u135.2 := MZ
    have F135 : ∀ cc y : Nat, cc = 225 ∨ (cc = 160 ∧ (y = 97 ∨ y = 53 ∨ y = 9)) ∨ (163 ≤ cc ∧ cc ≤ 173) ∨ (178 ≤ cc ∧ cc ≤ 195) → u135.2 cc y = u131.2 cc y := fun cc y z => ff_X13_make nn u135 e135 cc y (nw_of (by unfold wl_X13_make; simp only [List.mem_cons, List.not_mem_nil, or_false]; omega) (by unfold wf_X13_make; simp only [List.mem_cons, List.not_mem_nil, or_false, Prod.mk.injEq]; omega))
    -- from the end of the BLOCK on
    have T164 : ∀ mE : ms_M, MKe X uE mE → (∀ cc y : Nat, cc = 225 ∨ (cc = 160 ∧ (y = 97 ∨ y = 53 ∨ y = 9)) ∨ (163 ≤ cc ∧ cc ≤ 173) ∨ (178 ≤ cc ∧ cc ≤ 195) → mE cc y = u135.2 cc y) → mE 160 88 = u135.2 160 88 → Pc (qj_X13_makeMethod_164 nn (j : Int) u129.1 u131.1 mE) (fun w => (TMu uE ∧ w 160 9 = 11 ∧ w 160 10 = bP X (bB X 186 j).toNat) ∨ (¬ TMu uE ∧ PBX X (B + 20000) u4 w ∧ w 160 9 = 0 ∧ (m 160 88 ≤ w 160 88 ∧ w 160 88 + 4 * (p : Int) ≤ m 160 88 + 4 * (q : Int)))) := fun mE ME FE lE => by
      have e53 : mE 160 53 = 1 - (bF X : Int) := by rw [FE 160 53 (by omega), F135 160 53 (by omega), FB0 53 (by omega), d53]; exact es
      have SCE := ME.1.2.2.2.2.2.2.2
      have e72 := SCE.1.1
      have sE := ME.1.2.2.2.1.1
      have CBE := ME.1.1.1
      have SKE := ME.2.1
      have mE9 : mE 160 9 = 0 := SCE.2.2.2.1
      have TE : ∀ cc x : Nat, (178 ≤ cc ∧ cc ≤ 195) → mE cc x = bB X cc x := fun cc x z => by rw [FE cc x (by omega), F135 cc x (by omega), FB cc x (by omega) (by omega), E3 cc x (by omega) (by omega)]; exact TP cc x z
      have TQ : TBq (bK X) (bP X) (bc X) mE := tbq_f Y.2.2.2.2.1 (fun cc x z => by
        exact SCE.2.2.2.2 cc x (by omega))
      have T227 : ∀ l4 : Int, TMu uE → Pc (qj_X13_makeMethod_227 nn (j : Int) u129.1 u131.1 l4 mE) (fun w => (TMu uE ∧ w 160 9 = 11 ∧ w 160 10 = bP X (bB X 186 j).toNat) ∨ (¬ TMu uE ∧ PBX X (B + 20000) u4 w ∧ w 160 9 = 0 ∧ (m 160 88 ≤ w 160 88 ∧ w 160 88 + 4 * (p : Int) ≤ m 160 88 + 4 * (q : Int)))) := fun l4 tm => by
        unfold qj_X13_makeMethod_227
        refine pc_rA ?_; intro _ _ v108 e108
        rw [Int.toNat_natCast, TE 186 _ (by omega)] at e108
        refine pc_sv (r_wrong TQ (p := (bB X 186 j).toNat) (tb_lt Y.1 (by omega)) mE9 (by omega)) ?_; intro u110 w1
        unfold qj_X13_makeMethod_239
        exact pc_if (fun z => absurd z (by omega)) (fun _ => pc_ret (.inl ⟨tm, w1⟩))
      have T180 : ∀ s1 : Int, s1 = (bF X : Int) → Pc (qj_X13_makeMethod_180 nn (j : Int) u129.1 u131.1 s1 (mE 160 72) mE) (fun w => (TMu uE ∧ w 160 9 = 11 ∧ w 160 10 = bP X (bB X 186 j).toNat) ∨ (¬ TMu uE ∧ PBX X (B + 20000) u4 w ∧ w 160 9 = 0 ∧ (m 160 88 ≤ w 160 88 ∧ w 160 88 + 4 * (p : Int) ≤ m 160 88 + 4 * (q : Int)))) := fun s1 es1 => by
        unfold qj_X13_makeMethod_180
        have r72 : 0 ≤ mE 160 72 ∧ mE 160 72 ≤ 2000000000 := by
          have a1 := SCE.1.2.1
          have a2 := sE.2.1
          omega
        refine pc_add (by omega) ?_; intro v111 e111
        have el : v111 = uE 34 8 := by omega
        refine pc_if (fun z => T227 _ (fun o => by have := o.1.2.1; omega)) (fun z1 => ?_)
        refine pc_if (fun z => T227 _ (fun o => by have := o.1.2.2; have := SKE.2.1; omega)) (fun z2 => ?_)
        refine pc_if (fun z => T227 _ (fun o => by have := o.1.1; have := CBE.1; omega)) (fun z3 => ?_)
        have o : OKM uE := ⟨by have := CBE.1; omega, by omega, by have := SKE.2.1; omega⟩
        have mu := much_e ME o
        refine pc_if (fun z => T227 _ (fun o => by
          rcases mu with y | y
          · omega
          · exact y.1 o.2)) (fun z4 => ?_)
        refine pc_if (fun z5 => ?_) (fun z => T227 _ (fun o => by
          rcases mu with y | y
          · omega
          · exact y.1 o.2))
        have f0 : uE 34 15 = 0 := by
          rcases mu with y | y
          · exact y.1
          · omega
        have ntm : ¬ TMu uE := fun z => z ⟨o, f0⟩
        unfold qj_X13_makeMethod_239
        refine pc_if (fun _ => ?_) (fun z => absurd mE9 z)
        -- the bytes of class and reference
        have XF : ∀ cc y : Nat, (cc = 45 ∧ y = 7) ∨ cc = 48 → uE cc y = u57 cc y := fun cc y z => by
          have a1 : x.2 cc y = hB cc y := SO.2.1.2.1.2.1.1 cc y (by omega)
          have a2 : uE cc y = x.2 cc y := by
            rcases hE with ⟨-, e⟩ | ⟨-, e⟩
            · rw [e]
            · exact e.2.2 cc y (by omega) (by omega)
          rw [a2, a1]; exact HB5 cc y (by omega) (by omega) (by omega) (by omega) (by omega)
        have X5 : uE 45 5 = 0 → u57 45 5 = 0 := fun z => by
          have a0 := HB5 45 5 (by omega) (by omega) (by omega) (by omega) (by omega)
          have a2 : uE 45 5 = x.2 45 5 := by
            rcases hE with ⟨-, e⟩ | ⟨-, e⟩
            · rw [e]
            · exact e.2.2 45 5 (by omega) (by omega)
          rcases PB2.1.1 with ⟨y, -⟩ | ⟨y, -⟩
          · omega
          · have := (f5_qf_X0_readBlock y x ex).1
            omega
        have Z5 : u57 45 5 = u14.2 45 5 := A16.2.2 45 5 (by omega) (by omega)
        have Z4 : u14.2 45 5 = 0 → u9 45 5 = 0 := fun z => by
          rcases L9 with ⟨y, -⟩ | ⟨y, -⟩
          · exact y
          · have := C14.2.2.1 y; omega
        have Z3 : u9 45 5 = u7.2 45 5 := A9.2.2 45 5 (by omega) (by omega)
        have Z2 : u7.2 45 5 = 0 → u2 45 5 = 0 := fun z => by
          rcases L2 with ⟨y, -⟩ | ⟨y, -⟩
          · exact y
          · have := C7.2.2.1 y; omega
        have BE : BYS B h mE := bys_c P.2.2 (fun z => z) rfl (fun _ => rfl) (by rw [FE 160 97 (by omega), F135 160 97 (by omega), FB0 97 (by omega)]; exact E2 160 97 (by omega)) (fun x => by rw [FE 225 x (by omega), F135 225 x (by omega), FB 225 x (by omega) (by omega)]; exact E3 225 x (by omega) (by omega))
        have T260 : ∀ s2 : Int, s2 = 1 - (bF X : Int) → Pc (qj_X13_makeMethod_260 nn u129.1 u131.1 v111 s2 mE) (fun w => (TMu uE ∧ w 160 9 = 11 ∧ w 160 10 = bP X (bB X 186 j).toNat) ∨ (¬ TMu uE ∧ PBX X (B + 20000) u4 w ∧ w 160 9 = 0 ∧ (m 160 88 ≤ w 160 88 ∧ w 160 88 + 4 * (p : Int) ≤ m 160 88 + 4 * (q : Int)))) := fun s2 es2 => by
          unfold qj_X13_makeMethod_260
          have be := BE.1
          refine pc_sv (r_tellb (by omega)) ?_; intro t1 R1
          have B1 := bys_p BE (fun _ => by rw [es2]) A2 R1
          have B1' : BYS (B + 1) u7.2 t1 := bys_c B1 Z2 (C7.2.2.2.1 45 7 (by omega) (by omega) (by omega)) (fun x => C7.2.2.2.1 48 x (by omega) (by omega) (by omega)) rfl (fun _ => rfl)
          have b1 := B1.1
          refine pc_sv (r_tellb (by omega)) ?_; intro t2 R2
          have B2 := bys_p B1' (fun z => by rw [(C7.2.1 z).1]) A9 R2
          have B2' : BYS (B + 1 + 1) u14.2 t2 := bys_c B2 Z4 (C14.2.2.2.1 45 7 (by omega) (by omega) (by omega)) (fun x => C14.2.2.2.1 48 x (by omega) (by omega) (by omega)) rfl (fun _ => rfl)
          have b2 := B2.1
          refine pc_sv (r_tellb (by omega)) ?_; intro t3 R3
          have B3 := bys_p B2' (fun z => by rw [(C14.2.1 z).1]) A16 R3
          have B3' : BYS (B + 3) uE t3 := by
            rw [show B + 3 = B + 1 + 1 + 1 by omega]
            exact bys_c B3 X5 (XF 45 7 (by omega)) (fun x => XF 48 x (by omega)) rfl (fun _ => rfl)
          have WE : WFr mE t3 := wfr_t (wfr_t (wfr_p R1) (wfr_p R2)) (wfr_p R3)
          have EE : ∀ cc y : Nat, ¬ (cc = 160 ∧ y = 97) → ¬ cc = 225 → t3 cc y = mE cc y := fun cc y z1 z2 => by rw [R3.2.2 cc y z1 (by omega), R2.2.2 cc y z1 (by omega), R1.2.2 cc y z1 (by omega)]
          have PE := mk_pl ME
          have P3 : PBX X (B + 3) uE t3 := ⟨⟨plr_k PE.1 (fun _ _ _ => rfl) (fun cc y z => EE cc y (by omega) (by omega)), ⟨by rw [EE 160 62 (by omega) (by omega)]; exact PE.2.1.1, by rw [EE 160 64 (by omega) (by omega)]; exact PE.2.1.2⟩, spl_k PE.2.2.1 (fun cc y z => EE cc y (by omega) (by omega))⟩, txe_k PE.2.2.2 (fun _ _ _ => rfl) (fun cc y z => EE cc y (by omega) (by omega)), B3'⟩
          have b3 := B3'.1
          obtain ⟨-, -, JW⟩ := j_write (nn := nn) (B := B + 3) Y ME o f0 (by omega) (by omega) el u4 e4
          refine pc_imp (JW t3 WE P3) (fun w ⟨y1, y2⟩ => .inr ⟨ntm, ⟨y1.1, y1.2.1, ⟨by have := y1.2.2.1; omega, by have := y1.2.2.1; omega⟩, y1.2.2.2⟩, by rw [y2 160 9 (by omega) (by omega) (by omega)]; exact mE9, ?_⟩)
          rw [y2 160 88 (by omega) (by omega) (by omega), lE]
          omega
        exact pc_if (fun z => T260 0 (by omega)) (fun z => T260 1 (by omega))
      unfold qj_X13_makeMethod_164
      exact pc_if (fun z => T180 1 (by omega)) (fun z => T180 0 (by omega))
    rw [en]
    refine pc_if (fun z => ?_) (fun z => ?_)
    · rcases hE with ⟨-, e⟩ | ⟨z2, -⟩
      · exact T164 u135.2 (by rw [e]; exact K1) (fun _ _ _ => rfl) rfl
      · exact absurd z z2
    · rcases hE with ⟨z2, -⟩ | ⟨-, A⟩
      · exact absurd z2 z
      · have cbx := K1.1.1.1
        have lx := SO.2.1.2.2.1.2.1
        have lh : hB 34 1 = 0 := MK0.1.1.1.1.trans ((FB0 68 (by omega)).trans d68)
        refine pc_sv (r_put (by omega)) ?_; intro u137 RP
        exact T164 u137 (mk_op K1 A RP (fun _ => rfl) (by unfold in_R; omega)) (fun cc y z => RP.2.2 cc y (by omega) (by omega)) (RP.2.2 160 88 (by omega) (by omega))
  exact pc_if (fun z => T21 0 (by omega)) (fun z => T21 1 (by omega))
end

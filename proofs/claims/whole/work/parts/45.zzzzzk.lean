/- compile, whole: heads and bodies joined -/
section
variable {nn : Nat} {T : Nat → Int} {C : Nat → Nat} {m n mt : Nat} {q q2 : Int} {a b u0 v0 v1 h r : ms_M}
theorem g_su0 {f : Nat → Nat} (H : ∀ i, f i = 0) : ∀ k : Nat, su_T f k = 0 := by
  intro k
  induction k with
  | zero => rfl
  | succ k ih => show su_T f k + f k = 0; rw [ih, H]
theorem g_su8 : su_T (fun i => (W_T C n v0 i).length + 3) 8 ≤ 92 := by
  rw [su_e (g := fun i => (kl_T i).length + 3) 8 (fun i hi => by show (W_T C n v0 i).length + 3 = _; rw [w_8 hi])]
  decide
/-- the letters of all kinds -/
theorem g_xb (TF : TKFn T m u0 v0) (PO : PO_ v0) (n8 : n ≤ 8) (KC : ∀ k : Nat, k < n → kn_T u0 (C k) = 2) (q20 : 0 ≤ q2) (q2c : q2.toNat < (u0 2 3).toNat) (HD : HDS (kn_T u0) (u0 4) (u0 5) C (u0 2 3).toNat n (u0 2 9).toNat mt q a b) {nN b0 : Int} (PG : PGM (kn_T u0) b nN n 0 0 (mt : Int) 0 q2 0 b0) : (su_T (fun i => (W_T C n v0 i).length + 3) (8 + n) : Int) + (su_T (fl_T (W_T C n v0) a b mt) 96 : Int) + (su_T (ml_T (W_T C n v0) a b mt) 96 : Int) ≤ 3214 := by
  obtain ⟨BK, B0, D0, GP⟩ := tkf_b TF
  have A := (a_pgm (W := W_T C n v0) (h := a) BK (g_wpo TF PO) (g_HL TF n8 KC) HD.2.2.1 n8 HD.1.2.2 HD.2.1.2.2.1 (fun i hi k1 k2 => (GP.2.1 i hi).2 k1 k2) n 0 0 0 q2 0 b0 (Int.le_refl _) PG (by omega) q2c).2
  have z1 : su_T (fl_T (W_T C n v0) a b 0) 96 = 0 := g_su0 (fun i => by unfold fl_T; rw [if_neg (by show ¬ i % 12 < 0; omega)]) 96
  have z2 : su_T (ml_T (W_T C n v0) a b 0) 96 = 0 := g_su0 (fun i => by unfold ml_T; rw [if_neg (by show ¬ i % 12 < 0; omega)]) 96
  have z3 : su_T (al_T (W_T C n v0)) 0 = 0 := rfl
  have z4 : su_T (fun k => (W_T C n v0 (8 + k)).length + 3) n = su_T (al_T (W_T C n v0)) n := su_e n (fun _ _ => rfl)
  have z5 := g_su8 (C := C) (n := n) (v0 := v0)
  have z6 := GP.2.2 q2.toNat q2c
  have z7 := GP.1
  rw [su_8, z4]
  rw [z1, z2, z3] at A
  have z8 : (0 : Int).toNat = 0 := rfl
  rw [z8] at A
  omega
theorem mem_cnt {K : Nat → Int} {N0 q0 a0 b0 : Int} {pp qq aa bb : Nat → Int} (ME : MEM K b N0 0 mt 0 q0 a0 b0 pp qq aa bb) : ∀ j : Nat, j < mt → (j : Int) ≤ pp j ∧ (j : Int) < q0 := by
  intro j
  induction j with
  | zero => intro hj; have z := (ME 0 (Nat.le_refl _) hj).2.1; omega
  | succ j ih =>
    intro hj
    have z := ih (by omega)
    have z2 := (ME j (Nat.zero_le _) (by omega)).2.1
    have z3 := (ME (j + 1) (Nat.zero_le _) hj).2
    have z4 := (z3.2.2.2 j (Nat.zero_le _) (by omega)).1
    have z5 := z3.1
    omega
/-- behind heads -/
theorem g_tail (TF : TKFn T m u0 v0) (PO : PO_ v0) (V0 : VS_ v0) (H2 : ∀ i : Nat, i < 3000 → 0 ≤ v0 162 i ∧ v0 162 i ≤ 255) (L88 : 0 ≤ v1 160 88 ∧ v1 160 88 ≤ 1600000000) (NB : 0 ≤ v1 160 22 ∧ v1 160 22 ≤ 3001 ∧ v1 160 39 ≤ 1500) (n1 : 1 ≤ n) (q20 : 0 ≤ q2) (q2c : q2.toNat < (u0 2 3).toNat) (PG : PGM (kn_T u0) v1 (v1 160 39) n 0 0 (v1 160 28) 0 q2 0 (v1 160 22)) (HD : HDS (kn_T u0) (u0 4) (u0 5) C (u0 2 3).toNat n (u0 2 9).toNat mt q a b) (af : a 2 11 = 0) (bf : b 160 9 = 0) (Fa : ∀ cc y : Nat, cc = 5 ∨ cc = 6 ∨ cc = 7 ∨ cc = 8 ∨ cc = 9 ∨ (cc = 2 ∧ y = 9) → a cc y = u0 cc y) (Fv : ∀ cc y : Nat, (162 ≤ cc ∧ cc ≤ 166) → b cc y = v0 cc y) (Fb : ∀ cc y : Nat, ¬ (cc = 160 ∧ (y = 9 ∨ y = 10)) → ¬ cc = 180 → ¬ cc = 187 → ¬ cc = 195 → b cc y = v1 cc y) : Pc (mx_sv (qf_X2_nameKinds nn a) fun u56 => mx_sv (qf_X0_beginProgram nn u56) fun u59 => qw_X12_compile_93 nn nn 0 u59 0 0) (fun A => Pc (qj_X13_compile_97 nn b) (fun B => FNL n A B)) := by
  obtain ⟨BK, B0, D0, GP⟩ := tkf_b TF
  obtain ⟨NM, VL, VN⟩ := nmr_of TF
  have n8 := HD.2.1.1
  have HC := HD.1.1
  have HR := HD.1.2.2
  have MT := HD.2.2.1
  have mt28 : b 160 28 = (mt : Int) := HD.2.2.2.1
  have PGb : PGM (kn_T u0) b (v1 160 39) n 0 0 (mt : Int) 0 q2 0 (v1 160 22) := by
    have e : v1 160 28 = (mt : Int) := by rw [← mt28]; exact (Fb 160 28 (by omega) (by omega) (by omega) (by omega)).symm
    rw [e] at PG
    exact pgm_f (fun cc y z => Fb cc y (by omega) (by omega) (by omega) (by omega)) n 0 0 _ 0 q2 0 _ PG (Int.le_refl _)
  have KC2 : ∀ k : Nat, k < n → kn_T u0 (C k) = 2 ∧ (kn_T u0 (C k + 1) = 16 → kn_T u0 (C k + 2) = 2) := fun k hk => by
    obtain ⟨x1, x2, x3⟩ := pgm_k n 0 0 _ 0 q2 0 _ (Int.le_refl _) PGb k (Nat.zero_le _) (by omega)
    rw [(HR.2.2.2 k hk).1, Int.toNat_natCast] at x2 x3
    refine ⟨x2, fun z => ?_⟩
    rcases x3 with y | y
    · exact y.2.1
    · exact absurd z y.1
  have KC : ∀ k : Nat, k < n → kn_T u0 (C k) = 2 := fun k hk => (KC2 k hk).1
  have N9 : 32 ≤ u0 2 9 ∧ u0 2 9 ≤ 1532 := ⟨TF.1.1.1.1, TF.2.2.2.2.2.2.1.1⟩
  have CK : CKd (kn_T u0) (u0 5) C n (u0 2 9).toNat := ⟨⟨⟨n1, by omega⟩, by omega, by omega⟩, KC2, fun i ki => by
    have := VN i (tb_lt BK (by omega)) ki
    omega⟩
  obtain ⟨-, pp, qq, aa, bb, ME⟩ := mem_pgm n 0 0 (mt : Int) 0 q2 0 (v1 160 22) PGb
  rw [Int.toNat_natCast] at ME
  obtain ⟨VTf, VTm⟩ := g_vtn CK n8 MT ME (Int.le_refl _)
  have Ta : NTB a := ntb_f TF.1 (fun cc y z => Fa cc y (by omega))
  have a29 : a 2 9 = u0 2 9 := Fa 2 9 (by omega)
  have Fn : ∀ cc y : Nat, cc = 6 ∨ cc = 7 ∨ (cc = 2 ∧ y = 9) → a cc y = u0 cc y := fun cc y z => Fa cc y (by omega)
  refine pc_sv (c_kinds (W := W_T C n v0) (b := b) BK CK n8 Ta HC.1 HC.2.1 (by omega) (by rw [a29, Fa 7 _ (by omega)]; exact TF.2.2.2.2.2.2.1.2) af HC.2.2.1 HC.2.2.2 MT (g_HW TF KC) (fun k hk => by rw [w_8 hk]; exact nmz_k (g_W8 TF k (by omega)) Fn) (fun k hk => by rw [w_C hk]; exact nmz_k (g_nm TF (KC k hk)).1 Fn) VTm VTf (g_xb TF PO n8 KC q20 q2c HD PGb)) ?_
  intro u56 NK
  have AK := NK.1.2.2
  have H56 : HDS (kn_T u0) (u0 4) (u0 5) C (u0 2 3).toNat n (u0 2 9).toNat mt q u56 b := hds_n HD (fun cc x z => AK cc x (by omega) (by omega) (by omega) (by omega) (by omega) (by omega) (by omega))
  have TX : TXE (kn_T u0) (u0 5) C (W_T C n v0) n u56 b u56 b := g_txe TF H2 rfl rfl KC NK Ta Fn Fv (fun k hk => (HR.2.2.2 k hk).1) (fun cc y z => AK cc y (by omega) (by omega) (by omega) (by omega) (by omega) (by omega) (by omega))
  unfold qf_X0_beginProgram
  refine pc_sv (P := fun u59 => u59 = up_M u56 33 7 (-1)) (pc_xl (fun h1 e1 => pc_ret e1)) ?_
  intro u59 e59
  have F59 : ∀ cc y : Nat, ¬ cc = 33 → u59 cc y = u56 cc y := fun cc y z => by rw [e59, up_n (by omega)]
  have NU : ∀ i : Nat, i < (u0 2 3).toNat → kn_T u0 i = 3 → a 5 i = b 166 i ∧ 0 ≤ b 166 i ∧ b 166 i ≤ 2147483647 := fun i hi ki => by
    have k3 : u0 3 i = 3 := by unfold kn_T at ki; rw [if_pos (by omega)] at ki; exact ki
    obtain ⟨x1, x2⟩ := (TF.2.2.1.2 i (by omega)).2.2.2.1 k3
    have x3 := (gA_166 V0 i (by have := BK.2.1.2; omega)).2
    rw [Fa 5 i (by omega), Fv 166 i (by omega)]
    omega
  have M182 : ∀ j : Nat, j < mt → 0 ≤ b 182 j := fun j hj => by
    obtain ⟨m1, m2, m3, m4, -⟩ := ME j (Nat.zero_le _) hj
    exact (rmb_t (by omega) m1 m4.1).2.1
  have M800 : mt ≤ 100000 := by
    have e := mem_cnt ME (mt - 1)
    have e2 := BK.2.1.2
    by_cases z : mt = 0
    · omega
    · have e3 := e (by omega)
      omega
  let X : BCx := ((kn_T u0, u0 4, u0 5, C, W_T C n v0), ((u0 2 3).toNat, n, (u0 2 9).toNat, mt, 0), (q, 8), (b, u56, b))
  have Y : CXs X := by
    refine ⟨BK, CK, n8, ⟨Int.le_refl _, by show (8 : Int) < 8 + (n : Int); omega⟩, HR.1, fun i hi ki => (NU i hi ki).2, H56, M182, fun j k hj hk ms => ?_, fun j k hj hk ms => ⟨?_, ?_, fun i hi => ?_⟩⟩
    · show VTn n (u56 19 (12 * k + mcn_T b k 0 j))
      rw [AK 19 _ (by omega) (by omega) (by omega) (by omega) (by omega) (by omega) (by omega)]; exact VTf j k hj hk ms
    · show VTn n (u56 24 (12 * k + mcn_T b k 1 j))
      rw [AK 24 _ (by omega) (by omega) (by omega) (by omega) (by omega) (by omega) (by omega)]; exact (VTm j k hj hk ms).1
    · show b 188 j ≤ 1500
      obtain ⟨m1, m2, m3, m4, -⟩ := ME j (Nat.zero_le _) hj
      omega
    · show VTn n (u56 29 (6 * (12 * k + mcn_T b k 1 j) + i))
      rw [AK 29 _ (by omega) (by omega) (by omega) (by omega) (by omega) (by omega) (by omega)]; exact (VTm j k hj hk ms).2 i hi
  have Wb : BRw X := g_brw (X := X) TF rfl rfl rfl
  have R0f : R0F X b := ⟨⟨bf, HR.2.2.1, mt28⟩, fun _ _ _ => rfl⟩
  obtain ⟨p, q', MB⟩ := g_mbo (X := X) ME (by omega) (by have := BK.2.1.2; omega) rfl H56.2.2.1
  have J : JBw X u59 b := by
    refine ⟨hds_n H56 (fun cc x z => F59 cc x (by omega)), ⟨?_, bf⟩, fun i hi ki => ?_, fun _ _ _ => rfl, fun _ _ _ => rfl, fun cc x z => F59 cc x (by omega)⟩
    · rw [F59 2 11 (by omega), AK 2 11 (by omega) (by omega) (by omega) (by omega) (by omega) (by omega) (by omega)]; exact af
    · rw [F59 5 i (by omega), AK 5 i (by omega) (by omega) (by omega) (by omega) (by omega) (by omega) (by omega)]; exact (NU i hi ki).1
  have IV : INV X aa bb b 0 0 0 u59 b := ⟨J, fun _ _ _ _ _ => rfl, fun _ _ _ _ _ _ _ => ⟨rfl, rfl⟩, Nat.zero_le _, fun i hi => absurd hi (by omega), fun i _ hi => (H56.2.2.2.2.2.1 i hi).1⟩
  have h7 : u59 33 7 = -1 := by rw [e59, up_s]
  have RB : RSB nn X aa bb p (v1 160 88) b 0 0 u59 b := by
    refine ⟨.inl h7, fun y B FI eB => .inr ⟨h7, nn, y, ⟨⟨?_, ?_⟩, ⟨?_, 0, ?_, fun _ _ _ _ => Nat.zero_le _⟩, fun _ _ _ => rfl, fun c hc => absurd hc (by omega)⟩, eB⟩⟩
    · rw [FI.1 160 9 (by omega) (by omega) (by omega)]; exact bf
    · exact txe_k TX (fun cc y z => F59 cc y (by omega)) (fun cc y z => FI.1 cc y (by omega) (by omega) (by omega))
    · rw [FI.1 160 88 (by omega) (by omega) (by omega), Fb 160 88 (by omega) (by omega) (by omega) (by omega)]; exact L88.1
    · rw [FI.1 160 88 (by omega) (by omega) (by omega), Fb 160 88 (by omega) (by omega) (by omega) (by omega)]; omega
  refine pc_imp (g_93 (nn := nn) Y Wb R0f L88.2 M800 MB nn 0 0 u59 b 0 0 (Nat.zero_le _) IV RB) (fun A hA => ?_)
  unfold qj_X13_compile_97 qf_X13_bodies
  refine pc_if (fun z => absurd bf z) (fun _ => ?_)
  exact pc_sv (hA nn) (fun y hy => hy)
/-- COMPILE of both sides is alike -/
theorem j_compile (hn : 100001 ≤ nn) (hn6 : 1000000 ≤ nn) (VR : VS_ r) (WR : ∀ t : Nat, (t : Int) < 3002 → r 164 t + r 165 t ≤ 3000) (hc : 256 ≤ cn_M h) (KB : KNB h) (L88 : r 160 88 ≤ 1600000000) (e1 : h 0 1 = (m : Int)) (e2 : r 160 1 = (m : Int)) (m6 : m ≤ 6000) (HA : ∀ i : Nat, i < m → (-128 ≤ h 1 i ∧ h 1 i ≤ 127) ∧ r 161 i = h 1 i % 256) : Pc (qf_X12_compile nn h) (fun A => Pc (qf_X13_compile nn r) (fun B => ∃ n : Nat, FNL n A B)) := by
  refine j_front hn hn6 VR WR hc KB e1 e2 m6 HA (Z := fun A B => ∃ n : Nat, FNL n A B) (fun A B z1 z2 z3 => ⟨0, .inl ⟨z1, z2, z3⟩⟩) ?_
  intro a b u0 v0 v1 n mt q q2 T m3 TF PV H2 e88 NB n1 PG HD af bf Fa Fv Fb
  have l := gF_160_88 VR
  exact pc_imp (g_tail TF PV.1 PV.2 H2 (by rw [e88]; exact ⟨l.1, L88⟩) NB n1.1 n1.2.1 n1.2.2 PG HD af bf Fa Fv Fb) (fun A hA => pc_imp hA (fun B hB => ⟨n, hB⟩))
end

/- HEADS: all of it, both sides -/
section
variable {nn : Nat} {K P V U : Nat → Int} {C : Nat → Nat} {c n N mt : Nat} {q : Int} {h g r w u v h0 r0 : ms_M}
theorem pgm_k {N : Int} : ∀ (d k m : Nat) (mE p q a b : Int), 0 ≤ p → PGM K r N d (k : Int) (m : Int) mE p q a b → ∀ i : Nat, k ≤ i → i < k + d → 0 ≤ r 178 i ∧ K (r 178 i).toNat = 2 ∧ ((K ((r 178 i).toNat + 1) = 16 ∧ K ((r 178 i).toNat + 2) = 2 ∧ r 179 i = r 178 i + 2) ∨ (¬ K ((r 178 i).toNat + 1) = 16 ∧ r 179 i = -1)) := by
  intro d
  induction d with
  | zero => intro k m mE p q a b _ _ i h1 h2; omega
  | succ d ih =>
    intro k m mE p q a b hp H i h1 h2
    obtain ⟨n2, p2, a2, ha, CL, H2⟩ := H
    obtain ⟨⟨k1, k2, k3⟩, s, e, k4, ML, _, k5, qe⟩ := CL
    rw [Int.toNat_natCast] at k3 k4
    have mm := mml_ab n2 _ _ _ _ _ ML
    by_cases ik : i = k
    · rw [ik, k3]
      rw [show (p + 1).toNat + 1 = (p + 2).toNat by omega, show (p + 1).toNat + 2 = (p + 3).toNat by omega]
      refine ⟨by omega, k2, ?_⟩
      rcases k4 with ⟨x1, x2, x3, _⟩ | ⟨x1, x2, _⟩
      · exact .inl ⟨x1, x2, by omega⟩
      · exact .inr ⟨x1, x2⟩
    · exact ih (k + 1) (m + n2) mE p2 q a2 b (by omega) (by rw [show ((k + 1 : Nat) : Int) = (k : Int) + 1 by omega, show ((m + n2 : Nat) : Int) = (m : Int) + n2 by omega]; exact H2) i (by omega) (by omega)
theorem pgm_1 {N : Int} : ∀ (d k m : Nat) (mE p q a b : Int), 0 ≤ p → PGM K r N d (k : Int) (m : Int) mE p q a b → (∀ j : Nat, m ≤ j → (j : Int) < mE → (k : Int) ≤ r 181 j ∧ r 181 j < (k : Int) + d) ∧ ∀ i j : Nat, m ≤ i → i < j → (j : Int) < mE → r 181 i ≤ r 181 j := by
  intro d
  induction d with
  | zero => intro k m mE p q a b _ H; obtain ⟨_, _, e⟩ := H; exact ⟨fun j h1 h2 => by omega, fun i j h1 h2 h3 => by omega⟩
  | succ d ih =>
    intro k m mE p q a b hp H
    obtain ⟨n2, p2, a2, ha, CL, H2⟩ := H
    obtain ⟨⟨k1, k2, k3⟩, s, e, k4, ML, c1, k5, qe⟩ := CL
    have mm := mml_ab n2 _ _ _ _ _ ML
    obtain ⟨I1, I2⟩ := ih (k + 1) (m + n2) mE p2 q a2 b (by omega) (by rw [show ((k + 1 : Nat) : Int) = (k : Int) + 1 by omega, show ((m + n2 : Nat) : Int) = (m : Int) + n2 by omega]; exact H2)
    refine ⟨fun j h1 h2 => ?_, fun i j h1 h2 h3 => ?_⟩
    · by_cases z : j < m + n2
      · have := c1 j (by omega) (by omega); omega
      · have := I1 j (by omega) h2; omega
    · by_cases z : i < m + n2
      · have e1 := c1 i (by omega) (by omega)
        by_cases z2 : j < m + n2
        · have := c1 j (by omega) (by omega); omega
        · have := I1 j (by omega) h3; omega
      · exact I2 i j (by omega) h2 h3
/-- parameters of members: where they begin -/
theorem pgm_8 {N : Int} : ∀ (d k m : Nat) (mE p q a b : Int), PGM K r N d (k : Int) (m : Int) mE p q a b → ∀ j : Nat, m ≤ j → (j : Int) < mE → 0 ≤ r 188 j ∧ 0 ≤ r 189 j ∧ r 188 j + r 189 j ≤ N := by
  have ML8 : ∀ (d m : Nat) (p q a b : Int), MML K r N d (m : Int) p q a b → ∀ j : Nat, m ≤ j → j < m + d → 0 ≤ r 188 j ∧ 0 ≤ r 189 j ∧ r 188 j + r 189 j ≤ N := by
    intro d
    induction d with
    | zero => intro m p q a b _ j h1 h2; omega
    | succ d ih =>
      intro m p q a b H j h1 h2
      obtain ⟨_, p2, a2, _, R, B, H2⟩ := H
      rw [Int.toNat_natCast] at B
      by_cases jm : j = m
      · rw [jm]; exact B
      · exact ih (m + 1) p2 q a2 b (by rw [show ((m + 1 : Nat) : Int) = (m : Int) + 1 by omega]; exact H2) j (by omega) (by omega)
  intro d
  induction d with
  | zero => intro k m mE p q a b H j h1 h2; obtain ⟨_, _, e⟩ := H; omega
  | succ d ih =>
    intro k m mE p q a b H j h1 h2
    obtain ⟨n2, p2, a2, ha, CL, H2⟩ := H
    obtain ⟨_, s, e, k4, ML, c1, k5, qe⟩ := CL
    by_cases z : j < m + n2
    · exact ML8 n2 m s e a a2 ML j h1 z
    · exact ih (k + 1) (m + n2) mE p2 q a2 b (by rw [show ((k + 1 : Nat) : Int) = (k : Int) + 1 by omega, show ((m + n2 : Nat) : Int) = (m : Int) + n2 by omega]; exact H2) j (by omega) h2
theorem pgm_f {N : Int} (e : ∀ cc y : Nat, (167 ≤ cc ∧ cc ≤ 194 ∧ ¬ cc = 180 ∧ ¬ cc = 187 ∧ ¬ cc = 174) → v cc y = r cc y) : ∀ (d : Nat) (k m mE p q a b : Int), PGM K r N d k m mE p q a b → 0 ≤ m → PGM K v N d k m mE p q a b := by
  intro d
  induction d with
  | zero => intro k m mE p q a b H _; exact H
  | succ d ih =>
    intro k m mE p q a b H hm
    obtain ⟨n2, p2, a2, ha, CL, H2⟩ := H
    exact ⟨n2, p2, a2, ha, clr_k (Int.le_refl _) hm ⟨e 178 _ (by omega), e 179 _ (by omega)⟩ (fun cc j z1 z2 z3 _ _ => e cc j (by omega)) (fun cc j z1 z2 _ => e cc j (by omega)) (fun cc x z1 z2 z3 _ _ => e cc x (by omega)) CL, ih _ _ _ _ _ _ _ H2 (by omega)⟩
/-- HEADS of both sides -/
theorem j_heads {β : Type} (h17 : 17 ≤ nn) (BK : TBn K c) {pq : Nat} (J : JPp K P c pq u v) {q2 : Int} (PG : PGM K v (v 160 39) n 0 0 (v 160 28) 0 q2 0 (v 160 22)) (e24 : v 160 24 = (n : Int)) (e11 : u 11 2 = (n : Int)) (n1 : 1 ≤ n ∧ n ≤ 334) (e15 : ∀ i : Nat, i < n → u 15 i = v 178 i) (NM : NMr K V c v) (VL : VLc K V c u) (VN : ∀ i : Nat, K i = 2 → 0 ≤ V i ∧ V i < (N : Int)) (e9 : u 2 9 = (N : Int)) (N1 : 32 ≤ N ∧ N ≤ 1532) (I0 : ∀ j : Nat, j < 16 → u 13 j = bi_A j) (F0 : ∀ k : Nat, k < 8 → u 17 k = 0 ∧ u 21 k = 0) (e39 : v 160 39 ≤ 1500) {F : ms_M → Option β} {Z : β → ms_M → Prop} (HS : ∀ a b : ms_M, SFj a b → Pc (F a) (fun A => Z A b)) (HO : ∀ (a b : ms_M) (q : Int) (mt : Nat), HDS K P V (fun k => (v 178 k).toNat) c n N mt q a b → a 2 11 = 0 → b 160 9 = 0 → (∀ cc y : Nat, ¬ (cc = 2 ∧ (y = 10 ∨ y = 11 ∨ y = 12)) → ¬ cc = 13 → ¬ cc = 14 → ¬ cc = 16 → ¬ (17 ≤ cc ∧ cc ≤ 29 ∧ ¬ cc = 20 ∧ ¬ cc = 26) → a cc y = u cc y) → (∀ cc y : Nat, ¬ (cc = 160 ∧ (y = 9 ∨ y = 10)) → ¬ cc = 180 → ¬ cc = 187 → ¬ cc = 195 → b cc y = v cc y) → Pc (F a) (fun A => Z A b)) : Pc (mx_sv (qf_X2_readClasses nn u) fun u47 => mx_sv (qf_X2_readMembers nn u47) fun u50 => mx_sv (qf_X2_checkOverrides nn u50) F) (fun A => Pc (qf_X13_heads nn v) (fun b => Z A b)) := by
  obtain ⟨B, D, ⟨g1, g2, g3⟩, hf, rf⟩ := J
  have PK := pgm_k n 0 0 _ _ _ _ _ (by omega) PG
  have P1 := pgm_1 n 0 0 _ _ _ _ _ (by omega) PG
  have P8 := pgm_8 n 0 0 _ _ _ _ _ PG
  have PN := pgm_n n 0 0 _ _ _ _ _ (by omega) PG
  have S : CKd K V (fun k => (v 178 k).toNat) n N := ⟨⟨n1, N1⟩, fun k hk => by
    have x := PK k (by omega) (by omega)
    refine ⟨x.2.1, fun y => ?_⟩
    rcases x.2.2 with ⟨y1, y2, _⟩ | ⟨y1, _⟩
    · exact y2
    · exact absurd y y1, VN⟩
  have H0 : HDc K P V (fun k => (v 178 k).toNat) c n u := ⟨B, VL, e11, fun k hk => by
    have x := PK k (by omega) (by omega)
    rw [e15 k hk]
    show v 178 k = (((v 178 k).toNat : Nat) : Int)
    omega⟩
  have D0 : HDr K P V (fun k => (v 178 k).toNat) c n v := ⟨D, NM, e24, fun k hk => by
    have x := PK k (by omega) (by omega)
    show v 178 k = (((v 178 k).toNat : Nat) : Int) ∧ ((K ((v 178 k).toNat + 1) = 16 ∧ v 179 k = (((v 178 k).toNat + 2 : Nat) : Int)) ∨ (¬ K ((v 178 k).toNat + 1) = 16 ∧ v 179 k = -1))
    refine ⟨by omega, ?_⟩
    rcases x.2.2 with ⟨y1, y2, y3⟩ | ⟨y1, y2⟩
    · exact .inl ⟨y1, by omega⟩
    · exact .inr ⟨y1, y2⟩⟩
  obtain ⟨mt, em⟩ : ∃ mt : Nat, v 160 28 = (mt : Int) := ⟨(v 160 28).toNat, by have := PN.1; omega⟩
  rw [em] at PG PN P1 P8
  refine pc_sv (P := fun u47 => Pc (qf_X13_heads nn v) (fun b => Pc (mx_sv (qf_X2_readMembers nn u47) fun u50 => mx_sv (qf_X2_checkOverrides nn u50) F) (fun A => Z A b))) ?_ (fun u47 y => pc_fl y)
  refine j_classes h17 BK S H0 e9 D0 I0 hf rf (fun a b s => ?_) (fun a b Aa Ab af bf n8 NC UP OK KN => ?_)
  · refine pc_sv (fs_qf_X2_readMembers s.1) ?_; intro u50 F50
    refine pc_sv (fs_qf_X2_checkOverrides (fs_n s.1 F50)) ?_; intro u53 F53
    exact HS u53 b (sf_k s (fs_t F50 F53) ft_r)
  · refine pc_fl ?_
    unfold qf_X2_readMembers
    refine pc_sv (P := fun u50 => Pc (qw_X13_heads_192 nn nn 0 b) (fun d => Pc (mx_sv (qf_X2_checkOverrides nn u50) F) (fun A => Z A d))) ?_ (fun u50 y => pc_fl y)
    have Ha := hdc_k H0 (fun cc y z => Aa cc y (by omega) (by omega) (by omega) (by omega))
    have Db := hdr_k D0 (fun cc y z => Ab cc y (by omega) (by omega))
    have PG2 : PGM K b (v 160 39) n 0 0 (mt : Int) 0 q2 0 (v 160 22) := pgm_f (fun cc y z => Ab cc y (by omega) (by omega)) n _ _ _ _ _ _ _ PG (by omega)
    refine j_pms BK S n8 Ha NC Db (mt := mt) (nN := v 160 39) (by rw [Ab 160 28 (by omega) (by omega)]; exact em) e39 (fun j hj => by rw [Ab 186 j (by omega) (by omega)]; exact PN.2 j (by omega) (by omega)) (fun a2 b2 s => ?_) (fun a2 b2 q3 Aa2 Ab2 af2 bf2 MT => ?_) n nn nn 0 0 0 q2 0 (v 160 22) 0 a b (fun _ _ _ _ => rfl) (fun _ _ _ _ _ => rfl) af bf ?_ (by omega) (by omega) PG2 (by omega)
    · refine pc_sv (fs_qf_X2_checkOverrides s.1) ?_; intro u53 F53
      exact HS u53 b2 (sf_k s F53 ft_r)
    · refine pc_fl ?_
      have b180 : b2 180 = b 180 := funext (fun y => Ab2 180 y (by omega) (by omega) (by omega))
      have HD : HDS K P V (fun k => (v 178 k).toNat) c n N mt q3 a2 b2 := by
        refine ⟨⟨hdc_k Ha (fun cc y z => Aa2 cc y (by omega) (by omega)), fun x hx => by rw [Aa2 16 x (by omega) (by omega)]; exact NC x hx, hdr_k Db (fun cc y z => Ab2 cc y (by omega) (by omega) (by omega))⟩, ⟨n8, by rw [b180]; exact UP, by rw [b180]; exact OK, ?_⟩, MT, ?_, fun j hj => ?_, fun j hj => ?_, fun i j ij hj => ?_⟩
        · rw [b180]
          refine ⟨fun j hj => by rw [Aa2 13 j (by omega) (by omega)]; exact KN.1 j hj, fun x y hx hy => ?_⟩
          have e13 : a2 (12 + 1) = a (12 + 1) := funext (fun z => Aa2 13 z (by omega) (by omega))
          have e14 : ∀ z, a2 (12 + 2) z = a (12 + 2) z := fun z => Aa2 14 z (by omega) (by omega)
          rw [e13, e14]
          exact KN.2 x y hx hy
        · rw [Ab2 160 28 (by omega) (by omega) (by omega), Ab 160 28 (by omega) (by omega)]; exact em
        · rw [Ab2 186 j (by omega) (by omega) (by omega), Ab 186 j (by omega) (by omega)]; exact PN.2 j (by omega) (by omega)
        · rw [Ab2 181 j (by omega) (by omega) (by omega), Ab 181 j (by omega) (by omega)]
          have := P1.1 j (by omega) (by omega); omega
        · rw [Ab2 181 j (by omega) (by omega) (by omega), Ab 181 j (by omega) (by omega), Ab2 181 i (by omega) (by omega) (by omega), Ab 181 i (by omega) (by omega)]
          exact P1.2 i j (by omega) ij (by omega)
      unfold qf_X2_checkOverrides
      refine pc_sv (P := fun u53 => Pc (qw_X13_heads_220 nn nn 0 b2) (fun d => (u53 = a2 ∧ d = b2) ∨ SFj u53 d)) (j_ovs BK S HD (fun j hj => ?_) af2 bf2 (96 + mt) nn nn 0 0 (by omega) (by omega) (by omega) (fun j k hj _ _ => absurd hj (by omega)) (fun j k _ _ _ _ => by omega)) (fun u53 y => pc_fl (pc_imp y (fun d J => ?_)))
      · rw [Ab2 188 j (by omega) (by omega) (by omega), Ab 188 j (by omega) (by omega)]
        have := P8 j (by omega) (by omega); omega
      · rcases J with ⟨j1, j2⟩ | s
        · rw [j1, j2]
          exact HO a2 b2 q3 mt HD af2 bf2 (fun cc y z1 z2 z3 z4 z5 => by rw [Aa2 cc y z1 z5]; exact Aa cc y (by omega) z2 z3 z4) (fun cc y z1 z2 z3 z4 => by rw [Ab2 cc y z1 z3 z4]; exact Ab cc y z1 z2)
        · exact HS u53 d s
    · -- no member yet
      refine ⟨fun k hk => ?_, fun j k hj => absurd hj (by omega), fun j k hj => absurd hj (by omega), fun i j k s ij hj => absurd hj (by omega), fun j i hj => absurd hj (by omega)⟩
      rw [Aa 17 k (by omega) (by omega) (by omega) (by omega), Aa 21 k (by omega) (by omega) (by omega) (by omega)]
      exact ⟨F0 k hk, Nat.zero_le _, Nat.zero_le _⟩
end

section
/- HEADS: all of it, both sides -/
section
variable {nn : Nat} {K P V U : Nat → Int} {C : Nat → Nat} {c n N mt : Nat} {q : Int} {h g r w u v h0 r0 : ms_M}
theorem pgm_k {N : Int} : ∀ (d k m : Nat) (mE p q a b : Int), 0 ≤ p → PGM K r N d (k : Int) (m : Int) mE p q a b → ∀ i : Nat, k ≤ i → i < k + d → 0 ≤ r 178 i ∧ K (r 178 i).toNat = 2 ∧ ((K ((r 178 i).toNat + 1) = 16 ∧ K ((r 178 i).toNat + 2) = 2 ∧ r 179 i = r 178 i + 2) ∨ (¬ K ((r 178 i).toNat + 1) = 16 ∧ r 179 i = -1)) := by
  intro d
  induction d with
  | zero => intro k m mE p q a b _ _ i h1 h2; omega
  | succ d ih =>
    intro k m mE p q a b hp H i h1 h2
    obtain ⟨n2, p2, a2, ha, CL, H2⟩ := H
    obtain ⟨⟨k1, k2, k3⟩, s, e, k4, ML, _, k5, qe⟩ := CL
    rw [Int.toNat_natCast] at k3 k4
    have mm := mml_ab n2 _ _ _ _ _ ML
    by_cases ik : i = k
    · rw [ik, k3]
      rw [show (p + 1).toNat + 1 = (p + 2).toNat by omega, show (p + 1).toNat + 2 = (p + 3).toNat by omega]
      refine ⟨by omega, k2, ?_⟩
      rcases k4 with ⟨x1, x2, x3, _⟩ | ⟨x1, x2, _⟩
      · exact .inl ⟨x1, x2, by omega⟩
      · exact .inr ⟨x1, x2⟩
    · exact ih (k + 1) (m + n2) mE p2 q a2 b (by omega) (by rw [show ((k + 1 : Nat) : Int) = (k : Int) + 1 by omega, show ((m + n2 : Nat) : Int) = (m : Int) + n2 by omega]; exact H2) i (by omega) (by omega)
theorem pgm_1 {N : Int} : ∀ (d k m : Nat) (mE p q a b : Int), 0 ≤ p → PGM K r N d (k : Int) (m : Int) mE p q a b → (∀ j : Nat, m ≤ j → (j : Int) < mE → (k : Int) ≤ r 181 j ∧ r 181 j < (k : Int) + d) ∧ ∀ i j : Nat, m ≤ i → i < j → (j : Int) < mE → r 181 i ≤ r 181 j := by
  intro d
  induction d with
  | zero => intro k m mE p q a b _ H; obtain ⟨_, _, e⟩ := H; exact ⟨fun j h1 h2 => by omega, fun i j h1 h2 h3 => by omega⟩
  | succ d ih =>
    intro k m mE p q a b hp H
    obtain ⟨n2, p2, a2, ha, CL, H2⟩ := H
    obtain ⟨⟨k1, k2, k3⟩, s, e, k4, ML, c1, k5, qe⟩ := CL
    have mm := mml_ab n2 _ _ _ _ _ ML
    obtain ⟨I1, I2⟩ := ih (k + 1) (m + n2) mE p2 q a2 b (by omega) (by rw [show ((k + 1 : Nat) : Int) = (k : Int) + 1 by omega, show ((m + n2 : Nat) : Int) = (m : Int) + n2 by omega]; exact H2)
    refine ⟨fun j h1 h2 => ?_, fun i j h1 h2 h3 => ?_⟩
    · by_cases z : j < m + n2
      · have := c1 j (by omega) (by omega); omega
      · have := I1 j (by omega) h2; omega
    · by_cases z : i < m + n2
      · have e1 := c1 i (by omega) (by omega)
        by_cases z2 : j < m + n2
        · have := c1 j (by omega) (by omega); omega
        · have := I1 j (by omega) h3; omega
      · exact I2 i j (by omega) h2 h3
/-- parameters of members: where they begin -/
theorem pgm_8 {N : Int} : ∀ (d k m : Nat) (mE p q a b : Int), PGM K r N d (k : Int) (m : Int) mE p q a b → ∀ j : Nat, m ≤ j → (j : Int) < mE → 0 ≤ r 188 j ∧ 0 ≤ r 189 j ∧ r 188 j + r 189 j ≤ N := by
  have ML8 : ∀ (d m : Nat) (p q a b : Int), MML K r N d (m : Int) p q a b → ∀ j : Nat, m ≤ j → j < m + d → 0 ≤ r 188 j ∧ 0 ≤ r 189 j ∧ r 188 j + r 189 j ≤ N := by
    intro d
    induction d with
    | zero => intro m p q a b _ j h1 h2; omega
    | succ d ih =>
      intro m p q a b H j h1 h2
      obtain ⟨_, p2, a2, _, R, B, H2⟩ := H
      rw [Int.toNat_natCast] at B
      by_cases jm : j = m
      · rw [jm]; exact B
      · exact ih (m + 1) p2 q a2 b (by rw [show ((m + 1 : Nat) : Int) = (m : Int) + 1 by omega]; exact H2) j (by omega) (by omega)
  intro d
  induction d with
  | zero => intro k m mE p q a b H j h1 h2; obtain ⟨_, _, e⟩ := H; omega
  | succ d ih =>
    intro k m mE p q a b H j h1 h2
    obtain ⟨n2, p2, a2, ha, CL, H2⟩ := H
    obtain ⟨_, s, e, k4, ML, c1, k5, qe⟩ := CL
    by_cases z : j < m + n2
    · exact ML8 n2 m s e a a2 ML j h1 z
    · exact ih (k + 1) (m + n2) mE p2 q a2 b (by rw [show ((k + 1 : Nat) : Int) = (k : Int) + 1 by omega, show ((m + n2 : Nat) : Int) = (m : Int) + n2 by omega]; exact H2) j (by omega) h2
theorem pgm_f {N : Int} (e : ∀ cc y : Nat, (167 ≤ cc ∧ cc ≤ 194 ∧ ¬ cc = 180 ∧ ¬ cc = 187 ∧ ¬ cc = 174) → v cc y = r cc y) : ∀ (d : Nat) (k m mE p q a b : Int), PGM K r N d k m mE p q a b → 0 ≤ m → PGM K v N d k m mE p q a b := by
  intro d
  induction d with
  | zero => intro k m mE p q a b H _; exact H
  | succ d ih =>
    intro k m mE p q a b H hm
    obtain ⟨n2, p2, a2, ha, CL, H2⟩ := H
    exact ⟨n2, p2, a2, ha, clr_k (Int.le_refl _) hm ⟨e 178 _ (by omega), e 179 _ (by omega)⟩ (fun cc j z1 z2 z3 _ _ => e cc j (by omega)) (fun cc j z1 z2 _ => e cc j (by omega)) (fun cc x z1 z2 z3 _ _ => e cc x (by omega)) CL, ih _ _ _ _ _ _ _ H2 (by omega)⟩
/-- HEADS of both sides -/
theorem j_heads {β : Type} (h17 : 17 ≤ nn) (BK : TBn K c) {pq : Nat} (J : JPp K P c pq u v) {q2 : Int} (PG : PGM K v (v 160 39) n 0 0 (v 160 28) 0 q2 0 (v 160 22)) (e24 : v 160 24 = (n : Int)) (e11 : u 11 2 = (n : Int)) (n1 : 1 ≤ n ∧ n ≤ 334) (e15 : ∀ i : Nat, i < n → u 15 i = v 178 i) (NM : NMr K V c v) (VL : VLc K V c u) (VN : ∀ i : Nat, K i = 2 → 0 ≤ V i ∧ V i < (N : Int)) (e9 : u 2 9 = (N : Int)) (N1 : 32 ≤ N ∧ N ≤ 1532) (I0 : ∀ j : Nat, j < 16 → u 13 j = bi_A j) (F0 : ∀ k : Nat, k < 8 → u 17 k = 0 ∧ u 21 k = 0) (e39 : v 160 39 ≤ 1500) {F : ms_M → Option β} {Z : β → ms_M → Prop} (HS : ∀ a b : ms_M, SFj a b → Pc (F a) (fun A => Z A b)) (HO : ∀ (a b : ms_M) (q : Int) (mt : Nat), HDS K P V (fun k => (v 178 k).toNat) c n N mt q a b → a 2 11 = 0 → b 160 9 = 0 → (∀ cc y : Nat, ¬ (cc = 2 ∧ (y = 10 ∨ y = 11 ∨ y = 12)) → ¬ cc = 13 → ¬ cc = 14 → ¬ cc = 16 → ¬ (17 ≤ cc ∧ cc ≤ 29 ∧ ¬ cc = 20 ∧ ¬ cc = 26) → a cc y = u cc y) → (∀ cc y : Nat, ¬ (cc = 160 ∧ (y = 9 ∨ y = 10)) → ¬ cc = 180 → ¬ cc = 187 → ¬ cc = 195 → b cc y = v cc y) → Pc (F a) (fun A => Z A b)) : Pc (mx_sv (qf_X2_readClasses nn u) fun u47 => mx_sv (qf_X2_readMembers nn u47) fun u50 => mx_sv (qf_X2_checkOverrides nn u50) F) (fun A => Pc (qf_X13_heads nn v) (fun b => Z A b)) := by
  obtain ⟨B, D, ⟨g1, g2, g3⟩, hf, rf⟩ := J
  have PK := pgm_k n 0 0 _ _ _ _ _ (by omega) PG
  have P1 := pgm_1 n 0 0 _ _ _ _ _ (by omega) PG
  have P8 := pgm_8 n 0 0 _ _ _ _ _ PG
  have PN := pgm_n n 0 0 _ _ _ _ _ (by omega) PG
  have S : CKd K V (fun k => (v 178 k).toNat) n N := ⟨⟨n1, N1⟩, fun k hk => by
    have x := PK k (by omega) (by omega)
    refine ⟨x.2.1, fun y => ?_⟩
    rcases x.2.2 with ⟨y1, y2, _⟩ | ⟨y1, _⟩
    · exact y2
    · exact absurd y y1, VN⟩
  have H0 : HDc K P V (fun k => (v 178 k).toNat) c n u := ⟨B, VL, e11, fun k hk => by
    have x := PK k (by omega) (by omega)
    rw [e15 k hk]
    show v 178 k = (((v 178 k).toNat : Nat) : Int)
    omega⟩
  have D0 : HDr K P V (fun k => (v 178 k).toNat) c n v := ⟨D, NM, e24, fun k hk => by
    have x := PK k (by omega) (by omega)
    show v 178 k = (((v 178 k).toNat : Nat) : Int) ∧ ((K ((v 178 k).toNat + 1) = 16 ∧ v 179 k = (((v 178 k).toNat + 2 : Nat) : Int)) ∨ (¬ K ((v 178 k).toNat + 1) = 16 ∧ v 179 k = -1))
    refine ⟨by omega, ?_⟩
    rcases x.2.2 with ⟨y1, y2, y3⟩ | ⟨y1, y2⟩
    · exact .inl ⟨y1, by omega⟩
    · exact .inr ⟨y1, y2⟩⟩
  obtain ⟨mt, em⟩ : ∃ mt : Nat, v 160 28 = (mt : Int) := ⟨(v 160 28).toNat, by have := PN.1; omega⟩
  rw [em] at PG PN P1 P8
  refine pc_sv (P := fun u47 => Pc (qf_X13_heads nn v) (fun b => Pc (mx_sv (qf_X2_readMembers nn u47) fun u50 => mx_sv (qf_X2_checkOverrides nn u50) F) (fun A => Z A b))) ?_ (fun u47 y => pc_fl y)
  refine j_classes h17 BK S H0 e9 D0 I0 hf rf (fun a b s => ?_) (fun a b Aa Ab af bf n8 NC UP OK KN => ?_)
  · refine pc_sv (fs_qf_X2_readMembers s.1) ?_; intro u50 F50
    refine pc_sv (fs_qf_X2_checkOverrides (fs_n s.1 F50)) ?_; intro u53 F53
    exact HS u53 b (sf_k s (fs_t F50 F53) ft_r)
  · refine pc_fl ?_
    unfold qf_X2_readMembers
    refine pc_sv (P := fun u50 => Pc (qw_X13_heads_192 nn nn 0 b) (fun d => Pc (mx_sv (qf_X2_checkOverrides nn u50) F) (fun A => Z A d))) ?_ (fun u50 y => pc_fl y)
    have Ha := hdc_k H0 (fun cc y z => Aa cc y (by omega) (by omega) (by omega) (by omega))
    have Db := hdr_k D0 (fun cc y z => Ab cc y (by omega) (by omega))
    have PG2 : PGM K b (v 160 39) n 0 0 (mt : Int) 0 q2 0 (v 160 22) := pgm_f (fun cc y z => Ab cc y (by omega) (by omega)) n _ _ _ _ _ _ _ PG (by omega)
    refine j_pms BK S n8 Ha NC Db (mt := mt) (nN := v 160 39) (by rw [Ab 160 28 (by omega) (by omega)]; exact em) e39 (fun j hj => by rw [Ab 186 j (by omega) (by omega)]; exact PN.2 j (by omega) (by omega)) (fun a2 b2 s => ?_) (fun a2 b2 q3 Aa2 Ab2 af2 bf2 MT => ?_) n nn nn 0 0 0 q2 0 (v 160 22) 0 a b (fun _ _ _ _ => rfl) (fun _ _ _ _ _ => rfl) af bf ?_ (by omega) (by omega) PG2 (by omega)
    · refine pc_sv (fs_qf_X2_checkOverrides s.1) ?_; intro u53 F53
      exact HS u53 b2 (sf_k s F53 ft_r)
    · refine pc_fl ?_
      have b180 : b2 180 = b 180 := funext (fun y => Ab2 180 y (by omega) (by omega) (by omega))
      have HD : HDS K P V (fun k => (v 178 k).toNat) c n N mt q3 a2 b2 := by
        refine ⟨⟨hdc_k Ha (fun cc y z => Aa2 cc y (by omega) (by omega)), fun x hx => by rw [Aa2 16 x (by omega) (by omega)]; exact NC x hx, hdr_k Db (fun cc y z => Ab2 cc y (by omega) (by omega) (by omega))⟩, ⟨n8, by rw [b180]; exact UP, by rw [b180]; exact OK, ?_⟩, MT, ?_, fun j hj => ?_, fun j hj => ?_, fun i j ij hj => ?_⟩
        · rw [b180]
          refine ⟨fun j hj => by rw [Aa2 13 j (by omega) (by omega)]; exact KN.1 j hj, fun x y hx hy => ?_⟩
          have e13 : a2 (12 + 1) = a (12 + 1) := funext (fun z => Aa2 13 z (by omega) (by omega))
          have e14 : ∀ z, a2 (12 + 2) z = a (12 + 2) z := fun z => Aa2 14 z (by omega) (by omega)
          rw [e13, e14]
          exact KN.2 x y hx hy
        · rw [Ab2 160 28 (by omega) (by omega) (by omega), Ab 160 28 (by omega) (by omega)]; exact em
        · rw [Ab2 186 j (by omega) (by omega) (by omega), Ab 186 j (by omega) (by omega)]; exact PN.2 j (by omega) (by omega)
        · rw [Ab2 181 j (by omega) (by omega) (by omega), Ab 181 j (by omega) (by omega)]
          have := P1.1 j (by omega) (by omega); omega
        · rw [Ab2 181 j (by omega) (by omega) (by omega), Ab 181 j (by omega) (by omega), Ab2 181 i (by omega) (by omega) (by omega), Ab 181 i (by omega) (by omega)]
          exact P1.2 i j (by omega) ij (by omega)
      unfold qf_X2_checkOverrides
      refine pc_sv (P := fun u53 => Pc (qw_X13_heads_220 nn nn 0 b2) (fun d => (u53 = a2 ∧ d = b2) ∨ SFj u53 d)) (j_ovs BK S HD (fun j hj => ?_) af2 bf2 (96 + mt) nn nn 0 0 (by omega) (by omega) (by omega) (fun j k hj _ _ => absurd hj (by omega)) (fun j k _ _ _ _ => by omega)) (fun u53 y => pc_fl (pc_imp y (fun d J => ?_)))
      · rw [Ab2 188 j (by omega) (by omega) (by omega), Ab 188 j (by omega) (by omega)]
        have := P8 j (by omega) (by omega); omega
      · rcases J with ⟨j1, j2⟩ | s
        · rw [j1, j2]
          exact HO a2 b2 q3 mt HD af2 bf2 (fun cc y z1 z2 z3 z4 z5 => by rw [Aa2 cc y z1 z5]; exact Aa cc y (by omega) z2 z3 z4) (fun cc y z1 z2 z3 z4 => by rw [Ab2 cc y z1 z3 z4]; exact Ab cc y z1 z2)
        · exact HS u53 d s
    · -- no member yet
      refine ⟨fun k hk => ?_, fun j k hj => absurd hj (by omega), fun j k hj => absurd hj (by omega), fun i j k s ij hj => absurd hj (by omega), fun j i hj => absurd hj (by omega)⟩
      rw [Aa 17 k (by omega) (by omega) (by omega) (by omega), Aa 21 k (by omega) (by omega) (by omega) (by omega)]
      exact ⟨F0 k hk, Nat.zero_le _, Nat.zero_le _⟩
end
end
section
/- RULES: which type fits which, both sides -/
def EXT (U : Nat → Int) (x d : Int) : Prop := ∃ i : Nat, ui_T U x i = d ∧ ∀ j : Nat, j ≤ i → 0 ≤ ui_T U x j
def FTS (U : Nat → Int) (a b : Int) : Prop := a = b ∨ (a = 300 ∧ 0 ≤ b ∧ b ≤ 200) ∨ ((0 ≤ a ∧ a < 16) ∧ (0 ≤ b ∧ b < 16) ∧ EXT U a b) ∨ (b = 0 ∧ 100 ≤ a ∧ a ≤ 200) ∨ ((100 ≤ a ∧ a < 116) ∧ (100 ≤ b ∧ b < 116) ∧ EXT U (a - 100) (b - 100))
/-- a type whose class is there -/
def VTn (n : Nat) (t : Int) : Prop := t = 301 ∨ t = 302 ∨ t = 303 ∨ t = 300 ∨ t = 200 ∨ (0 ≤ t ∧ t < 8 + (n : Int)) ∨ (100 ≤ t ∧ t < 108 + (n : Int))
section
variable {nn : Nat} {K P V U : Nat → Int} {C : Nat → Nat} {c n N mt : Nat} {q : Int} {h g r w u v h0 r0 : ms_M}
theorem vtn_v (n8 : n ≤ 8) {t : Int} (H : VTn n t) : VTy t := by
  rcases H with e | e | e | e | e | e | e
  · exact .inl e
  · exact .inr (.inl e)
  · exact .inr (.inr (.inl e))
  · exact .inr (.inr (.inr (.inl e)))
  · exact .inr (.inr (.inr (.inr (.inl e))))
  · exact .inr (.inr (.inr (.inr (.inr (.inl (by omega))))))
  · exact .inr (.inr (.inr (.inr (.inr (.inr (by omega))))))
theorem ch_s {f : Nat → Int} : ∀ (m : Nat) (a : Int), ch_N f (m + 1) a = (if 0 ≤ ch_N f m a ∧ ch_N f m a < 16 then f (ch_N f m a).toNat else ch_N f m a) := by
  intro m
  induction m with
  | zero => intro a; rfl
  | succ m ih =>
    intro a
    show ch_N f (m + 1) (if 0 ≤ a ∧ a < 16 then f a.toNat else a) = _
    rw [ih]
    all_goals rfl
theorem ch_ui (n8 : n ≤ 8) (B : ∀ k : Nat, k < n → -1 ≤ U k ∧ U k < 8 + (n : Int)) {f : Nat → Int} (E : ∀ x : Int, 0 ≤ x → x < 8 + (n : Int) → f x.toNat = uq_T U x) {x : Int} (hx : 0 ≤ x ∧ x < 8 + (n : Int)) : ∀ m : Nat, ((∀ j : Nat, j ≤ m → 0 ≤ ui_T U x j ∧ ui_T U x j < 8 + (n : Int)) ∧ ch_N f m x = ui_T U x m) ∨ ch_N f m x = -1 := by
  intro m
  induction m with
  | zero =>
    refine .inl ⟨fun j hj => ?_, rfl⟩
    rw [show j = 0 by omega]; exact hx
  | succ m ih =>
    rw [ch_s]
    rcases ih with ⟨A, e⟩ | e
    · have a := A m (by omega)
      rw [e, if_pos (by omega), E _ a.1 a.2]
      have b : -1 ≤ uq_T U (ui_T U x m) ∧ uq_T U (ui_T U x m) < 8 + (n : Int) := by
        unfold uq_T
        by_cases q0 : ui_T U x m = 0
        · rw [if_pos q0]; omega
        · rw [if_neg q0]
          by_cases q1 : ui_T U x m = 1
          · rw [if_pos q1]; omega
          · rw [if_neg q1]
            by_cases q8 : 8 ≤ ui_T U x m
            · rw [if_pos q8]; exact B _ (by omega)
            · rw [if_neg q8]; omega
      by_cases z : uq_T U (ui_T U x m) = -1
      · exact .inr z
      · refine .inl ⟨fun j hj => ?_, rfl⟩
        by_cases jm : j = m + 1
        · rw [jm]
          show 0 ≤ uq_T U (ui_T U x m) ∧ uq_T U (ui_T U x m) < 8 + (n : Int)
          omega
        · exact A j (by omega)
    · rw [e, if_neg (by omega)]; exact .inr rfl
/-- a way up without a class that is not there is short -/
theorem ext_12 (n8 : n ≤ 8) (OK : OKc V C U n n) {x : Int} (hx : 0 ≤ x ∧ x < 8 + (n : Int)) {i : Nat} (A : ∀ j : Nat, j ≤ i → 0 ≤ ui_T U x j) : i ≤ 12 := by
  have Z : ∃ e : Nat, e ≤ n + 1 ∧ ui_T U x e < 8 := by
    by_cases x8 : x < 8
    · exact ⟨0, by omega, x8⟩
    · obtain ⟨e, e1, e2⟩ := (OK (x - 8).toNat (by omega)).2.2
      rw [show 8 + (((x - 8).toNat : Nat) : Int) = x by omega] at e2
      exact ⟨e, e1, e2⟩
  obtain ⟨e, e1, e2⟩ := Z
  exact Classical.byContradiction fun z => by
    obtain ⟨j, j1, j2⟩ := ui_3 e2 (by have := A e (by omega); omega)
    have := A j (by omega)
    omega
theorem kn_uq (S : CKd K V C n N) (n8 : n ≤ 8) (KN : KNc U n h) : ∀ x : Int, 0 ≤ x → x < 8 + (n : Int) → h 13 x.toNat = uq_T U x := by
  intro x h0 h1
  rw [KN.1 x.toNat (by omega)]
  unfold uq_T bi_A
  by_cases x8 : x < 8
  · rw [if_pos (by omega)]
    by_cases x0 : x = 0
    · rw [if_pos x0, if_neg (by omega), if_neg (by omega)]
    · rw [if_neg x0]
      by_cases x1 : x = 1
      · rw [if_pos x1, if_pos (by omega)]
      · rw [if_neg x1, if_neg (by omega), if_pos (by omega), if_neg (by omega)]
  · rw [if_neg (by omega), if_pos (by omega), if_neg (by omega), if_neg (by omega), if_pos (by omega), show (x - 8).toNat = x.toNat - 8 by omega]
theorem re_ext (S : CKd K V C n N) (n8 : n ≤ 8) (B : ∀ k : Nat, k < n → -1 ≤ U k ∧ U k < 8 + (n : Int)) (OK : OKc V C U n n) (KN : KNc U n h) {x d : Int} (hx : 0 ≤ x ∧ x < 8 + (n : Int)) (hd : 0 ≤ d) : re_N (h 13) 16 x d ↔ EXT U x d := by
  have E := kn_uq S n8 KN
  constructor
  · intro z
    obtain ⟨m, m1, m2⟩ := z
    rcases ch_ui n8 B E hx m with ⟨A, e⟩ | e
    · exact ⟨m, by rw [← e]; exact m2, fun j hj => (A j hj).1⟩
    · omega
  · intro z
    obtain ⟨i, e, A⟩ := z
    have i12 := ext_12 n8 OK hx A
    refine ⟨i, by omega, ?_⟩
    rcases ch_ui n8 B E hx i with ⟨A2, e2⟩ | e2
    · rw [e2]; exact e
    · exfalso
      -- all below i are there, so it has not left
      have L : ∀ m : Nat, m ≤ i → ch_N (h 13) m x = ui_T U x m := by
        intro m
        induction m with
        | zero => intro _; rfl
        | succ m ih =>
          intro hm
          have a := A m (by omega)
          have b : ui_T U x m < 8 + (n : Int) := by
            rcases ch_ui n8 B E hx m with ⟨A3, _⟩ | e3
            · exact (A3 m (by omega)).2
            · rw [ih (by omega)] at e3; omega
          rw [ch_s, ih (by omega), if_pos (by omega), E _ a b]
          all_goals rfl
      have a := A i (by omega)
      rw [L i (by omega)] at e2
      omega
/-- the class's table -/
theorem c_und (S : CKd K V C n N) (n8 : n ≤ 8) (B : ∀ k : Nat, k < n → -1 ≤ U k ∧ U k < 8 + (n : Int)) (OK : OKc V C U n n) (KN : KNc U n h) {x d y : Int} (hx : 0 ≤ x ∧ x < 8 + (n : Int)) (hd : 0 ≤ d ∧ d < 8 + (n : Int)) (hy : y = 16 * x + d) : Pc (rd_A 256 (12 + 2) y h fun v6 => if v6 = 0 then (some (0 : Int)) else (some 1)) (fun u => (u = 1 ∧ EXT U x d) ∨ (u = 0 ∧ ¬ EXT U x d)) := by
  have R := re_ext S n8 B OK KN hx hd.1
  have T := KN.2 x.toNat d.toNat (by omega) (by omega)
  rw [show ((x.toNat : Nat) : Int) = x by omega, show ((d.toNat : Nat) : Int) = d by omega] at T
  refine pc_rA ?_; intro _ _ v6 e6
  rw [show y.toNat = 16 * x.toNat + d.toNat by omega] at e6
  by_cases z : EXT U x d
  · have e1 := T.1 (R.mpr z)
    refine pc_if (fun y => by omega) (fun _ => pc_ret (.inl ⟨rfl, z⟩))
  · have e0 := T.2 (fun y => z (R.mp y))
    refine pc_if (fun _ => pc_ret (.inr ⟨rfl, z⟩)) (fun y => by omega)
theorem c_fits (S : CKd K V C n N) (n8 : n ≤ 8) (B : ∀ k : Nat, k < n → -1 ≤ U k ∧ U k < 8 + (n : Int)) (OK : OKc V C U n n) (KN : KNc U n h) {a b : Int} (va : VTn n a) (vb : VTn n b) : Pc (qf_X4_fits nn 12 a b h) (fun u => (u = 1 ∧ FTS U a b) ∨ (u = 0 ∧ ¬ FTS U a b)) := by
  unfold VTn at va vb
  unfold qf_X4_fits
  refine pc_if (fun z => ?_) (fun z => ?_)
  · refine pc_if (fun z3 => ?_) (fun z3 => ?_)
    · refine pc_if (fun y => absurd y (by omega)) (fun _ => ?_)
      refine pc_if (fun y => ?_) (fun y => ?_)
      · unfold qj_X4_fits_71
        have N122 : ¬ FTS U a b → Pc (qj_X4_fits_122 nn 12 a b h) (fun u => (u = 1 ∧ FTS U a b) ∨ (u = 0 ∧ ¬ FTS U a b)) := fun nf => by
          unfold qj_X4_fits_122 qj_X4_fits_123
          exact pc_if (fun _ => pc_ret (.inr ⟨rfl, nf⟩)) (fun y => absurd rfl y)
        refine pc_if (fun b0 => ?_) (fun b0 => ?_)
        · refine pc_if (fun y1 => N122 (fun f => ?_)) (fun y1 => ?_)
          · rcases f with f | f | f | f | f <;> omega
          · refine pc_if (fun y2 => N122 (fun f => ?_)) (fun y2 => ?_)
            · rcases f with f | f | f | f | f <;> omega
            · refine pc_if (fun y3 => N122 (fun f => ?_)) (fun y3 => ?_)
              · rcases f with f | f | f | f | f <;> omega
              · refine pc_if (fun y4 => N122 (fun f => ?_)) (fun y4 => ?_)
                · rcases f with f | f | f | f | f <;> omega
                · unfold qj_X4_fits_123
                  refine pc_if (fun y5 => absurd y5 (by decide)) (fun _ => ?_)
                  refine pc_sub (by omega) ?_; intro v2 e2
                  refine pc_xl ?_; intro v3 e3
                  rw [oq_mul_eq (by omega) (by omega) (by omega)] at e3
                  refine pc_add (by omega) ?_; intro v4 e4
                  refine pc_sub (by omega) ?_; intro v5 e5
                  refine pc_imp (c_und S n8 B OK KN (x := a - 100) (d := b - 100) (by omega) (by omega) (by omega)) (fun u x => ?_)
                  rcases x with ⟨x1, x2⟩ | ⟨x1, x2⟩
                  · exact .inl ⟨x1, .inr (.inr (.inr (.inr ⟨by omega, by omega, x2⟩)))⟩
                  · refine .inr ⟨x1, fun f => ?_⟩
                    rcases f with f | f | f | f | f
                    · omega
                    · omega
                    · omega
                    · omega
                    · exact x2 f.2.2
        · have b1 : b = 0 := Classical.byContradiction b0
          refine pc_if (fun y1 => pc_ret (.inr ⟨rfl, fun f => ?_⟩)) (fun y1 => ?_)
          · rcases f with f | f | f | f | f <;> omega
          · refine pc_if (fun y2 => pc_ret (.inr ⟨rfl, fun f => ?_⟩)) (fun y2 => ?_)
            · rcases f with f | f | f | f | f <;> omega
            · exact pc_ret (.inl ⟨rfl, .inr (.inr (.inr (.inl ⟨b1, by omega, by omega⟩)))⟩)
      · refine pc_if (fun y1 => absurd y1 (by omega)) (fun _ => ?_)
        refine pc_if (fun y2 => pc_ret (.inr ⟨rfl, fun f => ?_⟩)) (fun y2 => ?_)
        · rcases f with f | f | f | f | f <;> omega
        · refine pc_xl ?_; intro v17 e17
          rw [oq_mul_eq (by omega) (by omega) (by omega)] at e17
          refine pc_add (by omega) ?_; intro v18 e18
          refine pc_imp (c_und S n8 B OK KN (x := a) (d := b) (by omega) (by omega) (by omega)) (fun u x => ?_)
          rcases x with ⟨x1, x2⟩ | ⟨x1, x2⟩
          · exact .inl ⟨x1, .inr (.inr (.inl ⟨by omega, by omega, x2⟩))⟩
          · refine .inr ⟨x1, fun f => ?_⟩
            rcases f with f | f | f | f | f
            · omega
            · omega
            · exact x2 f.2.2
            · omega
            · omega
    · have a3 : a = 300 := Classical.byContradiction z3
      refine pc_if (fun y => absurd y (by omega)) (fun _ => ?_)
      refine pc_if (fun y => pc_ret (.inr ⟨rfl, fun f => ?_⟩)) (fun y => ?_)
      · rcases f with f | f | f | f | f <;> omega
      · exact pc_ret (.inl ⟨rfl, .inr (.inl ⟨a3, by omega, by omega⟩)⟩)
  · exact pc_ret (.inl ⟨rfl, .inl (Classical.byContradiction z)⟩)
theorem c_one (S : CKd K V C n N) (n8 : n ≤ 8) (B : ∀ k : Nat, k < n → -1 ≤ U k ∧ U k < 8 + (n : Int)) (OK : OKc V C U n n) (KN : KNc U n h) {a b : Int} (va : VTn n a) (vb : VTn n b) : Pc (qf_X4_oneFits nn a b h) (fun u => (u = 1 ∧ (FTS U a b ∨ FTS U b a)) ∨ (u = 0 ∧ ¬ (FTS U a b ∨ FTS U b a))) := by
  unfold qf_X4_oneFits
  refine pc_sv (c_fits S n8 B OK KN va vb) ?_; intro u2 q2
  refine pc_if (fun z => ?_) (fun z => ?_)
  · refine pc_ret (.inl ⟨rfl, .inl ?_⟩)
    rcases q2 with ⟨x, y⟩ | ⟨x, y⟩
    · exact y
    · exact absurd x z
  · have nf : ¬ FTS U a b := by
      rcases q2 with ⟨x, y⟩ | ⟨x, y⟩
      · omega
      · exact y
    refine pc_sv (c_fits S n8 B OK KN vb va) ?_; intro u4 q4
    refine pc_if (fun z4 => ?_) (fun z4 => ?_)
    · refine pc_ret (.inr ⟨rfl, fun f => ?_⟩)
      rcases q4 with ⟨x, y⟩ | ⟨x, y⟩
      · omega
      · rcases f with f | f
        · exact nf f
        · exact y f
    · refine pc_ret (.inl ⟨rfl, .inr ?_⟩)
      rcases q4 with ⟨x, y⟩ | ⟨x, y⟩
      · exact y
      · exact absurd x z4
/- the reference -/
theorem r_ext2 {x d : Int} (B : ∀ k : Nat, k < n → -1 ≤ r 180 k ∧ r 180 k < 8 + (n : Int)) (n8 : n ≤ 8) (hx : 0 ≤ x ∧ x < 8 + (n : Int)) (hd : 0 ≤ d) : ∀ (f i : Nat), (∀ j : Nat, j < i → 0 ≤ ui_T (r 180) x j ∧ ui_T (r 180) x j < 8 + (n : Int)) → (∀ j : Nat, j < i → ¬ ui_T (r 180) x j = d) → (-1 ≤ ui_T (r 180) x i ∧ ui_T (r 180) x i < 8 + (n : Int)) → Pc (qw_X13_extendsIt_2 nn f d (ui_T (r 180) x i) r) (fun u => (u = 1 ∧ EXT (r 180) x d) ∨ (u = 0 ∧ ¬ EXT (r 180) x d)) := by
  intro f
  induction f with
  | zero => intros; exact pc_none
  | succ f ih =>
    intro i A A2 b
    unfold qw_X13_extendsIt_2
    refine pc_if (fun z => ?_) (fun z => ?_)
    · unfold qj_X13_extendsIt_21
      refine pc_if (fun _ => pc_ret (.inr ⟨rfl, fun E => ?_⟩)) (fun y => absurd (fun y2 => by omega) y)
      obtain ⟨m, m1, m2⟩ := E
      by_cases mi : m < i
      · exact A2 m mi m1
      · have := m2 i (by omega); omega
    · refine pc_if (fun y => ?_) (fun y => ?_)
      · unfold qj_X13_extendsIt_21
        refine pc_if (fun y2 => absurd y y2) (fun _ => pc_ret (.inl ⟨rfl, i, y, fun j hj => ?_⟩))
        by_cases ji : j = i
        · rw [ji]; omega
        · exact (A j (by omega)).1
      · refine pc_sv (r_up (by omega)) ?_; intro u3 q3
        rw [show u3 = ui_T (r 180) x (i + 1) from q3]
        refine ih (i + 1) (fun j hj => ?_) (fun j hj => ?_) ?_
        · by_cases ji : j = i
          · rw [ji]; omega
          · exact A j (by omega)
        · by_cases ji : j = i
          · rw [ji]; exact y
          · exact A2 j (by omega)
        · show -1 ≤ uq_T (r 180) (ui_T (r 180) x i) ∧ uq_T (r 180) (ui_T (r 180) x i) < 8 + (n : Int)
          unfold uq_T
          by_cases q0 : ui_T (r 180) x i = 0
          · rw [if_pos q0]; omega
          · rw [if_neg q0]
            by_cases q1 : ui_T (r 180) x i = 1
            · rw [if_pos q1]; omega
            · rw [if_neg q1]
              by_cases q8 : 8 ≤ ui_T (r 180) x i
              · rw [if_pos q8]; exact B _ (by omega)
              · rw [if_neg q8]; omega
theorem r_fits (n8 : n ≤ 8) (B : ∀ k : Nat, k < n → -1 ≤ r 180 k ∧ r 180 k < 8 + (n : Int)) {a b : Int} (va : VTn n a) (vb : VTn n b) : Pc (qf_X13_fits nn (ty_T a) (ty_T b) r) (fun u => (u = 1 ∧ FTS (r 180) a b) ∨ (u = 0 ∧ ¬ FTS (r 180) a b)) := by
  have ta := ty_c (vtn_v n8 va)
  have tb := ty_c (vtn_v n8 vb)
  unfold VTn at va vb
  generalize ty_T a = x at ta ⊢
  generalize ty_T b = y at tb ⊢
  have F44 : (¬ x = y) → (¬ x = 2) → ¬ ((x = 4 ∨ (8 ≤ x ∧ x % 2 = 1)) ∧ y = 8) → Pc (qj_X13_fits_44 nn x y r) (fun u => (u = 1 ∧ FTS (r 180) a b) ∨ (u = 0 ∧ ¬ FTS (r 180) a b)) := fun n1 n2 n3 => by
    unfold qj_X13_fits_44
    refine pc_if (fun z => pc_ret (.inr ⟨rfl, fun f => ?_⟩)) (fun z => ?_)
    · rcases f with f | f | f | f | f <;> omega
    · refine pc_if (fun z2 => pc_ret (.inr ⟨rfl, fun f => ?_⟩)) (fun z2 => ?_)
      · rcases f with f | f | f | f | f <;> omega
      · refine pc_mod (by omega) ?_; intro v1 e1
        refine pc_mod (by omega) ?_; intro v2 e2
        refine pc_if (fun z3 => pc_ret (.inr ⟨rfl, fun f => ?_⟩)) (fun z3 => ?_)
        · rcases f with f | f | f | f | f <;> omega
        · refine pc_sub (by omega) ?_; intro v3 e3
          refine pc_div (by omega) ?_; intro v4 e4
          refine pc_sub (by omega) ?_; intro v5 e5
          refine pc_div (by omega) ?_; intro v6 e6
          have E := r_ext2 (nn := nn) (x := v4) (d := v6) B n8 (by omega) (by omega) nn 0 (fun j hj => absurd hj (by omega)) (fun j hj => absurd hj (by omega)) (by show -1 ≤ v4 ∧ v4 < 8 + (n : Int); omega)
          unfold qf_X13_extendsIt
          refine pc_sv E ?_; intro u8 q8
          by_cases ar : 100 ≤ a
          · have d4 : v4 = a - 100 := by omega
            have d6 : v6 = b - 100 := by omega
            rw [d4, d6] at q8
            refine pc_if (fun z8 => ?_) (fun z8 => ?_)
            · refine pc_ret (.inr ⟨rfl, fun f => ?_⟩)
              rcases f with f | f | f | f | f
              · omega
              · omega
              · omega
              · omega
              · rcases q8 with ⟨w1, w2⟩ | ⟨w1, w2⟩
                · omega
                · exact w2 f.2.2
            · refine pc_ret (.inl ⟨rfl, .inr (.inr (.inr (.inr ⟨by omega, by omega, ?_⟩)))⟩)
              rcases q8 with ⟨w1, w2⟩ | ⟨w1, w2⟩
              · exact w2
              · exact absurd w1 z8
          · have d4 : v4 = a := by omega
            have d6 : v6 = b := by omega
            rw [d4, d6] at q8
            refine pc_if (fun z8 => ?_) (fun z8 => ?_)
            · refine pc_ret (.inr ⟨rfl, fun f => ?_⟩)
              rcases f with f | f | f | f | f
              · omega
              · omega
              · rcases q8 with ⟨w1, w2⟩ | ⟨w1, w2⟩
                · omega
                · exact w2 f.2.2
              · omega
              · omega
            · refine pc_ret (.inl ⟨rfl, .inr (.inr (.inl ⟨by omega, by omega, ?_⟩))⟩)
              rcases q8 with ⟨w1, w2⟩ | ⟨w1, w2⟩
              · exact w2
              · exact absurd w1 z8
  unfold qf_X13_fits
  refine pc_if (fun z => ?_) (fun z => ?_)
  · refine pc_if (fun z2 => ?_) (fun z2 => ?_)
    · refine pc_sv (P := fun u => (u = 1 ∧ (x = 4 ∨ (8 ≤ x ∧ x % 2 = 1))) ∨ (u = 0 ∧ ¬ (x = 4 ∨ (8 ≤ x ∧ x % 2 = 1)))) ?_ ?_
      · unfold qf_X13_isArray
        refine pc_if (fun w => pc_ret (.inl ⟨rfl, .inl w⟩)) (fun w => ?_)
        refine pc_if (fun w2 => pc_ret (.inr ⟨rfl, by omega⟩)) (fun w2 => ?_)
        refine pc_mod (by omega) ?_; intro v1 e1
        exact pc_if (fun w3 => pc_ret (.inr ⟨rfl, by omega⟩)) (fun w3 => pc_ret (.inl ⟨rfl, by omega⟩))
      · intro u13 q13
        refine pc_if (fun w => F44 z z2 (by omega)) (fun w => ?_)
        refine pc_if (fun w2 => F44 z z2 (by omega)) (fun w2 => ?_)
        exact pc_ret (.inl ⟨rfl, .inr (.inr (.inr (.inl ⟨by omega, by omega, by omega⟩)))⟩)
    · have x2 : x = 2 := Classical.byContradiction z2
      refine pc_if (fun w => pc_ret (.inl ⟨rfl, .inr (.inl ⟨by omega, by omega, by omega⟩)⟩)) (fun w => ?_)
      refine pc_if (fun w2 => pc_ret (.inr ⟨rfl, fun f => ?_⟩)) (fun w2 => ?_)
      · rcases f with f | f | f | f | f <;> omega
      · exact pc_ret (.inl ⟨rfl, .inr (.inl ⟨by omega, by omega, by omega⟩)⟩)
  · exact pc_ret (.inl ⟨rfl, .inl (by omega)⟩)
theorem r_go (n8 : n ≤ 8) (B : ∀ k : Nat, k < n → -1 ≤ r 180 k ∧ r 180 k < 8 + (n : Int)) {a b : Int} (va : VTn n a) (vb : VTn n b) : Pc (qf_X13_goTogether nn (ty_T a) (ty_T b) r) (fun u => (u = 1 ∧ (((ty_T a < 2 ∨ ty_T b < 2) ∧ a = b) ∨ (¬ (ty_T a < 2 ∨ ty_T b < 2) ∧ (FTS (r 180) a b ∨ FTS (r 180) b a)))) ∨ (u = 0 ∧ ¬ (((ty_T a < 2 ∨ ty_T b < 2) ∧ a = b) ∨ (¬ (ty_T a < 2 ∨ ty_T b < 2) ∧ (FTS (r 180) a b ∨ FTS (r 180) b a))))) := by
  have ti := ty_i (vtn_v n8 va) (vtn_v n8 vb)
  have T10 : (ty_T a < 2 ∨ ty_T b < 2) → Pc (qj_X13_goTogether_10 nn (ty_T a) (ty_T b) r) (fun u => (u = 1 ∧ (((ty_T a < 2 ∨ ty_T b < 2) ∧ a = b) ∨ (¬ (ty_T a < 2 ∨ ty_T b < 2) ∧ (FTS (r 180) a b ∨ FTS (r 180) b a)))) ∨ (u = 0 ∧ ¬ (((ty_T a < 2 ∨ ty_T b < 2) ∧ a = b) ∨ (¬ (ty_T a < 2 ∨ ty_T b < 2) ∧ (FTS (r 180) a b ∨ FTS (r 180) b a))))) := fun lt => by
    unfold qj_X13_goTogether_10
    refine pc_if (fun z => pc_ret (.inr ⟨rfl, fun f => ?_⟩)) (fun z => pc_ret (.inl ⟨rfl, .inl ⟨lt, ti.mp (Classical.byContradiction z)⟩⟩))
    rcases f with ⟨_, f⟩ | ⟨f, _⟩
    · exact z (ti.mpr f)
    · exact f lt
  unfold qf_X13_goTogether
  refine pc_if (fun z => T10 (.inl z)) (fun z => ?_)
  refine pc_if (fun z2 => ?_) (fun z2 => T10 (.inr (by omega)))
  have nl : ¬ (ty_T a < 2 ∨ ty_T b < 2) := by omega
  refine pc_sv (r_fits n8 B va vb) ?_; intro u3 q3
  refine pc_if (fun w => ?_) (fun w => ?_)
  · refine pc_ret (.inl ⟨rfl, .inr ⟨nl, .inl ?_⟩⟩)
    rcases q3 with ⟨x, y⟩ | ⟨x, y⟩
    · exact y
    · exact absurd x w
  · have nf : ¬ FTS (r 180) a b := by
      rcases q3 with ⟨x, y⟩ | ⟨x, y⟩
      · omega
      · exact y
    refine pc_sv (r_fits n8 B vb va) ?_; intro u5 q5
    refine pc_if (fun w5 => ?_) (fun w5 => ?_)
    · refine pc_ret (.inr ⟨rfl, fun f => ?_⟩)
      rcases f with ⟨f, _⟩ | ⟨_, f⟩
      · exact nl f
      · rcases q5 with ⟨x, y⟩ | ⟨x, y⟩
        · omega
        · rcases f with f | f
          · exact nf f
          · exact y f
    · refine pc_ret (.inl ⟨rfl, .inr ⟨nl, .inr ?_⟩⟩)
      rcases q5 with ⟨x, y⟩ | ⟨x, y⟩
      · exact y
      · exact absurd x w5
end
end
section
/- COMPILE of both sides, as far as heads -/
section
variable {nn : Nat} {K P V U : Nat → Int} {C : Nat → Nat} {c n N mt : Nat} {q : Int} {h g r w u v h0 r0 : ms_M}
theorem b_sign {x : Int} : Pc (qf_X13_sign_ nn x h) (fun u => u 160 39 = h 160 39) := fun u e => ff_X13_sign_ nn u e 160 39 rfl
theorem b_word {x : Int} : Pc (qf_X13_word nn x h) (fun u => u 160 39 = h 160 39) := fun u e => ff_X13_word nn u e 160 39 rfl
theorem b_type : Pc (qf_X13_type nn h) (fun u => u 160 39 = h 160 39) := fun u e => ff_X13_type nn u e 160 39 rfl
theorem b_name : Pc (qf_X13_name nn h) (fun u => u.2 160 39 = h 160 39) := fun u e => ff_X13_name nn u e 160 39 rfl
theorem b_block {x : Int} : Pc (qf_X13_block nn x h) (fun u => u.2 160 39 = h 160 39) := fun u e => ff_X13_block nn u e 160 39 rfl
theorem b_360 {l3 : Int} (H : h 160 39 ≤ 1500) : Pc (qj_X13_member_360 nn l3 h) (fun u => u 160 39 ≤ 1500) := by
  unfold qj_X13_member_360
  refine pc_sv b_sign ?_; intro u2 e2
  refine pc_sv b_block ?_; intro u5 e5
  refine pc_wA ?_; intro _ _ h6 e6
  exact pc_ret (by rw [e6, up_n (by omega)]; omega)
theorem b_269 {qk : Int → ms_M → Option ms_M} {l3 : Int} (Hk : ∀ (l : Int) (z : ms_M), z 160 39 ≤ 1500 → Pc (qk l z) (fun u => u 160 39 ≤ 1500)) (H : h 160 39 ≤ 1500) : Pc (qj_X13_member_269 nn qk l3 h) (fun u => u 160 39 ≤ 1500) := by
  unfold qj_X13_member_269
  refine pc_sv b_type ?_; intro u8 e8
  refine pc_sv b_name ?_; intro u10 e10
  refine pc_if (fun _ => ?_) (fun _ => pc_ret (by omega))
  refine pc_wA ?_; intro i1 i2 h15 e15
  refine pc_wA ?_; intro _ _ h19 e19
  refine pc_wZ ?_; intro _ _ h23 e23
  refine pc_wA ?_; intro _ _ h26 e26
  have e39 : h26 160 39 = u10.2 160 39 := by rw [e26, up_n (by omega), e23, up_n (by omega), e19, up_n (by omega), e15, up_n (by omega)]
  refine pc_add (by omega) ?_; intro v28 e28
  refine pc_xl ?_; intro h29 e29
  refine pc_rA ?_; intro _ _ v31 _
  refine pc_xl ?_; intro v32 _
  refine pc_wA ?_; intro _ _ h33 e33
  exact Hk l3 h33 (by rw [e33, up_n (by omega), e29, up_s]; omega)
theorem b_234 : ∀ (f : Nat) (l3 : Int) (h : ms_M), h 160 39 ≤ 1500 → Pc (qw_X13_member_234 nn f l3 h) (fun u => u 160 39 ≤ 1500) := by
  intro f
  induction f with
  | zero => intros; exact pc_none
  | succ f ih =>
    intro l3 h H
    unfold qw_X13_member_234
    refine pc_if (fun _ => b_360 H) (fun _ => ?_)
    refine pc_se ?_; intro u38 _
    refine pc_if (fun _ => b_360 H) (fun _ => ?_)
    refine pc_rA ?_; intro _ _ v40 _
    refine pc_if (fun _ => b_269 (fun l z y => ih l z y) H) (fun _ => ?_)
    refine pc_sv b_sign ?_; intro u42 e42
    exact b_269 (fun l z y => ih l z y) (by omega)
theorem b_170 {l1 l2 l3 s0 s1 : Int} (H : h 160 39 ≤ 1500) : Pc (qj_X13_member_170 nn l1 l2 l3 s0 s1 h) (fun u => u 160 39 ≤ 1500) := by
  unfold qj_X13_member_170
  refine pc_wA ?_; intro _ _ h46 e46
  have H46 : h46 160 39 ≤ 1500 := by rw [e46, up_n (by omega)]; exact H
  refine pc_if (fun _ => ?_) (fun _ => pc_ret H46)
  refine pc_xl ?_; intro v49 _
  refine pc_xl ?_; intro h50 e50
  have H50 : h50 160 39 ≤ 1500 := by rw [e50, up_n (by omega)]; exact H46
  have G : Pc (mx_sv (qf_X13_sign_ nn 40 h50) fun u52 => qw_X13_member_234 nn nn l3 u52) (fun u => u 160 39 ≤ 1500) := by
    refine pc_sv b_sign ?_; intro u52 e52
    exact b_234 nn l3 u52 (by omega)
  refine pc_if (fun _ => G) (fun _ => ?_)
  refine pc_if (fun _ => G) (fun _ => ?_)
  refine pc_se ?_; intro u57 _
  refine pc_if (fun _ => G) (fun _ => ?_)
  refine pc_xl ?_; intro v61 _
  refine pc_xl ?_; intro h62 e62
  refine pc_wA ?_; intro _ _ h64 e64
  exact pc_ret (by rw [e64, up_n (by omega), e62, up_n (by omega)]; exact H50)
theorem b_75 {l1 l2 : Int} (H : h 160 39 ≤ 1500) : Pc (qj_X13_member_75 nn l1 l2 h) (fun u => u 160 39 ≤ 1500) := by
  unfold qj_X13_member_75
  refine pc_wA ?_; intro _ _ h72 e72
  refine pc_wA ?_; intro _ _ h75 e75
  refine pc_wZ ?_; intro _ _ h78 e78
  have H78 : h78 160 39 ≤ 1500 := by rw [e78, up_n (by omega), e75, up_n (by omega), e72, up_n (by omega)]; exact H
  refine pc_sv b_name ?_; intro u81 e81
  refine pc_wA ?_; intro _ _ h82 e82
  refine pc_xl ?_; intro v85 _
  refine pc_wA ?_; intro _ _ h86 e86
  refine pc_wA ?_; intro _ _ h89 e89
  refine pc_wA ?_; intro _ _ h91 e91
  refine pc_wA ?_; intro _ _ h93 e93
  have H93 : h93 160 39 ≤ 1500 := by rw [e93, up_n (by omega), e91, up_n (by omega), e89, up_n (by omega), e86, up_n (by omega), e82, up_n (by omega)]; omega
  exact pc_if (fun _ => b_170 H93) (fun _ => b_170 H93)
theorem b_25 {l1 : Int} (H : h 160 39 ≤ 1500) : Pc (qj_X13_member_25 nn l1 h) (fun u => u 160 39 ≤ 1500) := by
  unfold qj_X13_member_25
  refine pc_se ?_; intro u98 _
  refine pc_if (fun _ => ?_) (fun _ => ?_)
  · refine pc_sv b_type ?_; intro u100 e100
    exact b_75 (by omega)
  · refine pc_xl ?_; intro h101 e101
    refine pc_xl ?_; intro h102 e102
    refine pc_xl ?_; intro h104 e104
    refine pc_xl ?_; intro v106 _
    refine pc_xl ?_; intro h107 e107
    exact b_75 (by rw [e107, up_n (by omega), e104, up_n (by omega), e102, up_n (by omega), e101, up_n (by omega)]; exact H)
theorem b_mem (H : h 160 39 ≤ 1500) : Pc (qf_X13_member nn h) (fun u => u 160 39 ≤ 1500) := by
  unfold qf_X13_member
  refine pc_se ?_; intro u111 _
  refine pc_if (fun _ => b_25 H) (fun _ => ?_)
  refine pc_xl ?_; intro v113 _
  refine pc_xl ?_; intro h114 e114
  exact b_25 (by rw [e114, up_n (by omega)]; exact H)
theorem b_143 {qk : ms_M → Option ms_M} (Hk : ∀ z : ms_M, z 160 39 ≤ 1500 → Pc (qk z) (fun u => u 160 39 ≤ 1500)) (H : h 160 39 ≤ 1500) : Pc (qj_X13_program_143 nn qk h) (fun u => u 160 39 ≤ 1500) := by
  unfold qj_X13_program_143
  refine pc_sv b_sign ?_; intro u2 e2
  refine pc_if (fun _ => pc_ret (by omega)) (fun _ => ?_)
  refine pc_rA ?_; intro _ _ v6 _
  exact pc_if (fun _ => Hk u2 (by omega)) (fun _ => pc_ret (by omega))
theorem b_116 {qk : ms_M → Option ms_M} (Hk : ∀ z : ms_M, z 160 39 ≤ 1500 → Pc (qk z) (fun u => u 160 39 ≤ 1500)) : ∀ (f : Nat) (h : ms_M), h 160 39 ≤ 1500 → Pc (qw_X13_program_116 nn qk f h) (fun u => u 160 39 ≤ 1500) := by
  intro f
  induction f with
  | zero => intros; exact pc_none
  | succ f ih =>
    intro h H
    unfold qw_X13_program_116
    refine pc_if (fun _ => b_143 Hk H) (fun _ => ?_)
    refine pc_se ?_; intro u12 _
    refine pc_if (fun _ => b_143 Hk H) (fun _ => ?_)
    refine pc_sv (b_mem H) ?_; intro u14 e14
    exact ih u14 e14
theorem b_72 {qk : ms_M → Option ms_M} {l1 l2 : Int} (Hk : ∀ z : ms_M, z 160 39 ≤ 1500 → Pc (qk z) (fun u => u 160 39 ≤ 1500)) (H : h 160 39 ≤ 1500) : Pc (qj_X13_program_72 nn qk l1 l2 h) (fun u => u 160 39 ≤ 1500) := by
  unfold qj_X13_program_72
  refine pc_if (fun _ => ?_) (fun _ => pc_ret H)
  refine pc_wA ?_; intro _ _ h20 e20
  refine pc_wA ?_; intro _ _ h23 e23
  refine pc_xl ?_; intro v25 _
  refine pc_xl ?_; intro h26 e26
  have H26 : h26 160 39 ≤ 1500 := by rw [e26, up_n (by omega), e23, up_n (by omega), e20, up_n (by omega)]; exact H
  refine pc_sv b_sign ?_; intro u28 e28
  exact b_116 Hk nn u28 (by omega)
theorem b_p25 : ∀ (f : Nat) (h : ms_M), h 160 39 ≤ 1500 → Pc (qw_X13_program_25 nn f h) (fun u => u 160 39 ≤ 1500) := by
  intro f
  induction f with
  | zero => intros; exact pc_none
  | succ f ih =>
    intro h H
    unfold qw_X13_program_25
    refine pc_sv b_word ?_; intro u31 e31
    refine pc_sv b_name ?_; intro u33 e33
    refine pc_if (fun _ => b_72 (fun z y => ih z y) (by omega)) (fun _ => ?_)
    refine pc_se ?_; intro u37 _
    refine pc_if (fun _ => b_72 (fun z y => ih z y) (by omega)) (fun _ => ?_)
    refine pc_xl ?_; intro v39 _
    refine pc_xl ?_; intro h40 e40
    have H40 : h40 160 39 ≤ 1500 := by rw [e40, up_n (by omega)]; omega
    refine pc_sv b_name ?_; intro u42 e42
    exact b_72 (fun z y => ih z y) (by omega)
/-- the reference has at most 1500 parameters -/
theorem b_pgm : Pc (qf_X13_program nn h) (fun u => u 160 39 ≤ 1500) := by
  unfold qf_X13_program
  refine pc_xl ?_; intro h45 e45
  refine pc_xl ?_; intro h46 e46
  refine pc_xl ?_; intro h47 e47
  refine pc_xl ?_; intro h48 e48
  refine pc_xl ?_; intro h49 e49
  exact b_p25 nn h49 (by rw [e49, up_n (by omega), e48, up_n (by omega), e47, up_s]; decide)
/- behind a FAULT both give -1 -/
theorem c_F175 {x y : Nat} (hf : ¬ h 2 11 = 0) : Pc (qj_X12_compile_175 nn h x y) (fun A => A.1 = -1 ∧ FSc h A.2.1) := by
  unfold qj_X12_compile_175 qf_X0_closeProgram
  refine pc_sv (P := fun u => u = h) ?_ ?_
  · refine pc_if (fun _ => pc_ret rfl) (fun _ => ?_)
    exact pc_sv (c_tell2 hf) (fun a e => pc_ret e)
  · intro u3 e3
    rw [e3]
    exact pc_if (fun _ => pc_ret ⟨rfl, fs_r⟩) (fun z => absurd hf z)
theorem c_F93 (hf : ¬ h 2 11 = 0) : ∀ (f : Nat) (l2 : Int) (x y : Nat), Pc (qw_X12_compile_93 nn f l2 h x y) (fun A => A.1 = -1 ∧ FSc h A.2.1) := by
  intro f l2 x y
  cases f with
  | zero => exact pc_none
  | succ f =>
    unfold qw_X12_compile_93
    refine pc_if (fun _ => c_F175 hf) (fun _ => ?_)
    exact pc_if (fun _ => c_F175 hf) (fun z => absurd hf z)
theorem c_Ftail (hf : ¬ h 2 11 = 0) : Pc (mx_sv (qf_X2_nameKinds nn h) fun u56 => mx_sv (qf_X0_beginProgram nn u56) fun u59 => qw_X12_compile_93 nn nn 0 u59 0 0) (fun A => A.1 = -1 ∧ FSc h A.2.1) := by
  refine pc_sv (fs_qf_X2_nameKinds hf) ?_; intro u56 F56
  refine pc_sv (P := fun a => FSc u56 a) ?_ ?_
  · unfold qf_X0_beginProgram
    refine pc_xl ?_; intro h1 e1
    exact pc_ret (by rw [e1]; exact fs_u fs_r (by omega))
  · intro u59 F59
    have n9 : ¬ u59 2 11 = 0 := fs_n (fs_n hf F56) F59
    exact pc_imp (c_F93 n9 nn 0 0 0) (fun A z => ⟨z.1, fs_t (fs_t F56 F59) z.2⟩)
theorem r_F110 (hf : ¬ r 160 9 = 0) : ∀ (f : Nat) (l : Int), Pc (qw_X13_compile_110 nn f l r) (fun B => B.1 = -1 ∧ B.2 = r) := by
  intro f l
  have G : Pc (qj_X13_compile_136 nn r) (fun B => B.1 = -1 ∧ B.2 = r) := by
    unfold qj_X13_compile_136
    exact pc_if (fun z => absurd z hf) (fun _ => pc_ret ⟨rfl, rfl⟩)
  cases f with
  | zero => exact pc_none
  | succ f =>
    unfold qw_X13_compile_110
    refine pc_if (fun _ => G) (fun _ => ?_)
    exact pc_if (fun _ => G) (fun z => absurd hf z)
theorem r_F97 (hf : ¬ r 160 9 = 0) : Pc (qj_X13_compile_97 nn r) (fun B => B.1 = -1 ∧ B.2 = r) := by
  unfold qj_X13_compile_97
  exact pc_if (fun _ => r_F110 hf nn 0) (fun z => absurd hf z)
theorem r_F86 (hf : ¬ r 160 9 = 0) : Pc (qj_X13_compile_86 nn r) (fun B => B.1 = -1 ∧ B.2 = r) := by
  unfold qj_X13_compile_86
  exact pc_if (fun _ => r_F97 hf) (fun z => absurd hf z)
/-- forget of the class's heads -/
theorem c_forget (hn : 100001 ≤ nn) (hc : 256 ≤ cn_M h) : Pc (qf_X2_forget nn h) (fun u => (u 11 2 = 0 ∧ (∀ k : Nat, k < 8 → u 17 k = 0 ∧ u 21 k = 0) ∧ (∀ j : Nat, j < 16 → u 13 j = bi_A j)) ∧ ∀ cc y : Nat, ¬ (cc = 11 ∧ y = 2) → ¬ cc = 13 → ¬ cc = 14 → ¬ cc = 17 → ¬ cc = 21 → u cc y = h cc y) := by
  unfold qf_X2_forget
  refine pc_xl ?_; intro h1 e1
  have c1 : 256 ≤ cn_M h1 := by unfold cn_M at hc ⊢; rw [e1, up_n (by omega)]; exact hc
  obtain ⟨h2, q2, f2, g2⟩ := fill_ok (nn := nn) (c := 17) (v := 0) (h := h1) (by decide) rfl (by decide) hn (by omega)
  refine pc_sv (P := fun a => a = h2) (fun a ea => by rw [q2] at ea; exact (Option.some.inj ea).symm) ?_; intro a ea
  rw [ea]
  have c2 : 256 ≤ cn_M h2 := by unfold cn_M at c1 ⊢; rw [f2 900000 0 (by decide)]; exact c1
  obtain ⟨h3, q3, f3, g3⟩ := fill_ok (nn := nn) (c := 21) (v := 0) (h := h2) (by decide) rfl (by decide) hn (by omega)
  refine pc_sv (P := fun a => a = h3) (fun a ea => by rw [q3] at ea; exact (Option.some.inj ea).symm) ?_; intro b eb
  rw [eb]
  have c3 : 256 ≤ cn_M h3 := by unfold cn_M at c2 ⊢; rw [f3 900000 0 (by decide)]; exact c2
  obtain ⟨h4, q4, f4, g4, _⟩ := kforget_ok (nn := nn) hn (l0 := 12) (.inl rfl) (h := h3) c3
  refine pc_sv (P := fun a => a = h4) (fun a ea => by rw [q4] at ea; exact (Option.some.inj ea).symm) ?_; intro d ed
  refine pc_ret ?_
  rw [ed]
  refine ⟨⟨?_, fun k hk => ⟨?_, ?_⟩, fun j hj => g4 j hj⟩, fun cc y z1 z2 z3 z4 z5 => ?_⟩
  · rw [f4 11 2 (by decide) (by decide), f3 11 2 (by decide), f2 11 2 (by decide), e1, up_s]
  · rw [f4 17 k (by decide) (by decide), f3 17 k (by decide)]; exact g2 k (by show k < 8; exact hk)
  · rw [f4 21 k (by decide) (by decide)]; exact g3 k (by show k < 8; exact hk)
  · rw [f4 cc y (by omega) (by omega), f3 cc y (by omega), f2 cc y (by omega), e1, up_n z1]
/-- the reference copies the tape -/
theorem r_43 {A : Nat → Int} {m : Nat} (m3 : m ≤ 3000) {Q : Int × ms_M → Prop} (HA : ∀ i : Nat, i < m → (0 ≤ A i ∧ A i ≤ 255) ∧ r0 161 i = A i) (Z : ∀ b : ms_M, TXr b A m → (∀ cc y : Nat, ¬ cc = 162 → ¬ (cc = 160 ∧ y = 3) → b cc y = r0 cc y) → VS_ b → Pc (mx_sv (qf_X13_tokenize nn b) fun u42 => if ¬ (u42 160 9) = 0 then (qj_X13_compile_86 nn u42) else (mx_sv (qf_X13_program nn u42) fun u45 => qj_X13_compile_86 nn u45)) Q) : ∀ (f i : Nat) (r : ms_M), i ≤ m → (∀ cc y : Nat, ¬ cc = 162 → r cc y = r0 cc y) → (∀ j : Nat, j < i → r 162 j = A j) → VS_ r → Pc (qw_X13_compile_43 nn f (m : Int) (i : Int) r) Q := by
  intro f
  induction f with
  | zero => intros; exact pc_none
  | succ f ih =>
    intro i r hi Ar T V
    unfold qw_X13_compile_43
    refine pc_if (fun z => ?_) (fun z => ?_)
    · refine pc_xl ?_; intro h40 e40
      refine Z h40 ⟨m3, by rw [e40, up_s], fun j hj => ⟨(HA j hj).1, by rw [e40, up_n (by omega)]; exact T j (by omega)⟩⟩ (fun cc y z1 z2 => by rw [e40, up_n z2]; exact Ar cc y z1) (by rw [e40]; exact wF_160_3 V (by omega))
    · refine pc_rA ?_; intro _ _ v49 e49
      rw [Int.toNat_natCast, Ar 161 i (by omega), (HA i (by omega)).2] at e49
      refine pc_wA ?_; intro _ _ h50 e50
      rw [Int.toNat_natCast] at e50
      refine pc_add (by omega) ?_; intro v51 e51
      rw [show v51 = ((i + 1 : Nat) : Int) by omega]
      refine ih (i + 1) h50 (by omega) (fun cc y z => by rw [e50, up_n (by omega)]; exact Ar cc y z) (fun j hj => ?_) (by rw [e50, e49]; exact wA_162 V (HA i (by omega)).1)
      by_cases ji : j = i
      · rw [ji, e50, up_s]; exact e49
      · rw [e50, up_n (by omega)]; exact T j (by omega)
/-- COMPILE of both sides: the same FAULT, or what heads leave -/
theorem j_front (hn : 100001 ≤ nn) (hn6 : 1000000 ≤ nn) (VR : VS_ r) (WR : ∀ t : Nat, (t : Int) < 3002 → r 164 t + r 165 t ≤ 3000) (hc : 256 ≤ cn_M h) (KB : KNB h) {m : Nat} (e1 : h 0 1 = (m : Int)) (e2 : r 160 1 = (m : Int)) (m6 : m ≤ 6000) (HA : ∀ i : Nat, i < m → (-128 ≤ h 1 i ∧ h 1 i ≤ 127) ∧ r 161 i = h 1 i % 256) {Z : Int × ms_M × Nat × Nat → Int × ms_M → Prop} (HF : ∀ A B, A.1 = -1 → B.1 = -1 → SFj A.2.1 B.2 → Z A B) (HB : ∀ (a b u0 v0 v1 : ms_M) (n mt : Nat) (q q2 : Int) (T : Nat → Int), m ≤ 3000 → TKFn T m u0 v0 → PO_ v0 ∧ VS_ v0 → (∀ i : Nat, i < 3000 → 0 ≤ v0 162 i ∧ v0 162 i ≤ 255) → v1 160 88 = r 160 88 → (0 ≤ v1 160 22 ∧ v1 160 22 ≤ 3001 ∧ v1 160 39 ≤ 1500) → (1 ≤ n ∧ 0 ≤ q2 ∧ q2.toNat < (u0 2 3).toNat) → PGM (kn_T u0) v1 (v1 160 39) n 0 0 (v1 160 28) 0 q2 0 (v1 160 22) → HDS (kn_T u0) (u0 4) (u0 5) (fun k => (v1 178 k).toNat) (u0 2 3).toNat n (u0 2 9).toNat mt q a b → a 2 11 = 0 → b 160 9 = 0 → (∀ cc y : Nat, cc = 5 ∨ cc = 6 ∨ cc = 7 ∨ cc = 8 ∨ cc = 9 ∨ (cc = 2 ∧ y = 9) → a cc y = u0 cc y) → (∀ cc y : Nat, (162 ≤ cc ∧ cc ≤ 166) → b cc y = v0 cc y) → (∀ cc y : Nat, ¬ (cc = 160 ∧ (y = 9 ∨ y = 10)) → ¬ cc = 180 → ¬ cc = 187 → ¬ cc = 195 → b cc y = v1 cc y) → Pc (mx_sv (qf_X2_nameKinds nn a) fun u56 => mx_sv (qf_X0_beginProgram nn u56) fun u59 => qw_X12_compile_93 nn nn 0 u59 0 0) (fun A => Pc (qj_X13_compile_97 nn b) (fun B => Z A B))) : Pc (qf_X12_compile nn h) (fun A => Pc (qf_X13_compile nn r) (fun B => Z A B)) := by
  unfold qf_X12_compile qf_X13_compile
  rw [e1, e2]
  refine pc_xl ?_; intro h34 e34
  refine pc_fl ?_
  refine pc_xl ?_; intro r54 f54
  refine pc_xl ?_; intro r55 f55
  refine pc_xl ?_; intro r56 f56
  have A56 : ∀ cc y : Nat, ¬ (cc = 160 ∧ (y = 1 ∨ y = 9 ∨ y = 10)) → r56 cc y = r cc y := fun cc y z => by rw [f56, up_n (by omega), f55, up_n (by omega), f54, up_n (by omega)]
  have z9 : r56 160 9 = 0 := by rw [f56, up_n (by omega), f55, up_s]
  have V56 : VS_ r56 := by rw [f56, f55, f54]; exact wF_160_10 (wF_160_9 (wF_160_1 VR (by omega)) (by omega)) (by omega)
  have A34 : ∀ cc y : Nat, ¬ (cc = 0 ∧ y = 1) → h34 cc y = h cc y := fun cc y z => by rw [e34, up_n z]
  refine pc_if (fun m3 => ?_) (fun m3 => ?_)
  · refine pc_fl ?_
    refine pc_if (fun _ => ?_) (fun y => absurd m3 y)
    have K34 : KNB h34 := ⟨⟨fun i hi => by rw [A34 7 i (by omega)]; exact KB.1.1 i hi, fun k hk => by rw [A34 6 k (by omega)]; exact KB.1.2 k hk⟩, fun i hi => by rw [A34 8 i (by omega)]; exact KB.2.1 i hi, fun b hb => by rw [A34 10 b (by omega)]; exact KB.2.2 b hb⟩
    have Tc : TXc h34 (fun i => h 1 i % 256) m := ⟨by omega, fun i hi => by rw [A34 1 i (by omega)]; exact ⟨(HA i hi).1, rfl⟩⟩
    -- the reference copies, then both read tokens
    refine pc_fl ?_
    refine r_43 (A := fun i => h 1 i % 256) (m := m) (r0 := r56) (by omega) (fun i hi => ⟨by show 0 ≤ h 1 i % 256 ∧ h 1 i % 256 ≤ 255; omega, by rw [A56 161 i (by omega)]; exact (HA i hi).2⟩) (fun b Tb Ab Vb => ?_) nn 0 r56 (by omega) (fun _ _ _ => rfl) (fun j hj => absurd hj (by omega)) V56
    have b9 : b 160 9 = 0 := by rw [Ab 160 9 (by omega) (by omega)]; exact z9
    refine pc_fl ?_
    refine pc_se ?_; intro u0 eu0
    obtain ⟨⟨p1, p2, p3⟩, TK⟩ := tk_scan (nn := nn) K34 Tc Tb u0 eu0
    refine pc_fl ?_
    refine pc_se ?_; intro v0 ev0
    have TF := TK v0 ev0
    have PV : (PO_ v0 ∧ VS_ v0) ∧ ∀ i : Nat, i < 3000 → 0 ≤ v0 162 i ∧ v0 162 i ≤ 255 := by
      obtain ⟨x, ex, T⟩ := tz_ok hn6 Vb (fun t ht => by rw [Ab 164 t (by omega) (by omega), Ab 165 t (by omega) (by omega), A56 164 t (by omega), A56 165 t (by omega)]; exact WR t ht)
      rw [ev0] at ex
      rw [Option.some.inj ex]; exact ⟨⟨T.2.2, T.1⟩, fun i hi => gA_162 T.1 i (by omega)⟩
    have v09 : v0 160 9 = 0 := by rw [show v0 160 9 = b 160 9 from ff_X13_tokenize nn v0 ev0 160 9 rfl]; exact b9
    refine pc_if (fun y => absurd v09 y) (fun _ => ?_)
    refine pc_fl ?_
    -- forget
    have c0 : 256 ≤ cn_M u0 := by
      unfold cn_M at hc ⊢
      rw [show u0 900000 0 = h34 900000 0 from ff_X9_scan nn u0 eu0 900000 0 rfl, A34 900000 0 (by omega)]; exact hc
    refine pc_sv (c_forget hn c0) ?_; intro u41 q41
    obtain ⟨⟨o1, o2, o3⟩, F41⟩ := q41
    obtain ⟨BK, B, D, GP⟩ := tkf_b TF
    obtain ⟨NM, VL, VN⟩ := nmr_of TF
    have B41 := tbc_k B (fun cc y z => F41 cc y (by omega) (by omega) (by omega) (by omega) (by omega))
    -- parse
    refine p2_se (R := fun u v => ∃ r0 : ms_M, (r0 160 22 = 0 ∧ r0 160 28 = 0 ∧ r0 160 39 = 0 ∧ ∀ c x : Nat, ¬ c = 160 → r0 c x = v0 c x) ∧ JPg (kn_T u0) (u0 4) (u0 2 3).toNat 0 0 u41 r0 u v) (j_pgm BK GP B41 D (by rw [F41 2 10 (by omega) (by omega) (by omega) (by omega) (by omega)]; exact p1) (by rw [F41 2 11 (by omega) (by omega) (by omega) (by omega) (by omega)]; exact p2) v09 o1) ?_
    intro u44 v45 eu44 ev45 J
    obtain ⟨r0, ⟨s22, s28, s39, _⟩, J⟩ := J
    have Fv : ∀ cc y : Nat, (162 ≤ cc ∧ cc ≤ 166) → v45 cc y = v0 cc y := fun cc y z => by
      have k := ff_X13_program nn v45 ev45 cc y
      rcases (show cc = 162 ∨ cc = 163 ∨ cc = 164 ∨ cc = 165 ∨ cc = 166 by omega) with e | e | e | e | e
      · rw [e] at k ⊢; exact k (nw_ar rfl y)
      · rw [e] at k ⊢; exact k (nw_ar rfl y)
      · rw [e] at k ⊢; exact k (nw_ar rfl y)
      · rw [e] at k ⊢; exact k (nw_ar rfl y)
      · rw [e] at k ⊢; exact k (nw_ar rfl y)
    rcases J with s | ⟨j, pq, ⟨JP, kq, _⟩, PG, ⟨j1, e24, e11, j3⟩, e15, FU, PF⟩
    · -- a FAULT of the parse
      refine pc_sv (fs_qf_X2_readClasses s.1) ?_; intro u47 F47
      refine pc_sv (fs_qf_X2_readMembers (fs_n s.1 F47)) ?_; intro u50 F50
      have n5 := fs_n (fs_n s.1 F47) F50
      refine pc_sv (fs_qf_X2_checkOverrides n5) ?_; intro u53 F53
      refine pc_imp (c_Ftail (fs_n n5 F53)) (fun A zA => ?_)
      refine pc_imp (r_F86 (sf_r s)) (fun B zB => ?_)
      refine HF A B zA.1 zB.1 ?_
      rw [zB.2]
      exact sf_k s (fs_t (fs_t (fs_t F47 F50) F53) zA.2) ft_r
    · have eN : u0 2 9 = (((u0 2 9).toNat : Nat) : Int) := by have := TF.1.1.1.1; omega
      have NBv : 0 ≤ v45 160 22 ∧ v45 160 22 ≤ 3001 := by
        have MPv : MP v45 := mg_program v45 ev45
        have c1 : Cn v45 (v45 160 22).toNat ≤ v45 160 23 := (MPv.2.2 JP.2.2.2.2).2.2
        have c2 := cn_mono (s := v45) (v45 160 22).toNat 0
        rw [Nat.zero_add] at c2
        have c3 : Cn v45 0 = 0 := rfl
        have c4 := JP.2.2.1.2.1
        have c5 := JP.2.2.1.2.2
        have c6 := BK.2.1
        have c7 := MPv.2.1
        omega
      rw [s28, s22] at PG
      have A44 : ∀ cc y : Nat, ¬ cc = 2 → ¬ (cc = 11 ∧ y = 2) → ¬ cc = 15 → ¬ cc = 13 → ¬ cc = 14 → ¬ cc = 17 → ¬ cc = 21 → u44 cc y = u0 cc y := fun cc y z1 z2 z3 z4 z5 z6 z7 => by rw [FU cc y z1 z2 (by omega)]; exact F41 cc y z2 z4 z5 z6 z7
      have u9 : u44 2 9 = u0 2 9 := by
        rw [show u44 2 9 = u41 2 9 from ff_X8_readProgram nn u44 eu44 2 9 rfl]
        exact F41 2 9 (by omega) (by omega) (by omega) (by omega) (by omega)
      unfold qj_X13_compile_86
      refine pc_fl ?_
      refine pc_if (fun y => absurd JP.2.2.2.2 y) (fun _ => ?_)
      refine pc_fl ?_
      refine pc_imp (j_heads (nn := nn) (V := u0 5) (N := (u0 2 9).toNat) (n := j) (by omega) BK JP PG (by omega) (by omega) (by omega) (fun i hi => e15 i (by omega) (by omega)) (nmr_k NM (fun cc x z => Fv cc x (by omega))) (fun i hi ki => by rw [A44 5 i (by omega) (by omega) (by omega) (by omega) (by omega) (by omega) (by omega)]) (fun i ki => by have := VN i (tb_lt BK (by omega)) ki; omega) (by rw [u9]; exact eN) (by have a := TF.1.1.1.1; have b := TF.2.2.2.2.2.2.1.1; omega) (fun j hj => by rw [FU 13 j (by omega) (by omega) (by omega)]; exact o3 j hj) (fun k hk => by rw [FU 17 k (by omega) (by omega) (by omega), FU 21 k (by omega) (by omega) (by omega)]; exact o2 k hk) (b_pgm v45 ev45) (F := fun u53 => mx_sv (qf_X2_nameKinds nn u53) fun u56 => mx_sv (qf_X0_beginProgram nn u56) fun u59 => qw_X12_compile_93 nn nn 0 u59 0 0) (Z := fun A b => Pc (qj_X13_compile_97 nn b) (fun B => Z A B)) (fun a b s => ?_) (fun a b q mt HD af bf Fa Fb => ?_)) (fun A zA => pc_sv zA (fun b y => y))
      · refine pc_imp (c_Ftail s.1) (fun A zA => pc_imp (r_F97 (sf_r s)) (fun B zB => HF A B zA.1 zB.1 ?_))
        rw [zB.2]; exact sf_k s zA.2 ft_r
      · exact HB a b u0 v0 v45 j mt q _ _ (by omega) TF PV.1 PV.2 ((ff_X13_program nn v45 ev45 160 88 rfl).trans ((ff_X13_tokenize nn v0 ev0 160 88 rfl).trans ((Ab 160 88 (by omega) (by omega)).trans (A56 160 88 (by omega))))) ⟨NBv.1, NBv.2, b_pgm v45 ev45⟩ ⟨j1, Int.natCast_nonneg _, by rw [Int.toNat_natCast]; exact JP.2.2.1.2.2⟩ PG HD af bf (fun cc y z => by
          by_cases c2 : cc = 2
          · rw [show a cc y = u44 cc y from Fa cc y (by omega) (by omega) (by omega) (by omega) (by omega), c2, show y = 9 by omega]; exact u9
          · rw [Fa cc y (by omega) (by omega) (by omega) (by omega) (by omega)]; exact A44 cc y (by omega) (by omega) (by omega) (by omega) (by omega) (by omega) (by omega)) (fun cc y z => by rw [Fb cc y (by omega) (by omega) (by omega) (by omega)]; exact Fv cc y z) Fb
  · -- a TEXT of more than 3000 bytes
    refine pc_xl ?_; intro r57 f57
    refine pc_xl ?_; intro r58 f58
    refine pc_ret ?_
    refine pc_if (fun y => absurd y m3) (fun _ => ?_)
    refine pc_sv (P := fun a => a 2 11 = 1 ∧ a 2 12 = 3000) ?_ ?_
    · unfold qf_X9_refuse
      refine pc_xl ?_; intro g1 e1
      refine pc_xl ?_; intro g2 e2
      exact pc_ret ⟨by rw [e2, up_n (by omega), e1, up_s], by rw [e2, up_s]⟩
    · intro u62 q62
      refine pc_ret (HF _ _ rfl rfl ⟨?_, ?_, ?_⟩)
      · show ¬ u62 2 11 = 0; rw [q62.1]; decide
      · show r58 160 9 = u62 2 11; rw [f58, up_n (by omega), f57, up_s, q62.1]
      · show r58 160 10 = u62 2 12; rw [f58, up_s, q62.2]
end
end
section
/- KINDS as texts: the class -/
/-- the row of kind bytes holds L -/
def BUF (g : ms_M) (L : List Int) : Prop := (g 11 20 = (L.length : Int) ∧ L.length ≤ 128) ∧ ∀ k : Nat, k < L.length → g 31 k = L.getD k 0
/-- name x is the text L -/
def NMz (h : ms_M) (x : Int) (L : List Int) : Prop := (0 ≤ x ∧ x < h 2 9) ∧ NMt h x.toNat (L.length : Int) (fun k => L.getD k 0)
/-- the text of a kind; W: the classes' names -/
def kd_L (W : Nat → List Int) (t : Int) : List Int := if t = 301 then [73] else if t = 302 then [90] else if t = 303 then [86] else if t = 200 then [91, 73] else if t < 100 then (76 :: W t.toNat) ++ [59] else (91 :: 76 :: W (t - 100).toNat) ++ [59]
/-- the texts of k kinds, one behind the other -/
def kz_L (W : Nat → List Int) (f : Nat → Int) : Nat → List Int
  | 0 => []
  | k + 1 => kz_L W f k ++ kd_L W (f k)
/-- all but the row of kind bytes and its size -/
def AKb (g u : ms_M) : Prop := ∀ cc y : Nat, ¬ cc = 31 → ¬ (cc = 11 ∧ y = 20) → u cc y = g cc y
section
variable {nn : Nat} {K P V U : Nat → Int} {C : Nat → Nat} {c n N mt : Nat} {q : Int} {h g r w u v h0 r0 : ms_M} {L : List Int} {W : Nat → List Int}
theorem gd_a : ∀ (A B : List Int) (k : Nat), (A ++ B).getD k 0 = if k < A.length then A.getD k 0 else B.getD (k - A.length) 0 := by
  intro A
  induction A with
  | nil =>
    intro B k
    show B.getD k 0 = if k < 0 then _ else B.getD k 0
    rw [if_neg (Nat.not_lt_zero k)]
  | cons a A ih =>
    intro B k
    cases k with
    | zero =>
      show a = if 0 < A.length + 1 then a else _
      rw [if_pos (Nat.succ_pos _)]
    | succ k =>
      show (A ++ B).getD k 0 = if k + 1 < A.length + 1 then A.getD k 0 else B.getD (k + 1 - (A.length + 1)) 0
      rw [ih B k]
      by_cases z : k < A.length
      · rw [if_pos z, if_pos (Nat.succ_lt_succ z)]
      · rw [if_neg z, if_neg (fun y => z (Nat.lt_of_succ_lt_succ y)), Nat.add_sub_add_right]
theorem pc_wB {α : Type} {Q : α → Prop} {M : ms_M} {m : Int} {c : Nat} {j x : Int} {G : ms_M → Option α} (k : 0 ≤ j → j < m → ∀ z, z = up_M M c j.toNat (oq_b x) → Pc (G z) Q) : Pc (wr_B m c j x M G) Q := by
  unfold wr_B
  exact pc_if (fun y => k y.1 y.2 _ rfl) (fun _ => pc_none)
theorem akb_t (A : AKb g u) (B : AKb u v) : AKb g v := fun cc y z1 z2 => by rw [B cc y z1 z2]; exact A cc y z1 z2
theorem c_akb {x : Int} (hx : 0 ≤ x ∧ x ≤ 127) (B : BUF g L) (l8 : L.length + 1 ≤ 128) : Pc (qf_X2_addKindByte nn x g) (fun u => BUF u (L ++ [x]) ∧ AKb g u) := by
  obtain ⟨⟨b1, b2⟩, b3⟩ := B
  unfold qf_X2_addKindByte
  refine pc_if (fun z => absurd z (by omega)) (fun _ => ?_)
  refine pc_xl ?_; intro v6 e6
  rw [oq_b_id (by omega)] at e6
  refine pc_wB ?_; intro _ _ h7 e7
  rw [e6, oq_b_id (by omega), b1, Int.toNat_natCast] at e7
  have e9 : h7 11 20 = (L.length : Int) := by rw [e7, up_n (by omega)]; exact b1
  rw [e9]
  refine pc_add (by omega) ?_; intro v9 e9'
  refine pc_xl ?_; intro h10 e10
  refine pc_ret ⟨⟨⟨?_, ?_⟩, fun k hk => ?_⟩, fun cc y z1 z2 => ?_⟩
  · rw [e10, up_s, List.length_append]; show v9 = ((L.length + 1 : Nat) : Int); omega
  · rw [List.length_append]; exact l8
  · rw [List.length_append] at hk
    have hk2 : k < L.length + 1 := hk
    rw [e10, up_n (by omega), gd_a]
    by_cases z : k < L.length
    · rw [if_pos z, e7, up_n (by omega)]; exact b3 k z
    · have ek : k = L.length := by omega
      rw [if_neg z, ek, e7, up_s, Nat.sub_self]; rfl
  · rw [e10, up_n z2, e7, up_n (by omega)]
theorem c_nameLen (T : NTB g) {x : Int} (hx : 0 ≤ x ∧ x < g 2 9) {l : Int} {t : Nat → Int} (M : NMt g x.toNat l t) : Pc (qf_X9_nameLength nn x g) (fun u => u = l) := by
  have t0 := T.1
  unfold qf_X9_nameLength
  refine pc_if (fun z => absurd z (by omega)) (fun _ => ?_)
  refine pc_if (fun z => absurd z (by omega)) (fun _ => ?_)
  refine pc_add (by omega) ?_; intro v3 e3
  refine pc_rA ?_; intro _ _ v4 e4
  refine pc_rA ?_; intro _ _ v6 e6
  rw [show v3.toNat = x.toNat + 1 by omega] at e4
  have m1 := M.1
  unfold ln_T at m1
  have a := ntb_7 T x.toNat (x.toNat + 1) (by omega) (by omega)
  have b := ntb_7 T (x.toNat + 1) (g 2 9).toNat (by omega) (by omega)
  refine pc_sub (by omega) ?_; intro v7 e7
  exact pc_ret (by omega)
theorem c_copyN (T : NTB g) {x : Int} {A : List Int} (M : NMz g x A) (B : BUF g L) (l8 : L.length + A.length ≤ 128) : Pc (qf_X9_copyName nn x 31 (g 11 20) g) (fun u => (∀ k : Nat, k < L.length + A.length → u 31 k = (L ++ A).getD k 0) ∧ ∀ cc y : Nat, ¬ cc = 31 → u cc y = g cc y) := by
  obtain ⟨⟨b1, b2⟩, b3⟩ := B
  obtain ⟨m1, m2⟩ := M
  have G : ∀ k : Nat, k < L.length → g 31 k = (L ++ A).getD k 0 := fun k hk => by rw [gd_a, if_pos hk]; exact b3 k hk
  unfold qf_X9_copyName
  refine pc_sv (c_nameLen T m1 m2) ?_; intro u2 q2
  rw [b1]
  refine pc_if (fun z => absurd z (by omega)) (fun _ => ?_)
  refine pc_add (by omega) ?_; intro v3 e3
  refine pc_lS ?_; intro v4 e4
  have v128 : v4 = 128 := e4
  refine pc_if (fun z => absurd z (by omega)) (fun _ => ?_)
  refine pc_if (fun z => ?_) (fun z => ?_)
  · refine pc_ret ⟨fun k hk => G k (by omega), fun _ _ _ => rfl⟩
  · refine pc_rA ?_; intro _ _ v7 e7
    refine pc_cpS ?_; intro h8 e8
    refine pc_ret ⟨fun k hk => ?_, fun cc y z1 => by rw [e8, cp_ne z1]⟩
    rw [e8]
    show (if 31 = 31 ∧ ((L.length : Int)).toNat ≤ k ∧ k < ((L.length : Int)).toNat + u2.toNat then g 6 (v7.toNat + (k - ((L.length : Int)).toNat)) else g 31 k) = _
    rw [Int.toNat_natCast]
    by_cases z2 : k < L.length
    · rw [if_neg (by omega)]; exact G k z2
    · rw [if_pos ⟨rfl, by omega, by omega⟩, gd_a, if_neg z2, e7]
      exact m2.2 (k - L.length) (by omega)
theorem ntb_o (T : NTB g) (A : AKb g u) : NTB u := by
  have e7 : ∀ i, u 7 i = g 7 i := fun i => A 7 i (by omega) (by omega)
  have e6 : ∀ i, u 6 i = g 6 i := fun i => A 6 i (by omega) (by omega)
  have e9 : u 2 9 = g 2 9 := A 2 9 (by omega) (by omega)
  have nm : ∀ i l t, NMt u i l t → NMt g i l t := fun i l t M => ⟨by have := M.1; unfold ln_T at this ⊢; rw [← e7, ← e7]; exact this, fun k hk => by have := M.2 k hk; rw [e7, e6] at this; exact this⟩
  have bn : ∀ i, bn_T u i = bn_T g i := fun i => by unfold bn_T ln_T; rw [e7, e7, e6, e6]
  obtain ⟨t1, ⟨t2, t3⟩, t4, t5, t6⟩ := T
  refine ⟨by rw [e9, e7]; exact t1, ⟨by rw [e7]; exact t2, fun i hi => by rw [e7, e7]; exact t3 i (by omega)⟩, fun b hb => ?_, fun i hi => ?_, fun i j l t ij hj M1 M2 => t6 i j l t ij (by omega) (nm i l t M1) (nm j l t M2)⟩
  · rw [A 9 b (by omega) (by omega), e9, pv_e (γ := bn_T g) _ (fun i _ => bn i)]; exact t4 b hb
  · rw [A 8 i (by omega) (by omega), bn i, pv_e (γ := bn_T g) _ (fun j _ => bn j)]; exact t5 i (by omega)
theorem nml_o {x : Int} {A : List Int} (M : NMz g x A) (B : AKb g u) : NMz u x A := by
  refine ⟨by rw [B 2 9 (by omega) (by omega)]; exact M.1, ?_, fun k hk => ?_⟩
  · have := M.2.1; unfold ln_T at this ⊢; rw [B 7 _ (by omega) (by omega), B 7 _ (by omega) (by omega)]; exact this
  · rw [B 6 _ (by omega) (by omega), B 7 _ (by omega) (by omega)]; exact M.2.2 k hk
theorem kd_len {t : Int} (ht : VTy t ∧ ¬ t = 300) (HW : ∀ k : Nat, k < 16 → (W k).length ≤ 12) : (kd_L W t).length ≤ 15 := by
  unfold kd_L
  unfold VTy at ht
  by_cases a : t = 301
  · rw [if_pos a]; decide
  · rw [if_neg a]
    by_cases b : t = 302
    · rw [if_pos b]; decide
    · rw [if_neg b]
      by_cases d : t = 303
      · rw [if_pos d]; decide
      · rw [if_neg d]
        by_cases e : t = 200
        · rw [if_pos e]; decide
        · rw [if_neg e]
          by_cases f : t < 100
          · rw [if_pos f, List.length_append]
            have := HW t.toNat (by omega)
            show (W t.toNat).length + 1 + 1 ≤ 15
            omega
          · rw [if_neg f, List.length_append]
            have := HW (t - 100).toNat (by omega)
            show (W (t - 100).toNat).length + 1 + 1 + 1 ≤ 15
            omega
/-- one kind is added -/
theorem c_addKind (T : NTB g) {t : Int} (ht : VTy t ∧ ¬ t = 300) (HN : ∀ k : Nat, (t = (k : Int) ∨ t = 100 + (k : Int)) → k < 16 → NMz g (g 30 k) (W k)) (B : BUF g L) (l8 : L.length + (kd_L W t).length ≤ 128) : Pc (qf_X2_addKind nn t g) (fun u => BUF u (L ++ kd_L W t) ∧ AKb g u) := by
  have vt := ht.1
  unfold VTy at vt
  -- L, name, ;
  have CL : ∀ (g2 : ms_M) (L2 : List Int) (k : Nat), k < 16 → NTB g2 → NMz g2 (g2 30 k) (W k) → BUF g2 L2 → L2.length + ((W k).length + 2) ≤ 128 → Pc (qj_X2_addKind_20 nn (k : Int) g2) (fun u => BUF u (L2 ++ ((76 :: W k) ++ [59])) ∧ AKb g2 u) := by
    intro g2 L2 k hk T2 M2 B2 l2
    unfold qj_X2_addKind_20 qf_X4_isClass
    refine pc_sv (P := fun y => y = 1) ?_ ?_
    · refine pc_if (fun y => absurd y (by omega)) (fun _ => ?_)
      exact pc_if (fun y => absurd y (by omega)) (fun _ => pc_ret rfl)
    · intro u1 e1
      refine pc_if (fun _ => ?_) (fun y => absurd (fun y2 => by omega) y)
      refine pc_sv (c_akb (x := 76) (by decide) B2 (by omega)) ?_; intro u3 q3
      refine pc_rA ?_; intro _ _ v5 e5
      rw [Int.toNat_natCast, q3.2 30 k (by omega) (by omega)] at e5
      have T3 := ntb_o T2 q3.2
      have M3 : NMz u3 v5 (W k) := by rw [e5]; exact nml_o M2 q3.2
      have l3 : (L2 ++ [76]).length = L2.length + 1 := by rw [List.length_append]; rfl
      refine pc_sv (c_copyN T3 M3 q3.1 (by omega)) ?_; intro u10 q10
      have A10 : AKb u3 u10 := fun cc y z1 z2 => q10.2 cc y z1
      refine pc_sv (c_nameLen (ntb_o T3 A10) (nml_o M3 A10).1 (nml_o M3 A10).2) ?_; intro u14 q14
      have e20 : u10 11 20 = ((L2.length + 1 : Nat) : Int) := by rw [q10.2 11 20 (by omega), q3.1.1.1, l3]
      rw [e20]
      refine pc_add (by omega) ?_; intro v15 e15
      refine pc_xl ?_; intro v18 e18
      rw [if_neg (by omega)] at e18
      refine pc_xl ?_; intro h19 e19
      have l4 : (L2 ++ [76] ++ W k).length = L2.length + 1 + (W k).length := by rw [List.length_append, l3]
      have B9 : BUF h19 (L2 ++ [76] ++ W k) := by
        refine ⟨⟨by rw [e19, up_s, l4]; omega, by omega⟩, fun i hi => ?_⟩
        rw [e19, up_n (by omega)]
        exact q10.1 i (by omega)
      refine pc_sv (c_akb (x := 59) (by decide) B9 (by omega)) ?_; intro u21 q21
      refine pc_ret ⟨?_, ?_⟩
      · have e : L2 ++ ((76 :: W k) ++ [59]) = L2 ++ [76] ++ W k ++ [59] := by
          rw [List.append_assoc, List.append_assoc]; rfl
        rw [e]; exact q21.1
      · refine akb_t (akb_t (akb_t q3.2 A10) (fun cc y z1 z2 => ?_)) q21.2
        rw [e19, up_n z2]
  unfold qf_X2_addKind qf_X4_isArray
  by_cases a1 : 100 ≤ t ∧ t ≤ 200
  · refine pc_sv (P := fun y => y = 1) ?_ ?_
    · refine pc_if (fun y => absurd y (by omega)) (fun _ => ?_)
      exact pc_if (fun y => absurd y (by omega)) (fun _ => pc_ret rfl)
    · intro u31 e31
      refine pc_if (fun y => absurd y (by omega)) (fun _ => ?_)
      have K0 : 1 ≤ (kd_L W t).length := by
        unfold kd_L
        rw [if_neg (by omega), if_neg (by omega), if_neg (by omega)]
        by_cases e : t = 200
        · rw [if_pos e]; decide
        · rw [if_neg e, if_neg (by omega)]; exact Nat.succ_pos _
      refine pc_sv (c_akb (x := 91) (by decide) B (by omega)) ?_; intro u33 q33
      have l3 : (L ++ [91]).length = L.length + 1 := by rw [List.length_append]; rfl
      unfold qf_X4_elementOf
      by_cases t2 : t = 200
      · refine pc_sv (P := fun y => y = 301) ?_ ?_
        · exact pc_if (fun y => absurd t2 y) (fun _ => pc_ret rfl)
        · intro u34 e34
          rw [e34]
          unfold qj_X2_addKind_20 qf_X4_isClass
          refine pc_sv (P := fun y => y = 0) ?_ ?_
          · refine pc_if (fun y => absurd y (by decide)) (fun _ => ?_)
            exact pc_if (fun _ => pc_ret rfl) (fun y => absurd (by decide) y)
          · intro u1 e1
            refine pc_if (fun y => absurd e1 y) (fun _ => ?_)
            refine pc_if (fun y => absurd rfl y) (fun _ => ?_)
            have kl : kd_L W t = [91, 73] := by unfold kd_L; rw [if_neg (by omega), if_neg (by omega), if_neg (by omega), if_pos t2]
            rw [kl] at l8 ⊢
            refine pc_sv (c_akb (x := 73) (by decide) q33.1 (by rw [l3]; exact l8)) ?_; intro u28 q28
            refine pc_ret ⟨?_, akb_t q33.2 q28.2⟩
            have e : L ++ [91, 73] = L ++ [91] ++ [73] := by rw [List.append_assoc]; rfl
            rw [e]; exact q28.1
      · obtain ⟨k, tk⟩ : ∃ k : Nat, t = 100 + (k : Int) := ⟨(t - 100).toNat, by omega⟩
        have k16 : k < 16 := by omega
        refine pc_sv (P := fun y => y = (k : Int)) ?_ ?_
        · refine pc_if (fun _ => ?_) (fun y => absurd t2 y)
          refine pc_if (fun y => absurd y (by omega)) (fun _ => ?_)
          refine pc_if (fun y => absurd y (by omega)) (fun _ => ?_)
          refine pc_sub (by omega) ?_; intro v1 e1
          exact pc_ret (by omega)
        · intro u34 e34
          rw [e34]
          have kl : kd_L W t = 91 :: ((76 :: W k) ++ [59]) := by
            unfold kd_L
            rw [if_neg (by omega), if_neg (by omega), if_neg (by omega), if_neg (by omega), if_neg (by omega), show (t - 100).toNat = k by omega]
            all_goals rfl
          have kn : (kd_L W t).length = (W k).length + 3 := by
            rw [kl]
            show ((76 :: W k) ++ [59]).length + 1 = _
            rw [List.length_append]; rfl
          refine pc_imp (CL u33 (L ++ [91]) k k16 (ntb_o T q33.2) ?_ q33.1 (by omega)) (fun u x => ⟨?_, akb_t q33.2 x.2⟩)
          · rw [q33.2 30 k (by omega) (by omega)]; exact nml_o (HN k (.inr tk) k16) q33.2
          · have e : L ++ kd_L W t = L ++ [91] ++ ((76 :: W k) ++ [59]) := by rw [kl, List.append_assoc]; rfl
            rw [e]; exact x.1
  · refine pc_sv (P := fun y => y = 0) ?_ ?_
    · refine pc_if (fun _ => pc_ret rfl) (fun y => ?_)
      exact pc_if (fun _ => pc_ret rfl) (fun y2 => absurd ⟨by omega, by omega⟩ a1)
    · intro u31 e31
      refine pc_if (fun _ => ?_) (fun y => absurd e31 y)
      by_cases tc : t < 100
      · obtain ⟨k, tk⟩ : ∃ k : Nat, t = (k : Int) := ⟨t.toNat, by omega⟩
        have k16 : k < 16 := by omega
        have kl : kd_L W t = (76 :: W k) ++ [59] := by
          unfold kd_L
          rw [if_neg (by omega), if_neg (by omega), if_neg (by omega), if_neg (by omega), if_pos tc, show t.toNat = k by omega]
        have kn : (kd_L W t).length = (W k).length + 2 := by rw [kl, List.length_append]; rfl
        rw [kl, tk]
        exact CL g L k k16 T (HN k (.inl tk) k16) B (by omega)
      · unfold qj_X2_addKind_20 qf_X4_isClass
        refine pc_sv (P := fun y => y = 0) ?_ ?_
        · refine pc_if (fun _ => pc_ret rfl) (fun _ => ?_)
          exact pc_if (fun _ => pc_ret rfl) (fun y => absurd (by omega) y)
        · intro u1 e1
          refine pc_if (fun y => absurd e1 y) (fun _ => ?_)
          refine pc_if (fun y1 => ?_) (fun y1 => ?_)
          · refine pc_if (fun y2 => ?_) (fun y2 => ?_)
            · have t3 : t = 303 := by omega
              have kl : kd_L W t = [86] := by unfold kd_L; rw [if_neg y1, if_neg y2, if_pos t3]
              rw [kl] at l8 ⊢
              refine pc_sv (c_akb (x := 86) (by decide) B l8) ?_; intro u23 q23
              exact pc_ret q23
            · have t3 : t = 302 := Classical.byContradiction y2
              have kl : kd_L W t = [90] := by unfold kd_L; rw [if_neg y1, if_pos t3]
              rw [kl] at l8 ⊢
              refine pc_sv (c_akb (x := 90) (by decide) B l8) ?_; intro u25 q25
              exact pc_ret q25
          · have t3 : t = 301 := Classical.byContradiction y1
            have kl : kd_L W t = [73] := by unfold kd_L; rw [if_pos t3]
            rw [kl] at l8 ⊢
            refine pc_sv (c_akb (x := 73) (by decide) B l8) ?_; intro u28 q28
            exact pc_ret q28
end
end
section
/- KINDS as texts: how long they are, by the TEXT -/
def WRD (k : Int) : Prop := k = 2 ∨ k = 3 ∨ (10 ≤ k ∧ k ≤ 31)
/-- tokens and their widths -/
def WPo (K P D : Nat → Int) (c : Nat) : Prop := ∀ i : Nat, i + 1 < c → 1 ≤ D i ∧ P i + D i ≤ P (i + 1) ∧ (WRD (K i) → WRD (K (i + 1)) → P i + D i + 1 ≤ P (i + 1))
/-- the text of a method's kind -/
def mk_L (W : Nat → List Int) (h : ms_M) (x : Nat) : List Int := ((40 :: kz_L W (fun i => h 29 (6 * x + i)) (h 27 x).toNat) ++ [41]) ++ kd_L W (h 24 x)
def su_T (f : Nat → Nat) : Nat → Nat
  | 0 => 0
  | m + 1 => su_T f m + f m
/-- letters of the fields' kinds, of the methods' kinds, as far as member m -/
def fl_T (W : Nat → List Int) (h r : ms_M) (m x : Nat) : Nat := if x % 12 < mcn_T r ((x / 12 : Nat) : Int) 0 m then (kd_L W (h 19 x)).length else 0
def ml_T (W : Nat → List Int) (h r : ms_M) (m x : Nat) : Nat := if x % 12 < mcn_T r ((x / 12 : Nat) : Int) 1 m then (mk_L W h x).length else 0
/-- letters of the own classes' rows -/
def al_T (W : Nat → List Int) (k : Nat) : Nat := (W (8 + k)).length + 3
section
variable {nn : Nat} {K P V U D : Nat → Int} {C : Nat → Nat} {c n N mt : Nat} {q : Int} {h g r w u v h0 r0 : ms_M} {L : List Int} {W : Nat → List Int}
theorem su_e {f g : Nat → Nat} : ∀ m : Nat, (∀ i, i < m → f i = g i) → su_T f m = su_T g m := by
  intro m
  induction m with
  | zero => intro _; rfl
  | succ m ih =>
    intro A
    show su_T f m + f m = su_T g m + g m
    rw [ih (fun i hi => A i (by omega)), A m (by omega)]
theorem su_u {f g : Nat → Nat} {x d : Nat} (ex : g x = f x + d) (A : ∀ i, ¬ i = x → g i = f i) : ∀ m : Nat, x < m → su_T g m = su_T f m + d := by
  intro m
  induction m with
  | zero => intro y; omega
  | succ m ih =>
    intro y
    show su_T g m + g m = su_T f m + f m + d
    by_cases z : x = m
    · rw [su_e m (fun i hi => A i (by omega)), ← z, ex]; omega
    · rw [ih (by omega), A m (by omega)]; omega
theorem su_m {f : Nat → Nat} : ∀ (d m : Nat), su_T f m ≤ su_T f (m + d) := by
  intro d
  induction d with
  | zero => intro m; exact Nat.le_refl _
  | succ d ih => intro m; have := ih m; show _ ≤ su_T f (m + d) + f (m + d); omega
/-- places grow -/
theorem wp_1 (WP : WPo K P D c) : ∀ (d i : Nat), i + d < c → P i + d ≤ P (i + d) := by
  intro d
  induction d with
  | zero => intro i _; exact Int.le_of_eq (by rw [Nat.add_zero]; exact Int.add_zero _)
  | succ d ih =>
    intro i hi
    have a := ih i (by omega)
    have b := WP (i + d) (by omega)
    rw [show i + (d + 1) = i + d + 1 by omega]
    omega
theorem wp_2 (WP : WPo K P D c) {i j : Nat} (ij : i ≤ j) (hj : j < c) : P i + ((j : Int) - i) ≤ P j := by
  have a := wp_1 WP (j - i) i (by omega)
  rw [show i + (j - i) = j by omega] at a
  omega
/-- a type and the name behind it are at least as long as the kind -/
theorem a_ty (BK : TBn K c) (WP : WPo K P D c) (HL : ∀ i : Nat, K i = 2 → ∀ cl : Int, CLz (fun k => V (C k)) n (V i) cl → ¬ cl = -1 → ((W cl.toNat).length : Int) = D i ∧ 0 ≤ cl ∧ cl < 16) {p t bs rw ty : Int} (hp : 0 ≤ p) (T : TYk K p t bs rw) (kt : K t.toNat = 2) (S : TYS V C n p bs rw ty) : ((kd_L W ty).length : Int) ≤ P (t + 1).toNat - P p.toNat ∨ ¬ (t + 1).toNat < c := by
  by_cases lc : (t + 1).toNat < c
  · refine .inl ?_
    have tb := tyk_b T
    have w0 := WP p.toNat (by omega)
    have wt := WP t.toNat (by omega)
    rw [show t.toNat + 1 = (t + 1).toNat by omega] at wt
    rw [show p.toNat + 1 = (p + 1).toNat by omega] at w0
    rcases S with ⟨s1, s2⟩ | ⟨s1, s2, s3⟩ | ⟨s1, s2, s3⟩ | ⟨s1, s2⟩ | ⟨s1, cl, s2, s3, s4⟩
    · have kl : (kd_L W ty).length = 1 := by unfold kd_L; rw [if_neg (by omega), if_pos s2]; rfl
      have m := wp_2 WP (i := p.toNat) (j := t.toNat) (by omega) (by omega)
      omega
    · have kl : (kd_L W ty).length = 1 := by unfold kd_L; rw [if_pos s3]; rfl
      have m := wp_2 WP (i := p.toNat) (j := t.toNat) (by omega) (by omega)
      omega
    · have kl : (kd_L W ty).length = 2 := by unfold kd_L; rw [if_neg (by omega), if_neg (by omega), if_neg (by omega), if_pos s3]; rfl
      have m := wp_2 WP (i := p.toNat) (j := t.toNat) (by omega) (by omega)
      omega
    · omega
    · have k2 : K p.toNat = 2 := by have := tb.1; omega
      obtain ⟨l1, l2, l3⟩ := HL p.toNat k2 cl s2 s3
      rcases s4 with ⟨r1, r2⟩ | ⟨r1, r2⟩
      · have kl : (kd_L W ty).length = (W cl.toNat).length + 2 := by
          unfold kd_L
          rw [if_neg (by omega), if_neg (by omega), if_neg (by omega), if_neg (by omega), if_pos (by omega), List.length_append, r2]; rfl
        have t1 : t = p + 1 := by
          unfold TYk at T
          omega
        have e9 : P (t + 1).toNat = P (p + 1 + 1).toNat := by rw [t1]
        rw [t1] at kt wt
        have w1 := w0.2.2 (.inl k2) (.inl kt)
        omega
      · have kl : (kd_L W ty).length = (W cl.toNat).length + 3 := by
          unfold kd_L
          rw [if_neg (by omega), if_neg (by omega), if_neg (by omega), if_neg (by omega), if_neg (by omega), List.length_append, r2, show (100 + cl - 100).toNat = cl.toNat by omega]; rfl
        have t1 : t = p + 3 := by
          unfold TYk at T
          omega
        have m := wp_2 WP (i := (p + 1).toNat) (j := t.toNat) (by omega) (by omega)
        omega
  · exact .inr lc
theorem a_prl (BK : TBn K c) (WP : WPo K P D c) (HL : ∀ i : Nat, K i = 2 → ∀ cl : Int, CLz (fun k => V (C k)) n (V i) cl → ¬ cl = -1 → ((W cl.toNat).length : Int) = D i ∧ 0 ≤ cl ∧ cl < 16) {xe : Int} (xc : xe.toNat < c) {b : Nat} {f : Nat → Int} : ∀ (d i : Nat) (p : Int), 0 ≤ p → PRL K r d ((b + i : Nat) : Int) p xe → (∀ j : Nat, i ≤ j → j < i + d → TYS V C n (r 192 (b + j)) (r 191 (b + j)) (r 193 (b + j)) (f j)) → ((kz_L W f (i + d)).length : Int) ≤ (kz_L W f i).length + (P xe.toNat - P p.toNat) := by
  intro d
  induction d with
  | zero =>
    intro i p hp H _
    have e : xe = p := H
    rw [e, Nat.add_zero]; omega
  | succ d ih =>
    intro i p hp H A
    have pe := (prl_n (d + 1) (b + i) p hp H).1
    obtain ⟨t, bs, rw, T, R, kt, H2⟩ := H
    rw [Int.toNat_natCast] at R
    have tb := tyk_b T
    have s := A i (by omega) (by omega)
    rw [R.1, R.2.1, R.2.2.1] at s
    have k1 : (kz_L W f (i + 1)).length = (kz_L W f i).length + (kd_L W (f i)).length := by
      show (kz_L W f i ++ kd_L W (f i)).length = _
      rw [List.length_append]
    rcases H2 with ⟨d0, x1⟩ | ⟨d0, k47, H3⟩
    · rcases a_ty BK WP HL hp T kt s with a | a
      · rw [show i + (d + 1) = i + 1 by omega, k1, x1]; omega
      · exact absurd (by rw [← x1]; exact xc) a
    · have q := ih (i + 1) (t + 2) (by omega) (by rw [show ((b + (i + 1) : Nat) : Int) = ((b + i : Nat) : Int) + 1 by omega]; exact H3) (fun j h1 h2 => A j (by omega) (by omega))
      have pe2 := (prl_n d (b + (i + 1)) (t + 2) (by omega) (by rw [show ((b + (i + 1) : Nat) : Int) = ((b + i : Nat) : Int) + 1 by omega]; exact H3)).1
      have w1 := WP (t + 1).toNat (by omega)
      rw [show (t + 1).toNat + 1 = (t + 2).toNat by omega] at w1
      rw [show i + (d + 1) = i + 1 + d by omega]
      rcases a_ty BK WP HL hp T kt s with a | a
      · omega
      · exact absurd (tb_lt BK (by omega)) a
/-- the letters of one member's kind, and where its text ends -/
theorem a_mem (BK : TBn K c) (WP : WPo K P D c) (HL : ∀ i : Nat, K i = 2 → ∀ cl : Int, CLz (fun k => V (C k)) n (V i) cl → ¬ cl = -1 → ((W cl.toNat).length : Int) = D i ∧ 0 ≤ cl ∧ cl < 16) (M : MTB V C n mt q h r) {m k : Nat} {p p2 a b : Int} (hm : m < mt) (hk : k < 8) (hp : 0 ≤ p) (R : RMB K r (m : Int) p p2 a b) (e181 : r 181 m = (k : Int)) (hb : 0 ≤ r 188 m) (p2c : p2.toNat < c) : p ≤ p2 ∧ ((MSm r k 0 m ∧ ((kd_L W (h 19 (12 * k + mcn_T r k 0 m))).length : Int) ≤ P p2.toNat - P p.toNat) ∨ (MSm r k 1 m ∧ ((mk_L W h (12 * k + mcn_T r k 1 m)).length : Int) ≤ P p2.toNat - P p.toNat)) := by
  obtain ⟨p1, t, bs, rw, hp1, hty, ⟨r183, r184, r185, r186, kt⟩, alt⟩ := R
  rw [Int.toNat_natCast] at r183 r184 r185 r186 alt
  -- type and name
  have TN : ∀ ty : Int, TYS V C n (r 184 m) (r 183 m) (r 185 m) ty → (t + 1).toNat < c → p1 + 1 ≤ t ∧ ((kd_L W ty).length : Int) ≤ P (t + 1).toNat - P p1.toNat := fun ty s tc => by
    rw [r183, r184, r185] at s
    rcases hty with ⟨x1, x2, x3, x4⟩ | ⟨x1, T⟩
    · have kl : (kd_L W ty).length = 1 := by
        rcases s with ⟨s1, s2⟩ | ⟨s1, s2, s3⟩ | ⟨s1, s2, s3⟩ | ⟨s1, s2⟩ | ⟨s1, _⟩
        · omega
        · omega
        · omega
        · unfold kd_L; rw [if_neg (by omega), if_neg (by omega), if_pos s2]; rfl
        · omega
      have m := wp_2 WP (i := p1.toNat) (j := (t + 1).toNat) (by omega) tc
      exact ⟨by omega, by omega⟩
    · have tb := tyk_b T
      rcases a_ty BK WP HL (by clear alt; omega) T kt s with a | a
      · exact ⟨by omega, a⟩
      · exact absurd tc a
  have p1p : p ≤ p1 ∧ p1 ≤ p + 1 := by clear alt; omega
  have pm : p1.toNat < c → P p.toNat ≤ P p1.toNat := fun z => by
    have := wp_2 WP (i := p.toNat) (j := p1.toNat) (by omega) z
    omega
  rcases alt with ⟨a1, a2, a3, a4, a5⟩ | ⟨tn, xe, a1, a2, a3, a4, a5, a6, a7⟩
  · have F : MSm r k 0 m := ⟨e181, .inr ⟨by omega, rfl⟩⟩
    have mb := M.2.1 m k hm hk F
    have tc := tb_lt BK (i := (t + 1).toNat) (by omega)
    have x := TN _ mb.2.2.2 tc
    have y := pm (by omega)
    have z := wp_2 WP (i := (t + 1).toNat) (j := p2.toNat) (by omega) p2c
    exact ⟨by omega, .inl ⟨F, by omega⟩⟩
  · have F : MSm r k 1 m := ⟨e181, .inl ⟨by omega, rfl⟩⟩
    have mb := M.2.2.1 m k hm hk F
    have tc := tb_lt BK (i := (t + 1).toNat) (by omega)
    have x := TN _ mb.2.2.2.2.2 tc
    have y := pm (by omega)
    have xc := tb_lt BK (i := xe.toNat) (by omega)
    have bz := (lk_bl a7).1.1
    obtain ⟨b0, eb⟩ : ∃ b0 : Nat, r 188 m = (b0 : Int) := ⟨(r 188 m).toNat, by omega⟩
    rw [eb] at a5
    have px := (prl_n tn b0 (t + 2) (by omega) a5).1
    have pr := a_prl (f := fun i => h 29 (6 * (12 * k + mcn_T r k 1 m) + i)) (b := b0) BK WP HL xc tn 0 (t + 2) (by omega) a5 (fun j h1 h2 => by
      have e := (mb.2.2.2.1 j (by omega)).2.2.2
      rw [eb, Int.toNat_natCast] at e
      exact e)
    rw [Nat.zero_add] at pr
    have k0 : (kz_L W (fun i => h 29 (6 * (12 * k + mcn_T r k 1 m) + i)) 0).length = 0 := rfl
    have e27 : (h 27 (12 * k + mcn_T r k 1 m)).toNat = tn := by have := mb.2.2.1.1; omega
    have ml : (mk_L W h (12 * k + mcn_T r k 1 m)).length = (kz_L W (fun i => h 29 (6 * (12 * k + mcn_T r k 1 m) + i)) tn).length + 2 + (kd_L W (h 24 (12 * k + mcn_T r k 1 m))).length := by
      unfold mk_L
      rw [List.length_append, List.length_append, e27]; rfl
    have w1 := WP (t + 1).toNat (by omega)
    rw [show (t + 1).toNat + 1 = (t + 2).toNat by omega] at w1
    have w2 := WP xe.toNat (by omega)
    rw [show xe.toNat + 1 = (xe + 1).toNat by omega] at w2
    have z := wp_2 WP (i := (xe + 1).toNat) (j := p2.toNat) (by omega) p2c
    exact ⟨by omega, .inr ⟨F, by omega⟩⟩
/-- one more member -/
theorem a_one {m k : Nat} (hk : k < 8) {s : Int} (F : MSm r k s m) (c12 : mcn_T r k s m < 12) : (s = 0 → su_T (fl_T W h r (m + 1)) 96 = su_T (fl_T W h r m) 96 + (kd_L W (h 19 (12 * k + mcn_T r k 0 m))).length ∧ su_T (ml_T W h r (m + 1)) 96 = su_T (ml_T W h r m) 96) ∧ (s = 1 → su_T (ml_T W h r (m + 1)) 96 = su_T (ml_T W h r m) 96 + (mk_L W h (12 * k + mcn_T r k 1 m)).length ∧ su_T (fl_T W h r (m + 1)) 96 = su_T (fl_T W h r m) 96) := by
  have OT : ∀ (s2 : Int) (x : Nat), ¬ (s2 = s ∧ x / 12 = k) → mcn_T r ((x / 12 : Nat) : Int) s2 (m + 1) = mcn_T r ((x / 12 : Nat) : Int) s2 m := fun s2 x z => mcn_n (fun y => z (by have := msm_u F y; omega))
  refine ⟨fun s0 => ?_, fun s1 => ?_⟩
  · subst s0
    refine ⟨su_u (x := 12 * k + mcn_T r k 0 m) ?_ (fun i hi => ?_) 96 (by omega), su_e 96 (fun i _ => ?_)⟩
    · unfold fl_T
      rw [show (12 * k + mcn_T r k 0 m) / 12 = k by omega, show (12 * k + mcn_T r k 0 m) % 12 = mcn_T r k 0 m by omega, mcn_s F, if_pos (by omega), if_neg (by omega)]
      omega
    · unfold fl_T
      by_cases z : i / 12 = k
      · rw [z, mcn_s F]
        by_cases y : i % 12 < mcn_T r k 0 m
        · rw [if_pos y, if_pos (by omega)]
        · rw [if_neg y, if_neg (by omega)]
      · rw [OT 0 i (by omega)]
    · unfold ml_T
      rw [OT 1 i (by omega)]
  · subst s1
    refine ⟨su_u (x := 12 * k + mcn_T r k 1 m) ?_ (fun i hi => ?_) 96 (by omega), su_e 96 (fun i _ => ?_)⟩
    · unfold ml_T
      rw [show (12 * k + mcn_T r k 1 m) / 12 = k by omega, show (12 * k + mcn_T r k 1 m) % 12 = mcn_T r k 1 m by omega, mcn_s F, if_pos (by omega), if_neg (by omega)]
      omega
    · unfold ml_T
      by_cases z : i / 12 = k
      · rw [z, mcn_s F]
        by_cases y : i % 12 < mcn_T r k 1 m
        · rw [if_pos y, if_pos (by omega)]
        · rw [if_neg y, if_neg (by omega)]
      · rw [OT 1 i (by omega)]
    · unfold fl_T
      rw [OT 0 i (by omega)]
theorem a_mml (BK : TBn K c) (WP : WPo K P D c) (HL : ∀ i : Nat, K i = 2 → ∀ cl : Int, CLz (fun k => V (C k)) n (V i) cl → ¬ cl = -1 → ((W cl.toNat).length : Int) = D i ∧ 0 ≤ cl ∧ cl < 16) (M : MTB V C n mt q h r) {k : Nat} {nN : Int} (hk : k < 8) {qe : Int} (qc : qe.toNat < c) : ∀ (d m : Nat) (p a b : Int), 0 ≤ p → MML K r nN d (m : Int) p qe a b → (∀ i : Nat, m ≤ i → i < m + d → r 181 i = (k : Int)) → m + d ≤ mt → p ≤ qe ∧ ((su_T (fl_T W h r (m + d)) 96 : Int) + su_T (ml_T W h r (m + d)) 96) ≤ (su_T (fl_T W h r m) 96 : Int) + su_T (ml_T W h r m) 96 + (P qe.toNat - P p.toNat) := by
  intro d
  induction d with
  | zero =>
    intro m p a b hp H _ _
    have e : qe = p := H.1
    rw [e, Nat.add_zero]; omega
  | succ d ih =>
    intro m p a b hp H A md
    have mm := mml_ab (d + 1) _ _ _ _ _ H
    obtain ⟨_, p2, a2, ⟨pp, _⟩, R, ⟨b1, b2, b3⟩, H2⟩ := H
    rw [Int.toNat_natCast] at b1 b2 b3
    have m2 := mml_ab d _ _ _ _ _ H2
    have I := ih (m + 1) p2 a2 b (by omega) (by rw [show ((m + 1 : Nat) : Int) = (m : Int) + 1 by omega]; exact H2) (fun i h1 h2 => A i (by omega) (by omega)) (by omega)
    have X := a_mem (W := W) BK WP HL M (m := m) (k := k) (by omega) hk hp R (A m (by omega) (by omega)) b1 (by omega)
    rw [show m + (d + 1) = m + 1 + d by omega]
    have c0 := M.1 k hk
    rcases X.2 with ⟨F, x⟩ | ⟨F, x⟩
    · have lt := mcn_lt (r := r) (i := m) (j := mt) (by omega) F
      have o := (a_one (W := W) (h := h) hk F (by omega)).1 rfl
      omega
    · have lt := mcn_lt (r := r) (i := m) (j := mt) (by omega) F
      have o := (a_one (W := W) (h := h) hk F (by omega)).2 rfl
      omega
theorem a_pgm (BK : TBn K c) (WP : WPo K P D c) (HL : ∀ i : Nat, K i = 2 → ∀ cl : Int, CLz (fun k => V (C k)) n (V i) cl → ¬ cl = -1 → ((W cl.toNat).length : Int) = D i ∧ 0 ≤ cl ∧ cl < 16) (M : MTB V C n mt q h r) (n8 : n ≤ 8) (H0 : HDr K P V C c n r) (OK : OKc V C U n n) {nN : Int} (GP : ∀ i : Nat, i + 1 < c → K i = 13 → K (i + 1) = 2 → P i + 6 ≤ P (i + 1)) : ∀ (j k m : Nat) (p qe a b : Int), 0 ≤ p → PGM K r nN j (k : Int) (m : Int) (mt : Int) p qe a b → k + j = n → (qe.toNat < c) → p ≤ qe ∧ (su_T (fl_T W h r mt) 96 : Int) + su_T (ml_T W h r mt) 96 + su_T (al_T W) n ≤ (su_T (fl_T W h r m) 96 : Int) + su_T (ml_T W h r m) 96 + su_T (al_T W) k + (P qe.toNat - P p.toNat) := by
  intro j
  induction j with
  | zero =>
    intro k m p qe a b hp H kj qc
    obtain ⟨e1, _, e2⟩ := H
    have em : mt = m := by omega
    have ek : k = n := by omega
    rw [e1, em, ek]; omega
  | succ j ih =>
    intro k m p qe a b hp H kj qc
    obtain ⟨n2, p2, a2, ha, CL, H2⟩ := H
    obtain ⟨⟨k1, k2, k3⟩, s, e, k4, ML, c181, k5, pe⟩ := CL
    rw [Int.toNat_natCast] at k3
    have mm := mml_ab n2 _ _ _ _ _ ML
    have I := ih (k + 1) (m + n2) p2 qe a2 b (by omega) (by rw [show ((k + 1 : Nat) : Int) = (k : Int) + 1 by omega, show ((m + n2 : Nat) : Int) = (m : Int) + n2 by omega]; exact H2) (by omega) qc
    have me := (pgm_n j (k + 1) (m + n2) (mt : Int) p2 qe a2 b (by omega) (by rw [show ((k + 1 : Nat) : Int) = (k : Int) + 1 by omega, show ((m + n2 : Nat) : Int) = (m : Int) + n2 by omega]; exact H2)).1
    have ec := tb_lt BK (i := e.toNat) (by omega)
    have X := a_mml (W := W) BK WP HL M (k := k) (by omega) ec n2 m s a a2 (by omega) ML (fun i h1 h2 => c181 i (by omega) (by omega)) (by omega)
    -- the class's own head
    have ck := (H0.2.2.2 k (by omega)).1
    have cp : C k = (p + 1).toNat := by omega
    have ok := (OK k (by omega)).1
    have hl := HL (C k) (by rw [cp]; exact k2) (8 + (k : Int)) ok (by omega)
    rw [show (8 + (k : Int)).toNat = 8 + k by omega, cp] at hl
    have g6 := GP p.toNat (by omega) k1 (by rw [show p.toNat + 1 = (p + 1).toNat by omega]; exact k2)
    rw [show p.toNat + 1 = (p + 1).toNat by omega] at g6
    have w1 := WP (p + 1).toNat (by omega)
    rw [show (p + 1).toNat + 1 = (p + 2).toNat by omega] at w1
    have z1 := wp_2 WP (i := (p + 2).toNat) (j := s.toNat) (by omega) (by omega)
    have z2 := wp_2 WP (i := e.toNat) (j := p2.toNat) (by omega) (by omega)
    have al : su_T (al_T W) (k + 1) = su_T (al_T W) k + ((W (8 + k)).length + 3) := rfl
    omega
end
end
section
/- KINDS as texts: nameKinds of the class -/
/-- all but names, kinds, and the row of kind bytes -/
def AKn (a g : ms_M) : Prop := ∀ cc y : Nat, ¬ (cc = 2 ∧ y = 9) → ¬ (6 ≤ cc ∧ cc ≤ 9) → ¬ (cc = 11 ∧ y = 20) → ¬ cc = 20 → ¬ cc = 26 → ¬ cc = 30 → ¬ cc = 31 → g cc y = a cc y
/-- the table of names behind some kinds: X letters, k names more -/
def NST (a g : ms_M) (X k : Int) : Prop := NTB g ∧ NXt a g ∧ g 2 9 ≤ 1532 + k ∧ g 7 (g 2 9).toNat ≤ 3186 + X
/-- names of classes and of their rows as far as class k -/
def NKc (W : Nat → List Int) (k : Nat) (g : ms_M) : Prop := ∀ i : Nat, i < k → NMz g (g 30 i) (W i) ∧ NMz g (g 30 (16 + i)) (kd_L W (100 + (i : Int)))
def NKf (W : Nat → List Int) (a : ms_M) (k : Nat) (g : ms_M) : Prop := ∀ i : Nat, i < k → ((i % 12 : Nat) : Int) < a 17 (i / 12) → NMz g (g 20 i) (kd_L W (a 19 i))
def NKm (W : Nat → List Int) (a : ms_M) (k : Nat) (g : ms_M) : Prop := ∀ i : Nat, i < k → ((i % 12 : Nat) : Int) < a 21 (i / 12) → NMz g (g 26 i) (mk_L W a i)
section
variable {nn : Nat} {K P V U D : Nat → Int} {C : Nat → Nat} {c n N mt : Nat} {q : Int} {h g r w u v a b : ms_M} {L : List Int} {W : Nat → List Int}
theorem nw_no {c k : Nat} (z : ¬ (6 ≤ c ∧ c ≤ 9)) (z2 : ¬ (c = 2 ∧ k = 9)) : nw_F wl_X9_nameOf wf_X9_nameOf false false c k = true := by
  simp [nw_F, wl_X9_nameOf, wf_X9_nameOf]
  omega
theorem nmz_x (T : NTB g) (X : NXt g u) {x : Int} {A : List Int} (M : NMz g x A) : NMz u x A := ⟨by have := X.1; have := M.1; omega, nmt_x T X (by have := M.1; omega) M.2⟩
/-- the bytes gathered are a name -/
theorem c_nameB (T : NTB g) (B : BUF g L) (l1 : 1 ≤ L.length) (hN : g 2 9 < 1740) (hs : g 7 (g 2 9).toNat + (L.length : Int) ≤ 6400) : Pc (qf_X9_nameOf nn 31 0 (g 11 20) g) (fun u => (NMz u.2 u.1 L ∧ NTB u.2 ∧ NXt g u.2) ∧ (u.2 2 9 ≤ g 2 9 + 1 ∧ u.2 7 (u.2 2 9).toNat ≤ g 7 (g 2 9).toNat + (L.length : Int)) ∧ ∀ cc y : Nat, ¬ (6 ≤ cc ∧ cc ≤ 9) → ¬ (cc = 2 ∧ y = 9) → u.2 cc y = g cc y) := by
  obtain ⟨⟨b1, b2⟩, b3⟩ := B
  rw [b1]
  intro u e
  obtain ⟨i, i1, i2, i3, i4, i5, i6, i7⟩ := no_c (nn := nn) T (a1 := 31) (a2 := 0) (l := (L.length : Int)) (t := fun k => L.getD k 0) hN (by decide) (by omega) hs (by show 0 + (L.length : Int) ≤ 128; omega) (fun k hk => by rw [show (0 : Int).toNat + k = k by show 0 + k = k; omega]; exact b3 k (by omega)) u e
  refine ⟨⟨⟨by omega, ?_⟩, i4, i5⟩, ⟨i6, i7⟩, fun cc y z1 z2 => ff_X9_nameOf nn u e cc y (nw_no z1 z2)⟩
  rw [i1, Int.toNat_natCast]; exact i3
/-- one step of NST -/
theorem nst_s {X k l : Int} (S : NST a g X k) (A : AKb g u) : NST a u X k := by
  obtain ⟨s1, s2, s3, s4⟩ := S
  refine ⟨ntb_o s1 A, ⟨by rw [A 2 9 (by omega) (by omega)]; exact s2.1, fun i hi => by rw [A 7 i (by omega) (by omega)]; exact s2.2.1 i hi, fun i hi => by rw [A 6 i (by omega) (by omega)]; exact s2.2.2.1 i hi, fun i hi => by rw [A 8 i (by omega) (by omega)]; exact s2.2.2.2 i hi⟩, by rw [A 2 9 (by omega) (by omega)]; exact s3, by rw [A 2 9 (by omega) (by omega), A 7 _ (by omega) (by omega)]; exact s4⟩
theorem akb_n (A : AKn a g) (B : AKb g u) : AKn a u := fun cc y z1 z2 z3 z4 z5 z6 z7 => by rw [B cc y z7 z3]; exact A cc y z1 z2 z3 z4 z5 z6 z7
/-- the name of a kind -/
theorem c_nameKind (Ta : NTB a) {X k : Int} (S : NST a g X k) (A : AKn a g) {t : Int} (ht : VTy t ∧ ¬ t = 300) (HW : ∀ k : Nat, k < 16 → (W k).length ≤ 12) (HN : ∀ k : Nat, (t = (k : Int) ∨ t = 100 + (k : Int)) → k < 16 → NMz g (g 30 k) (W k)) (kb : k < 208) (xb : X + ((kd_L W t).length : Int) ≤ 3214) : Pc (qf_X2_nameKind nn t g) (fun u => NMz u.2 u.1 (kd_L W t) ∧ NST a u.2 (X + ((kd_L W t).length : Int)) (k + 1) ∧ NXt g u.2 ∧ AKn a u.2 ∧ ∀ cc y : Nat, cc = 20 ∨ cc = 26 ∨ cc = 30 → u.2 cc y = g cc y) := by
  have kl := kd_len (W := W) ht HW
  have k1 : 1 ≤ (kd_L W t).length := by
    unfold kd_L
    by_cases a1 : t = 301
    · rw [if_pos a1]; decide
    · rw [if_neg a1]
      by_cases a2 : t = 302
      · rw [if_pos a2]; decide
      · rw [if_neg a2]
        by_cases a3 : t = 303
        · rw [if_pos a3]; decide
        · rw [if_neg a3]
          by_cases a4 : t = 200
          · rw [if_pos a4]; decide
          · rw [if_neg a4]
            by_cases a5 : t < 100
            · rw [if_pos a5]; exact Nat.succ_pos _
            · rw [if_neg a5]; exact Nat.succ_pos _
  unfold qf_X2_nameKind
  refine pc_xl ?_; intro h1 e1
  have A1 : AKb g h1 := fun cc y z1 z2 => by rw [e1, up_n z2]
  have B1 : BUF h1 [] := ⟨⟨by rw [e1, up_s]; rfl, by decide⟩, fun k hk => absurd hk (Nat.not_lt_zero _)⟩
  have S1 := nst_s (l := 0) S A1
  refine pc_sv (c_addKind S1.1 ht (fun k z1 z2 => by rw [A1 30 k (by omega) (by omega)]; exact nml_o (HN k z1 z2) A1) B1 (by show 0 + (kd_L W t).length ≤ 128; omega)) ?_; intro u3 q3
  have S3 := nst_s (l := 0) S1 q3.2
  have A3 : AKb g u3 := akb_t A1 q3.2
  refine pc_sv (c_nameB S3.1 q3.1 k1 (by have := S3.2.2.1; omega) (by have := S3.2.2.2; show _ + ((kd_L W t).length : Int) ≤ 6400; omega)) ?_; intro u8 q8
  obtain ⟨⟨q1, q2, q4⟩, ⟨q5, q6⟩, q7⟩ := q8
  have e3 : NXt g u3 := ⟨by rw [A3 2 9 (by omega) (by omega)]; exact Int.le_refl _, fun i hi => A3 7 i (by omega) (by omega), fun i hi => A3 6 i (by omega) (by omega), fun i hi => A3 8 i (by omega) (by omega)⟩
  refine pc_ret ⟨q1, ⟨q2, nx_t Ta S3.1 S3.2.1 q4, by have := S3.2.2.1; dsimp only; omega, ?_⟩, nx_t S.1 S3.1 e3 q4, fun cc y z1 z2 z3 z4 z5 z6 z7 => ?_, fun cc y z => ?_⟩
  · have x := S3.2.2.2
    have y : u8.2 7 (u8.2 2 9).toNat ≤ u3 7 (u3 2 9).toNat + ((kd_L W t).length : Int) := q6
    dsimp only
    omega
  · rw [q7 cc y z2 z1]; exact akb_n A A3 cc y z1 z2 z3 z4 z5 z6 z7
  · rw [q7 cc y (by omega) (by omega)]; exact A3 cc y (by omega) (by omega)
/-- the name of a method's kind -/
theorem c_nameMK (Ta : NTB a) {X k : Int} (S : NST a g X k) (A : AKn a g) {x : Nat} {pn : Nat} (hx : x < 96) (HM : ((x % 12 : Nat) : Int) < a 21 (x / 12)) (e27 : a 27 x = (pn : Int)) (p6 : pn ≤ 6) (hr : VTy (a 24 x) ∧ ¬ a 24 x = 300) (hp : ∀ i : Nat, i < pn → VTy (a 29 (6 * x + i)) ∧ ¬ a 29 (6 * x + i) = 300) (HW : ∀ k : Nat, k < 16 → (W k).length ≤ 12) (HN : ∀ (t : Int) (k : Nat), (t = a 24 x ∨ ∃ i : Nat, i < pn ∧ t = a 29 (6 * x + i)) → (t = (k : Int) ∨ t = 100 + (k : Int)) → k < 16 → NMz g (g 30 k) (W k)) (kb : k < 208) (xb : X + ((mk_L W a x).length : Int) ≤ 3214) : Pc (qf_X2_nameMethodKind nn (x : Int) g) (fun u => NMz u.2 u.1 (mk_L W a x) ∧ NST a u.2 (X + ((mk_L W a x).length : Int)) (k + 1) ∧ NXt g u.2 ∧ AKn a u.2 ∧ ∀ cc y : Nat, cc = 20 ∨ cc = 26 ∨ cc = 30 → u.2 cc y = g cc y) := by
  have kr := kd_len (W := W) hr HW
  have ag : ∀ cc y : Nat, cc = 21 ∨ cc = 24 ∨ cc = 27 ∨ cc = 29 → g cc y = a cc y := fun cc y z => A cc y (by omega) (by omega) (by omega) (by omega) (by omega) (by omega) (by omega)
  have kl : ∀ i : Nat, i ≤ pn → (kz_L W (fun i => a 29 (6 * x + i)) i).length ≤ 15 * i := by
    intro i
    induction i with
    | zero => intro _; exact Nat.le_refl _
    | succ i ih =>
      intro hi
      show (kz_L W (fun i => a 29 (6 * x + i)) i ++ kd_L W (a 29 (6 * x + i))).length ≤ _
      rw [List.length_append]
      have := ih (by omega)
      have := kd_len (W := W) (hp i (by omega)) HW
      omega
  have LOOP : ∀ (f i : Nat) (g2 : ms_M), i ≤ pn → NST a g2 X k → AKb g g2 → BUF g2 (40 :: kz_L W (fun i => a 29 (6 * x + i)) i) → Pc (qw_X2_nameMethodKind_13 nn f (x : Int) (i : Int) g2) (fun u => NMz u.2 u.1 (mk_L W a x) ∧ NST a u.2 (X + ((mk_L W a x).length : Int)) (k + 1) ∧ NXt g u.2 ∧ AKn a u.2 ∧ ∀ cc y : Nat, cc = 20 ∨ cc = 26 ∨ cc = 30 → u.2 cc y = g cc y) := by
    intro f
    induction f with
    | zero => intros; exact pc_none
    | succ f ih =>
      intro i g2 hi S2 A2 B2
      have a2 : ∀ cc y : Nat, cc = 21 ∨ cc = 24 ∨ cc = 27 ∨ cc = 29 → g2 cc y = a cc y := fun cc y z => by rw [A2 cc y (by omega) (by omega)]; exact ag cc y z
      unfold qw_X2_nameMethodKind_13
      refine pc_rA ?_; intro _ _ v2 e2
      rw [Int.toNat_natCast, a2 27 x (by omega), e27] at e2
      have ki := kl i hi
      refine pc_if (fun z => ?_) (fun z => ?_)
      · have ip : i = pn := by omega
        have lb : (40 :: kz_L W (fun i => a 29 (6 * x + i)) i).length = (kz_L W (fun i => a 29 (6 * x + i)) i).length + 1 := rfl
        refine pc_sv (c_akb (x := 41) (by decide) B2 (by omega)) ?_; intro u4 q4
        have l4 : ((40 :: kz_L W (fun i => a 29 (6 * x + i)) i) ++ [41]).length = (kz_L W (fun i => a 29 (6 * x + i)) i).length + 2 := by rw [List.length_append]; rfl
        refine pc_rA ?_; intro _ _ v6 e6
        rw [Int.toNat_natCast, q4.2 24 x (by omega) (by omega), a2 24 x (by omega)] at e6
        have S4 := nst_s (l := 0) S2 q4.2
        have A4 : AKb g u4 := akb_t A2 q4.2
        rw [e6]
        refine pc_sv (c_addKind S4.1 hr (fun k z1 z2 => by rw [A4 30 k (by omega) (by omega)]; exact nml_o (HN _ k (.inl rfl) z1 z2) A4) q4.1 (by omega)) ?_; intro u8 q8
        have S8 := nst_s (l := 0) S4 q8.2
        have A8 : AKb g u8 := akb_t A4 q8.2
        have em : (40 :: kz_L W (fun i => a 29 (6 * x + i)) i) ++ [41] ++ kd_L W (a 24 x) = mk_L W a x := by
          unfold mk_L
          rw [show (a 27 x).toNat = i by omega]
        rw [em] at q8
        have lm : (mk_L W a x).length = (kz_L W (fun i => a 29 (6 * x + i)) i).length + 2 + (kd_L W (a 24 x)).length := by rw [← em, List.length_append, l4]
        refine pc_sv (c_nameB S8.1 q8.1 (by omega) (by have := S8.2.2.1; omega) (by have := S8.2.2.2; omega)) ?_; intro u13 q13
        obtain ⟨⟨q1, q2, q5⟩, ⟨q6, q7⟩, q9⟩ := q13
        have e3 : NXt g u8 := ⟨by rw [A8 2 9 (by omega) (by omega)]; exact Int.le_refl _, fun i hi => A8 7 i (by omega) (by omega), fun i hi => A8 6 i (by omega) (by omega), fun i hi => A8 8 i (by omega) (by omega)⟩
        refine pc_ret ⟨q1, ⟨q2, nx_t Ta S8.1 S8.2.1 q5, by have := S8.2.2.1; dsimp only; omega, by have := S8.2.2.2; dsimp only; omega⟩, nx_t S.1 S8.1 e3 q5, fun cc y z1 z2 z3 z4 z5 z6 z7 => ?_, fun cc y z => ?_⟩
        · rw [q9 cc y z2 z1]; exact akb_n A A8 cc y z1 z2 z3 z4 z5 z6 z7
        · rw [q9 cc y (by omega) (by omega)]; exact A8 cc y (by omega) (by omega)
      · have ipn : i < pn := by omega
        -- the parameter's type
        refine pc_sv (P := fun y => y = a 29 (6 * x + i)) ?_ ?_
        · unfold qf_X2_parameterType qf_X2_parametersOf
          refine pc_if (fun y => absurd y (by omega)) (fun _ => ?_)
          refine pc_sv (P := fun y => y = (pn : Int)) ?_ ?_
          · refine pc_sv (c_isM hx) ?_; intro u2 q2
            rw [a2 21 _ (by omega)] at q2
            refine pc_if (fun y => ?_) (fun _ => ?_)
            · exfalso; rcases q2 with ⟨w1, w2⟩ | ⟨w1, w2⟩
              · omega
              · exact w2 HM
            · refine pc_rA ?_; intro _ _ v4 e4
              rw [Int.toNat_natCast, a2 27 x (by omega), e27] at e4
              exact pc_ret e4
          · intro u2 e2'
            refine pc_if (fun y => absurd y (by omega)) (fun _ => ?_)
            refine pc_xl ?_; intro v4 e4
            rw [oq_mul_eq (by omega) (by omega) (by omega)] at e4
            refine pc_add (by omega) ?_; intro v5 e5
            refine pc_rA ?_; intro _ _ v6 e6
            rw [show v5.toNat = 6 * x + i by omega, a2 29 _ (by omega)] at e6
            exact pc_ret e6
        · intro u15 e15
          rw [e15]
          have kp := kd_len (W := W) (hp i ipn) HW
          have lb : (40 :: kz_L W (fun i => a 29 (6 * x + i)) i).length = (kz_L W (fun i => a 29 (6 * x + i)) i).length + 1 := rfl
          refine pc_sv (c_addKind S2.1 (hp i ipn) (fun k z1 z2 => by rw [A2 30 k (by omega) (by omega)]; exact nml_o (HN _ k (.inr ⟨i, ipn, rfl⟩) z1 z2) A2) B2 (by omega)) ?_; intro u17 q17
          refine pc_add (by omega) ?_; intro v18 e18
          rw [show v18 = ((i + 1 : Nat) : Int) by omega]
          exact ih (i + 1) u17 (by omega) (nst_s (l := 0) S2 q17.2) (akb_t A2 q17.2) q17.1
  unfold qf_X2_nameMethodKind
  refine pc_xl ?_; intro h20 e20
  have A1 : AKb g h20 := fun cc y z1 z2 => by rw [e20, up_n z2]
  have B1 : BUF h20 [] := ⟨⟨by rw [e20, up_s]; rfl, by decide⟩, fun k hk => absurd hk (Nat.not_lt_zero _)⟩
  refine pc_sv (c_akb (x := 40) (by decide) B1 (by decide)) ?_; intro u22 q22
  exact LOOP nn 0 u22 (by omega) (nst_s (l := 0) (nst_s (l := 0) S A1) q22.2) (akb_t A1 q22.2) q22.1
end
end

/- HEADS: all members of both sides -/
section
variable {nn : Nat} {K P V U : Nat → Int} {C : Nat → Nat} {c n N : Nat} {h g r w u v h0 r0 : ms_M}
theorem mtb_q {m : Nat} {q q2 : Int} (M : MTB V C n m q h r) (e : q ≤ q2) : MTB V C n m q2 h r := ⟨M.1, M.2.1, M.2.2.1, M.2.2.2.1, fun j i hj hi => by have := M.2.2.2.2 j i hj hi; omega⟩
theorem ahc_t (A : AHc h g) (B : AHc g u) : AHc h u := fun cc y z1 z2 => by rw [B cc y z1 z2]; exact A cc y z1 z2
theorem ahr_t (A : AHr r w) (B : AHr w v) : AHr r v := fun cc y z1 z2 z3 => by rw [B cc y z1 z2 z3]; exact A cc y z1 z2 z3
/-- the names of members are names -/
theorem mml_n {N : Int} : ∀ (d : Nat) (m : Nat) (p q a b : Int), 0 ≤ p → MML K r N d (m : Int) p q a b → ∀ j : Nat, m ≤ j → j < m + d → 0 ≤ r 186 j ∧ K (r 186 j).toNat = 2 := by
  intro d
  induction d with
  | zero => intro m p q a b _ _ j h1 h2; omega
  | succ d ih =>
    intro m p q a b hp H j h1 h2
    obtain ⟨_, p2, a2, ⟨q1, q2⟩, R, _, H2⟩ := H
    by_cases jm : j = m
    · obtain ⟨p1, t, bs, rw, hp1, hty, ⟨r183, r184, r185, r186, kt⟩, -⟩ := R
      rw [Int.toNat_natCast] at r186
      rw [jm, r186]
      refine ⟨?_, kt⟩
      rcases hty with ⟨x1, x2, x3, x4⟩ | ⟨x1, T⟩
      · omega
      · have := tyk_b T; omega
    · exact ih (m + 1) p2 q a2 b (by omega) (by rw [show ((m + 1 : Nat) : Int) = (m : Int) + 1 by omega]; exact H2) j (by omega) (by omega)
theorem pgm_n {N : Int} : ∀ (d : Nat) (k m : Nat) (mE p q a b : Int), 0 ≤ p → PGM K r N d (k : Int) (m : Int) mE p q a b → (m : Int) ≤ mE ∧ ∀ j : Nat, m ≤ j → (j : Int) < mE → 0 ≤ r 186 j ∧ K (r 186 j).toNat = 2 := by
  intro d
  induction d with
  | zero => intro k m mE p q a b _ H; obtain ⟨_, _, e⟩ := H; exact ⟨by omega, fun j h1 h2 => by omega⟩
  | succ d ih =>
    intro k m mE p q a b hp H
    obtain ⟨n2, p2, a2, ha, CL, H2⟩ := H
    obtain ⟨⟨k1, k2, k3⟩, s, e, k4, ML, _, k5, qe⟩ := CL
    have sp : 0 ≤ s := by omega
    have mm := mml_ab n2 _ _ _ _ _ ML
    have r1 := mml_n n2 m s e a a2 sp ML
    have r2 := ih (k + 1) (m + n2) mE p2 q a2 b (by omega) (by rw [show ((k + 1 : Nat) : Int) = (k : Int) + 1 by omega, show ((m + n2 : Nat) : Int) = (m : Int) + n2 by omega]; exact H2)
    refine ⟨by omega, fun j h1 h2 => ?_⟩
    by_cases jm : j < m + n2
    · exact r1 j h1 jm
    · exact r2.2 j (by omega) h2
theorem j_mms (BK : TBn K c) (S : CKd K V C n N) (n8 : n ≤ 8) (B0 : TBc K P c h0) (L0 : VLc K V c h0) (NC0 : NCl V C n N h0) (D0 : HDr K P V C c n r0) {mt k : Nat} {nN : Int} (e28 : r0 160 28 = (mt : Int)) (hN : nN ≤ 1500) (HN : ∀ j : Nat, j < mt → 0 ≤ r0 186 j ∧ K (r0 186 j).toNat = 2) (hk : k < 8) {qk : Int → ms_M → Option ms_M} (Hk : ∀ (x : Int) (z : ms_M), ¬ z 2 11 = 0 → Pc (qk x z) (fun u => FSc z u)) {Z : ms_M → ms_M → Prop} (HS : ∀ u v, SFj u v → Z u v) : ∀ (d f f2 m p : Nat) (l3 q na nb : Int) (h r : ms_M), AHc h0 h → AHr r0 r → h 2 11 = 0 → r 160 9 = 0 → h 2 10 = (p : Int) → MTB V C n m (p : Int) h r → MML K r0 nN d (m : Int) (p : Int) q na nb → K q.toNat = 43 → (∀ i : Nat, m ≤ i → i < m + d → r0 181 i = (k : Int)) → m + d ≤ mt → (0 ≤ l3 ∧ l3 < (p : Int)) → (∀ (h r : ms_M) (f2 : Nat), AHc h0 h → AHr r0 r → h 2 11 = 0 → r 160 9 = 0 → MTB V C n (m + d) q h r → Pc (qk ((k + 1 : Nat) : Int) h) (fun u => Pc (qw_X13_heads_192 nn f2 ((m + d : Nat) : Int) r) (fun v => Z u v))) → Pc (qw_X2_readMembers_57 nn qk f (k : Int) l3 h) (fun u => Pc (qw_X13_heads_192 nn f2 (m : Int) r) (fun v => Z u v)) := by
  have n3 := BK.2.1
  intro d
  induction d with
  | zero =>
    intro f f2 m p l3 q na nb h r Ah Ar hf rf h10 M ML k43 cl md hl HO
    cases f with
    | zero => exact pc_none
    | succ f =>
      have qp : q = (p : Int) := ML.1
      rw [qp, Int.toNat_natCast] at k43
      have pc := tb_lt BK (i := p) (by omega)
      have B := tbc_k B0 (fun cc y z => Ah cc y (by omega) (by omega))
      unfold qw_X2_readMembers_57
      refine pc_if (fun z => absurd z (by omega)) (fun _ => ?_)
      refine pc_if (fun z => absurd hf z) (fun _ => ?_)
      refine pc_sv (c_kind BK B pc h10 hf) ?_; intro u7 q7
      refine pc_if (fun _ => ?_) (fun z => absurd (by omega) z)
      refine pc_add (by omega) ?_; intro v8 e8
      rw [show v8 = ((k + 1 : Nat) : Int) by omega]
      exact HO h r f2 Ah Ar hf rf (by rw [qp]; exact M)
  | succ d ih =>
    intro f f2 m p l3 q na nb h r Ah Ar hf rf h10 M ML k43 cl md hl HO
    cases f with
    | zero => exact pc_none
    | succ f =>
      cases f2 with
      | zero => exact fun _ _ => pc_none
      | succ f2 =>
        obtain ⟨np, p2, a2, ⟨pp, aa⟩, R, ⟨b1, b2, b3⟩, ML2⟩ := ML
        rw [Int.toNat_natCast] at np b1 b2 b3
        have mm := mml_ab d _ _ _ _ _ ML2
        have qc := tb_lt BK (i := q.toNat) (by omega)
        have B := tbc_k B0 (fun cc y z => Ah cc y (by omega) (by omega))
        have L : VLc K V c h := fun i hi ki => by rw [Ah 5 i (by omega) (by omega)]; exact L0 i hi ki
        have NC : NCl V C n N h := fun x hx => by rw [Ah 16 x (by omega) (by omega)]; exact NC0 x hx
        have D := hdr_k D0 (fun cc y z => Ar cc y (by omega) (by omega) (by omega))
        unfold qw_X2_readMembers_57
        refine pc_if (fun z => absurd z (by omega)) (fun _ => ?_)
        refine pc_if (fun z => absurd hf z) (fun _ => ?_)
        refine pc_sv (c_kind BK B (p := p) (by omega) h10 hf) ?_; intro u7 q7
        refine pc_if (fun z => absurd (q7.symm.trans z) np) (fun _ => ?_)
        refine pc_fl ?_
        unfold qw_X13_heads_192
        refine pc_if (fun z => absurd z (by rw [Ar 160 28 (by omega) (by omega) (by omega), e28]; omega)) (fun _ => ?_)
        refine pc_if (fun z => absurd rf z) (fun _ => ?_)
        refine pc_fl ?_
        by_cases m8 : m < 800
        · refine p2_sv (R := fun u v => JMH V C n m p2 h r u v) (j_mem BK S n8 B L NC D hf rf (b := (r0 188 m).toNat) (tot := (r0 189 m).toNat) (na := na) (nb := a2) hk m8 M (fun j hj => by rw [Ar 186 j (by omega) (by omega) (by omega)]; exact HN j (by omega)) h10 (rmb_k (by rw [Int.toNat_natCast]; exact b1) (fun cc z1 z2 z3 => Ar cc _ (by omega) z3 (by omega)) (fun cc j z1 z2 _ _ => Ar cc j (by omega) (by omega) (by omega)) (fun cc x z1 z2 _ _ _ => Ar cc x (by omega) (by omega) (by omega)) R) (by rw [Ar 181 m (by omega) (by omega) (by omega)]; exact cl m (by omega) (by omega)) (by rw [Ar 188 m (by omega) (by omega) (by omega)]; omega) (by rw [Ar 189 m (by omega) (by omega) (by omega)]; omega) (by omega)) ?_
          intro u v J
          refine pc_add (by omega) ?_; intro v11 e11
          refine pc_fl ?_
          refine pc_add (by omega) ?_; intro v16 e16
          rw [show v16 = ((m + 1 : Nat) : Int) by omega]
          rcases J with s | ⟨⟨j1, j2, j3⟩, j4, j5, j6⟩
          · exact pc_fl (pj_sf (o := fun a => a) (q := fun b => b) s (fs_qw_X2_readMembers_57 Hk f _ _ _ s.1) (ft_qw_X13_heads_192 f2 _ _ (sf_r s)) (fun a b s => HS a b s))
          · obtain ⟨p3, p3e⟩ : ∃ p3 : Nat, p2 = (p3 : Int) := ⟨p2.toNat, by omega⟩
            subst p3e
            refine pc_fl (ih f f2 (m + 1) p3 v11 q a2 nb u v (ahc_t Ah j5) (ahr_t Ar j6) j2 j3 j1 j4 (by rw [show ((m + 1 : Nat) : Int) = (m : Int) + 1 by omega]; exact ML2) k43 (fun i h1 h2 => cl i (by omega) (by omega)) (by omega) (by omega) (fun h r f2 x1 x2 x3 x4 x5 => ?_))
            have HO2 := HO h r f2 x1 x2 x3 x4 (by rw [show m + (d + 1) = m + 1 + d by omega]; exact x5)
            rw [show m + (d + 1) = m + 1 + d by omega] at HO2
            exact HO2
        · -- more members than there are rows
          refine pc_fl ?_
          refine pc_se ?_; intro u15 e15
          exfalso
          unfold qf_X13_memberHead at e15
          exact (pc_rA (Q := fun _ => False) (fun _ z _ _ => absurd z (by omega)) : Pc _ (fun _ => False)) u15 e15
theorem j_pms (BK : TBn K c) (S : CKd K V C n N) (n8 : n ≤ 8) (H0 : HDc K P V C c n h0) (NC0 : NCl V C n N h0) (D0 : HDr K P V C c n r0) {mt : Nat} {nN : Int} (e28 : r0 160 28 = (mt : Int)) (hN : nN ≤ 1500) (HN : ∀ j : Nat, j < mt → 0 ≤ r0 186 j ∧ K (r0 186 j).toNat = 2) {Z : ms_M → ms_M → Prop} (HS : ∀ u v, SFj u v → Z u v) (HO : ∀ (h r : ms_M) (q : Int), AHc h0 h → AHr r0 r → h 2 11 = 0 → r 160 9 = 0 → MTB V C n mt q h r → Pc (qw_X13_heads_220 nn nn 0 r) (fun v => Z h v)) : ∀ (j f f2 k m : Nat) (p q na nb q0 : Int) (h r : ms_M), AHc h0 h → AHr r0 r → h 2 11 = 0 → r 160 9 = 0 → MTB V C n m q0 h r → 0 ≤ p → q0 ≤ p → PGM K r0 nN j (k : Int) (m : Int) (mt : Int) p q na nb → k + j = n → Pc (qw_X2_readMembers_2 nn f (k : Int) h) (fun u => Pc (qw_X13_heads_192 nn f2 (m : Int) r) (fun v => Z u v)) := by
  have n3 := BK.2.1
  intro j
  induction j with
  | zero =>
    intro f f2 k m p q na nb q0 h r Ah Ar hf rf M hp qp PG kj
    cases f with
    | zero => exact pc_none
    | succ f =>
      obtain ⟨_, _, me⟩ := PG
      have em : mt = m := by omega
      have e2 : h 11 2 = (n : Int) := by rw [Ah 11 2 (by omega) (by omega)]; exact H0.2.2.1
      unfold qw_X2_readMembers_2
      refine pc_if (fun _ => ?_) (fun z => absurd (by omega) z)
      refine pc_ret ?_
      cases f2 with
      | zero => exact pc_none
      | succ f2 =>
        unfold qw_X13_heads_192
        refine pc_if (fun _ => ?_) (fun z => absurd (by rw [Ar 160 28 (by omega) (by omega) (by omega), e28]; omega) z)
        exact HO h r q0 Ah Ar hf rf (by rw [em]; exact M)
  | succ j ih =>
    intro f f2 k m p q na nb q0 h r Ah Ar hf rf M hp qp PG kj
    cases f with
    | zero => exact pc_none
    | succ f =>
      obtain ⟨n2, p2, a2, ha, CL, PG2⟩ := PG
      obtain ⟨⟨k1, k2, k3⟩, s, e, k4, ML, c181, k5, qe⟩ := CL
      rw [Int.toNat_natCast] at k3 k4
      have H := hdc_k H0 (fun cc y z => Ah cc y (by omega) (by omega))
      have e2 := H.2.2.1
      have ck := (D0.2.2.2 k (by omega)).1
      have cp : p + 1 = (C k : Int) := by rw [← k3]; exact ck
      have s2 := S.2.1 k (by omega)
      have lt := tb_lt BK (i := C k) (by omega)
      have mm := mml_ab n2 _ _ _ _ _ ML
      have ec := tb_lt BK (i := e.toNat) (by omega)
      have me := (pgm_n j (k + 1) (m + n2) (mt : Int) p2 q a2 nb (by omega) (by rw [show ((k + 1 : Nat) : Int) = (k : Int) + 1 by omega, show ((m + n2 : Nat) : Int) = (m : Int) + n2 by omega]; exact PG2)).1
      unfold qw_X2_readMembers_2
      refine pc_if (fun z => absurd z (by omega)) (fun _ => ?_)
      refine pc_if (fun z => absurd hf z) (fun _ => ?_)
      refine pc_sv (c_token H (k := k) (by omega) rfl) ?_; intro u21 q21
      refine pc_add (by omega) ?_; intro v24 e24
      refine pc_sv (c_kindAt BK H.1 (t := C k + 1) (by omega)) ?_; intro u26 q26
      -- to the first member
      have GO : ∀ (o s3 : Int), s = (C k : Int) + o → (o = 2 ∨ o = 4) → Pc (qj_X2_readMembers_51 nn (qw_X2_readMembers_2 nn f) (k : Int) o u21 h) (fun u => Pc (qw_X13_heads_192 nn f2 (m : Int) r) (fun v => Z u v)) := by
        intro o _ se ho
        unfold qj_X2_readMembers_51
        refine pc_add (by omega) ?_; intro v15 e15
        refine pc_xl ?_; intro h16 e16
        have A6 : ∀ cc y : Nat, ¬ (cc = 2 ∧ y = 10) → h16 cc y = h cc y := fun cc y z => by rw [e16, up_n z]
        obtain ⟨s4, s4e⟩ : ∃ s4 : Nat, s = (s4 : Int) := ⟨s.toNat, by omega⟩
        rw [s4e] at ML
        refine j_mms BK S n8 H0.1 H0.2.1 NC0 D0 e28 hN HN (by omega) (fun x z y => fs_qw_X2_readMembers_2 f x z y) HS n2 nn f2 m s4 0 e na a2 h16 r (fun cc y z1 z2 => by rw [A6 cc y (by omega)]; exact Ah cc y z1 z2) Ar (by rw [A6 2 11 (by omega)]; exact hf) rf (by rw [e16, up_s]; omega) (mtb_q (mtb_h M (fun cc y z1 z2 => A6 cc y (by omega))) (by omega)) ML k5 (fun i h1 h2 => c181 i (by omega) (by omega)) (by omega) (by omega) (fun h2 r2 f3 x1 x2 x3 x4 x5 => ?_)
        exact ih f f3 (k + 1) (m + n2) p2 q a2 nb e h2 r2 x1 x2 x3 x4 x5 (by omega) (by omega) (by rw [show ((k + 1 : Nat) : Int) = (k : Int) + 1 by omega, show ((m + n2 : Nat) : Int) = (m : Int) + n2 by omega]; exact PG2) (by omega)
      have w2 : (p + 2).toNat = C k + 1 := by omega
      rw [w2] at k4
      rcases k4 with ⟨x1, x2, x3, x4, x5⟩ | ⟨x1, x2, x3, x4⟩
      · refine pc_if (fun z => absurd (q26.trans x1) z) (fun _ => ?_)
        exact GO 4 0 (by omega) (by omega)
      · refine pc_if (fun _ => ?_) (fun z => absurd (fun y => x1 (by omega)) z)
        exact GO 2 0 (by omega) (by omega)
end

/- HEADS: one member of both sides, second half -/
section
variable {nn : Nat} {K P V U : Nat → Int} {C : Nat → Nat} {c n N : Nat} {h g r w u v g0 r0 : ms_M}
theorem twm_k {m : Nat} {k s x : Int} (e : ∀ cc y : Nat, cc = 181 ∨ cc = 182 ∨ cc = 186 → v cc y = r cc y) : TWm V v m k s x ↔ TWm V r m k s x := by
  constructor
  · intro z
    obtain ⟨j, j1, j2, j3⟩ := z
    exact ⟨j, j1, (msm_k (e 181 j (by omega)) (e 182 j (by omega))).mp j2, by rw [← e 186 j (by omega)]; exact j3⟩
  · intro z
    obtain ⟨j, j1, j2, j3⟩ := z
    exact ⟨j, j1, (msm_k (e 181 j (by omega)) (e 182 j (by omega))).mpr j2, by rw [e 186 j (by omega)]; exact j3⟩
theorem mtb_h {m : Nat} {q : Int} (M : MTB V C n m q h r) (e : ∀ cc y : Nat, 17 ≤ cc → cc ≤ 29 → g cc y = h cc y) : MTB V C n m q g r := by
  refine ⟨fun k hk => ?_, fun j k hj hk z => ?_, fun j k hj hk z => ?_, M.2.2.2⟩
  · rw [e 17 k (by omega) (by omega), e 21 k (by omega) (by omega)]; exact M.1 k hk
  · unfold MBf
    rw [e 18 _ (by omega) (by omega), e 19 _ (by omega) (by omega)]; exact M.2.1 j k hj hk z
  · exact mbm_k (M.2.2.1 j k hj hk z) (fun cc y y2 => e cc y (by omega) (by omega)) (fun _ _ _ => rfl) (fun _ _ => rfl)
/-- the reference behind a member's type: the first FAULT of its name, or on to the parameters -/
theorem r_mhd (BK : TBn K c) (D : HDr K P V C c n r) (rf : r 160 9 = 0) {m t : Nat} {k s : Int} (m8 : m ≤ 800) (HN : ∀ j : Nat, j ≤ m → 0 ≤ r 186 j ∧ K (r 186 j).toNat = 2) (e186 : r 186 m = (t : Int)) (A : MSm r k s m) {Q : ms_M → Prop} (Z11 : mcn_T r k s m = 12 → ∀ v : ms_M, v 160 9 = 11 → v 160 10 = P t → Q v) (Z4 : ¬ mcn_T r k s m = 12 → TWm V r m k s (V t) → ∀ v : ms_M, v 160 9 = 4 → v 160 10 = P t → Q v) (Z0 : ¬ mcn_T r k s m = 12 → ¬ TWm V r m k s (V t) → Pc (qw_X13_memberHead_157 nn nn (m : Int) 0 r) Q) : Pc (qw_X13_memberHead_35 nn nn (m : Int) 0 0 0 r) Q := by
  have kt : K t = 2 := by have := (HN m (by omega)).2; rw [e186, Int.toNat_natCast] at this; exact this
  have tc := tb_lt BK (i := t) (by omega)
  refine rh_35 BK D.2.1 (k := k) (s := s) m8 HN A (fun fl F => ?_) nn 0 0 (by omega) (Int.le_refl _) (.inr ⟨rfl, fun z => ?_⟩)
  · rw [e186, Int.toNat_natCast] at F
    refine pc_if (fun z => ?_) (fun z => ?_)
    · have n12 : ¬ mcn_T r k s m = 12 := by omega
      unfold qj_X13_memberHead_139
      refine pc_if (fun y => ?_) (fun y => ?_)
      · rcases F with ⟨a, b⟩ | ⟨a, b⟩
        · omega
        · exact Z0 n12 b
      · rcases F with ⟨a, b⟩ | ⟨a, b⟩
        · refine pc_rA ?_; intro _ _ v40 e40
          rw [Int.toNat_natCast, e186] at e40
          refine pc_sv (r_wrg D.1 rf tc e40) ?_; intro u42 q42
          exact pc_imp (ft_qw_X13_memberHead_157 nn _ _ _ (by rw [q42.1.1]; decide)) (fun v G => Z4 n12 b v (by rw [G.1]; exact q42.1.1) (by rw [G.2]; exact q42.1.2))
        · exact absurd a y
    · refine pc_rA ?_; intro _ _ v59 e59
      rw [Int.toNat_natCast, e186] at e59
      refine pc_sv (r_wrg D.1 rf tc e59) ?_; intro u61 q61
      exact pc_imp (ft_qj_X13_memberHead_139 (by rw [q61.1.1]; decide)) (fun v G => Z11 (by omega) v (by rw [G.1]; exact q61.1.1) (by rw [G.2]; exact q61.1.2))
  · obtain ⟨j, j1, _⟩ := z
    omega
theorem r_157z {m : Nat} (e : r 189 m = 0) : ∀ f : Nat, Pc (qw_X13_memberHead_157 nn f (m : Int) 0 r) (fun v => v = r) := by
  intro f
  cases f with
  | zero => exact pc_none
  | succ f =>
    unfold qw_X13_memberHead_157
    refine pc_rA ?_; intro _ _ v19 e19
    rw [Int.toNat_natCast, e] at e19
    exact pc_if (fun _ => pc_ret rfl) (fun z => absurd (by omega) z)
theorem j_fld (BK : TBn K c) (S : CKd K V C n N) (n8 : n ≤ 8) (B : TBc K P c h) (L : VLc K V c h) (D : HDr K P V C c n r) (hf : h 2 11 = 0) (rf : r 160 9 = 0) {m k t : Nat} {q0 l2 ty : Int} (hk : k < 8) (m8 : m < 800) (M : MTB V C n m q0 h r) (HN : ∀ j : Nat, j ≤ m → 0 ≤ r 186 j ∧ K (r 186 j).toNat = 2) (e186 : r 186 m = (t : Int)) (q0t : q0 ≤ (t : Int)) (A : MSm r k 0 m) (ty1 : VTy ty ∧ ¬ ty = 300) (ty3 : ¬ ty = 303) (tys : TYS V C n (r 184 m) (r 183 m) (r 185 m) ty) (g10 : g 2 10 = (t : Int)) (Ag : ∀ cc y : Nat, ¬ (cc = 2 ∧ y = 10) → g cc y = h cc y) (k46 : K (t + 1) = 46) (e189 : r 189 m = 0) (ev : v = up_M r 187 m (ty_T ty)) : Pc (qw_X13_memberHead_35 nn nn (m : Int) 0 0 0 v) (fun v2 => Pc (qj_X2_readMember_72 nn (k : Int) l2 ty g) (fun u => JMH V C n m ((t : Int) + 2) h r u v2)) := by
  have n3 := BK.2.1
  have F : ∀ cc y : Nat, ¬ (cc = 187 ∧ y = m) → v cc y = r cc y := fun cc y z => by rw [ev, up_n z]
  have D1 := hdr_k D (fun cc y z => F cc y (by omega))
  have mc : ∀ (k s : Int) (j : Nat), mcn_T v k s j = mcn_T r k s j := fun k s j => mcn_k (fun cc x z => F cc x (by omega)) j
  have tw : ∀ (k s x : Int), TWm V v m k s x ↔ TWm V r m k s x := fun k s x => twm_k (fun cc y z => F cc y (by omega))
  have kt : K t = 2 := by have := (HN m (by omega)).2; rw [e186, Int.toNat_natCast] at this; exact this
  have tc := tb_lt BK (i := t) (by omega)
  have tc1 := tb_lt BK (i := t + 1) (by omega)
  have c12 := (M.1 k hk).2.1
  -- the class
  have CF : Pc (qj_X2_readMember_72 nn (k : Int) l2 ty g) (fun u => (mcn_T r k 0 m = 12 ∧ u 2 11 = 11 ∧ u 2 12 = P t) ∨ (mcn_T r k 0 m < 12 ∧ TWm V r m k 0 (V t) ∧ u 2 11 = 4 ∧ u 2 12 = P t) ∨ (mcn_T r k 0 m < 12 ∧ ¬ TWm V r m k 0 (V t) ∧ (u 17 k = (mcn_T r k 0 m : Int) + 1 ∧ u 18 (12 * k + mcn_T r k 0 m) = V t ∧ u 19 (12 * k + mcn_T r k 0 m) = ty) ∧ u 2 10 = (t : Int) + 2 ∧ ∀ cc y : Nat, ¬ (cc = 2 ∧ y = 10) → ¬ (cc = 17 ∧ y = k) → ¬ ((cc = 18 ∨ cc = 19) ∧ y = 12 * k + mcn_T r k 0 m) → u cc y = h cc y)) := by
    unfold qj_X2_readMember_72
    rw [g10]
    refine pc_add (by omega) ?_; intro v5 e5
    refine pc_xl ?_; intro h6 e6
    have A6 : ∀ cc y : Nat, ¬ (cc = 2 ∧ y = 10) → h6 cc y = h cc y := fun cc y z => by rw [e6, up_n z]; exact Ag cc y z
    have p6 : h6 2 10 = ((t + 1 : Nat) : Int) := by rw [e6, up_s]; omega
    refine pc_sv (c_kind BK (tbc_k B (fun cc y z => A6 cc y (by omega))) tc1 p6 (by rw [A6 2 11 (by omega)]; exact hf)) ?_; intro u9 q9
    refine pc_if (fun z => absurd (q9.trans k46) z) (fun _ => ?_)
    rw [p6]
    refine pc_add (by omega) ?_; intro v17 e17
    refine pc_xl ?_; intro h18 e18
    have A8 : ∀ cc y : Nat, ¬ (cc = 2 ∧ y = 10) → h18 cc y = h cc y := fun cc y z => by rw [e18, up_n z]; exact A6 cc y z
    refine pc_sv (c_addField BK (tbc_k B (fun cc y z => A8 cc y (by omega))) (fun i hi ki => by rw [A8 5 i (by omega)]; exact L i hi ki) (by rw [A8 2 11 (by omega)]; exact hf) (mtb_h M (fun cc y z1 z2 => A8 cc y (by omega))) hk kt) ?_; intro u20 q20
    refine pc_ret ?_
    rcases q20 with q | q | ⟨q1, q2, q3, q4⟩
    · exact .inl q
    · exact .inr (.inl q)
    · exact .inr (.inr ⟨q1, q2, q3, by rw [q4 2 10 (by omega) (by omega), e18, up_s]; omega, fun cc y z1 z2 z3 => by rw [q4 cc y z2 z3]; exact A8 cc y z1⟩)
  refine r_mhd BK D1 (by rw [F 160 9 (by omega)]; exact rf) (by omega) (fun j hj => by rw [F 186 j (by omega)]; exact HN j hj) (by rw [F 186 m (by omega)]; exact e186) ((msm_k (F 181 m (by omega)) (F 182 m (by omega))).mpr A) (fun z v2 a1 a2 => ?_) (fun z z4 v2 a1 a2 => ?_) (fun z z0 => ?_)
  · rw [mc] at z
    refine pc_imp CF (fun u Q => .inl ?_)
    rcases Q with ⟨b1, b2, b3⟩ | ⟨b1, _⟩ | ⟨b1, _⟩
    · exact ⟨by omega, by omega, by omega⟩
    · omega
    · omega
  · rw [mc] at z
    have z5 := (tw _ _ _).mp z4
    refine pc_imp CF (fun u Q => .inl ?_)
    rcases Q with ⟨b1, b2, b3⟩ | ⟨b1, b2, b3, b4⟩ | ⟨b1, b2, _⟩
    · omega
    · exact ⟨by omega, by omega, by omega⟩
    · exact absurd z5 b2
  · rw [mc] at z
    have z5 : ¬ TWm V r m k 0 (V t) := fun y => z0 ((tw _ _ _).mpr y)
    refine pc_imp (r_157z (by rw [F 189 m (by omega)]; exact e189) nn) (fun v2 e2 => ?_)
    rw [e2]
    refine pc_imp CF (fun u Q => ?_)
    rcases Q with ⟨b1, b2, b3⟩ | ⟨b1, b2, b3, b4⟩ | ⟨b1, b2, b3, b4, b5⟩
    · omega
    · exact absurd b2 z5
    · refine .inr ⟨⟨b4, by rw [b5 2 11 (by omega) (by omega) (by omega)]; exact hf, by rw [F 160 9 (by omega)]; exact rf⟩, mtb_f tys M hk A b1 b2 e186 e189 (by omega) ty1 ty3 ev b3 (fun cc y z1 z2 z3 => b5 cc y (by omega) z2 z3), fun cc y z1 z2 => b5 cc y (by omega) (by omega) (by omega), fun cc y z1 z2 z3 => F cc y (by omega)⟩
theorem j_mtd (BK : TBn K c) (S : CKd K V C n N) (n8 : n ≤ 8) (B : TBc K P c h) (L : VLc K V c h) (NC : NCl V C n N h) (D : HDr K P V C c n r) (hf : h 2 11 = 0) (rf : r 160 9 = 0) {m k t b tot : Nat} {q0 l2 ty xe q na nb : Int} (hk : k < 8) (m8 : m < 800) (M : MTB V C n m q0 h r) (HN : ∀ j : Nat, j ≤ m → 0 ≤ r 186 j ∧ K (r 186 j).toNat = 2) (e186 : r 186 m = (t : Int)) (q0t : q0 ≤ (t : Int)) (A : MSm r k 1 m) (ty1 : VTy ty ∧ ¬ ty = 300) (tys : TYS V C n (r 184 m) (r 183 m) (r 185 m) ty) (g10 : g 2 10 = (t : Int)) (Ag : ∀ cc y : Nat, ¬ (cc = 2 ∧ y = 10) → g cc y = h cc y) (k40 : K (t + 1) = 40) (el : (l2 = 1 ∧ r 182 m = 2) ∨ (l2 = 0 ∧ r 182 m = 1)) (e188 : r 188 m = (b : Int)) (e189 : r 189 m = (tot : Int)) (hbt : b + tot ≤ 1500) (PR : PRL K r tot (b : Int) ((t : Int) + 2) xe) (kx : K xe.toNat = 41) (LK : LKn 0 K r 8 0 0 na nb (xe + 1) q (r 190 m)) (ev : v = up_M r 187 m (ty_T ty)) : Pc (qw_X13_memberHead_35 nn nn (m : Int) 0 0 0 v) (fun v2 => Pc (qj_X2_readMember_72 nn (k : Int) l2 ty g) (fun u => JMH V C n m q h r u v2)) := by
  have n3 := BK.2.1
  have F : ∀ cc y : Nat, ¬ (cc = 187 ∧ y = m) → v cc y = r cc y := fun cc y z => by rw [ev, up_n z]
  have D1 := hdr_k D (fun cc y z => F cc y (by omega))
  have mc : ∀ (k s : Int) (j : Nat), mcn_T v k s j = mcn_T r k s j := fun k s j => mcn_k (fun cc x z => F cc x (by omega)) j
  have tw : ∀ (k s x : Int), TWm V v m k s x ↔ TWm V r m k s x := fun k s x => twm_k (fun cc y z => F cc y (by omega))
  have kt : K t = 2 := by have := (HN m (by omega)).2; rw [e186, Int.toNat_natCast] at this; exact this
  have tc1 := tb_lt BK (i := t + 1) (by omega)
  have c12 := (M.1 k hk).2.2
  have PN := prl_n tot b ((t : Int) + 2) (by omega) PR
  have BZ := (lk_bl LK).2 rfl
  have xc := tb_lt BK (i := xe.toNat) (by omega)
  have qx : xe + 1 ≤ q := (lk_bl LK).1.1
  -- the class, as far as its parameters
  have CM : ∀ Q : ms_M → Prop, (mcn_T r k 1 m = 12 → ∀ u : ms_M, u 2 11 = 11 → u 2 12 = P t → Q u) → (mcn_T r k 1 m < 12 → TWm V r m k 1 (V t) → ∀ u : ms_M, u 2 11 = 4 → u 2 12 = P t → Q u) → (mcn_T r k 1 m < 12 → ¬ TWm V r m k 1 (V t) → ∀ u : ms_M, (u 2 10 = ((t + 2 : Nat) : Int) ∧ u 21 k = (mcn_T r k 1 m : Int) + 1 ∧ u 22 (12 * k + mcn_T r k 1 m) = (t : Int) ∧ u 24 (12 * k + mcn_T r k 1 m) = ty ∧ u 25 (12 * k + mcn_T r k 1 m) = l2 ∧ u 27 (12 * k + mcn_T r k 1 m) = 0) → (∀ cc y : Nat, ¬ (cc = 2 ∧ y = 10) → ¬ (cc = 21 ∧ y = k) → ¬ ((cc = 22 ∨ cc = 24 ∨ cc = 25 ∨ cc = 27) ∧ y = 12 * k + mcn_T r k 1 m) → u cc y = h cc y) → Pc (qw_X2_addMethod_120 nn nn ((12 * k + mcn_T r k 1 m : Nat) : Int) 0 u) Q) → Pc (qj_X2_readMember_72 nn (k : Int) l2 ty g) Q := by
    intro Q Z11 Z4 Z0
    unfold qj_X2_readMember_72
    rw [g10]
    refine pc_add (by omega) ?_; intro v5 e5
    refine pc_xl ?_; intro h6 e6
    have A6 : ∀ cc y : Nat, ¬ (cc = 2 ∧ y = 10) → h6 cc y = h cc y := fun cc y z => by rw [e6, up_n z]; exact Ag cc y z
    have p6 : h6 2 10 = ((t + 1 : Nat) : Int) := by rw [e6, up_s]; omega
    have f6 : h6 2 11 = 0 := by rw [A6 2 11 (by omega)]; exact hf
    refine pc_sv (c_kind BK (tbc_k B (fun cc y z => A6 cc y (by omega))) tc1 p6 f6) ?_; intro u9 q9
    refine pc_if (fun _ => ?_) (fun z => absurd (fun y => by omega) z)
    refine pc_if (fun z => absurd f6 z) (fun _ => ?_)
    refine pc_sv (c_addMethod BK (tbc_k B (fun cc y z => A6 cc y (by omega))) (fun i hi ki => by rw [A6 5 i (by omega)]; exact L i hi ki) f6 (p := t + 1) (mtb_h M (fun cc y z1 z2 => A6 cc y (by omega))) (fun j hj => HN j (by omega)) hk kt p6 (by omega) (Q := Q) Z11 Z4 (fun z z0 u G1 G2 => Z0 z z0 u ⟨by have := G1.1; omega, G1.2⟩ (fun cc y z1 z2 z3 => by rw [G2 cc y z1 z2 z3]; exact A6 cc y z1))) (fun a qa => pc_ret qa)
  refine r_mhd BK D1 (by rw [F 160 9 (by omega)]; exact rf) (by omega) (fun j hj => by rw [F 186 j (by omega)]; exact HN j hj) (by rw [F 186 m (by omega)]; exact e186) ((msm_k (F 181 m (by omega)) (F 182 m (by omega))).mpr A) (fun z v2 a1 a2 => ?_) (fun z z4 v2 a1 a2 => ?_) (fun z z0 => ?_)
  · rw [mc] at z
    refine CM _ (fun _ u b1 b2 => .inl ⟨by omega, by omega, by omega⟩) (fun y => by omega) (fun y => by omega)
  · rw [mc] at z
    have z5 := (tw _ _ _).mp z4
    refine CM _ (fun y => absurd y z) (fun _ _ u b1 b2 => .inl ⟨by omega, by omega, by omega⟩) (fun _ y => absurd z5 y)
  · rw [mc] at z
    have z5 : ¬ TWm V r m k 1 (V t) := fun y => z0 ((tw _ _ _).mpr y)
    refine pc_fl ?_
    refine CM _ (fun y => absurd y z) (fun _ y => absurd y z5) (fun y _ u G1 G2 => ?_)
    -- the parameters
    have Bu : TBc K P c u := tbc_k B (fun cc y z => G2 cc y (by omega) (by omega) (by omega))
    have Lu : VLc K V c u := fun i hi ki => by rw [G2 5 i (by omega) (by omega) (by omega)]; exact L i hi ki
    have Nu : NCl V C n N u := fun y hy => by rw [G2 16 y (by omega) (by omega) (by omega)]; exact NC y hy
    refine j_prm BK S n8 Bu Lu Nu D1 (b := b) (m := m) (tot := tot) (xe := xe) (by omega) (by rw [F 188 m (by omega)]; exact e188) (by rw [F 189 m (by omega)]; exact e189) hbt kx (fun u v s => .inl s) (fun j hj => by rw [F 194 _ (by omega)]; have := PN.2 j hj; exact ⟨by omega, this.2⟩) (fun g2 r2 Ag2 Ar2 gf2 rf2 g210 PS => ?_) tot nn nn 0 (t + 2) u v (by omega) (fun _ _ _ _ _ => rfl) (fun _ _ _ _ => rfl) (by rw [G2 2 11 (by omega) (by omega) (by omega)]; exact hf) (by rw [F 160 9 (by omega)]; exact rf) G1.1 ⟨⟨G1.2.2.2.2.2, by omega⟩, fun j hj => absurd hj (by omega)⟩ (by rw [show ((t + 2 : Nat) : Int) = (t : Int) + 2 by omega]; exact prl_k tot _ _ _ (by omega) (fun cc j z1 z2 _ _ => F cc j (by omega)) PR)
    -- over the BLOCK
    unfold qj_X2_addMethod_162
    rw [g210]
    refine pc_add (by omega) ?_; intro v3 e3
    refine pc_xl ?_; intro h4 e4
    refine pc_wA ?_; intro _ _ h8 e8
    rw [Int.toNat_natCast] at e8
    have p4 : h4 2 10 = xe + 1 := by rw [e4, up_s]; omega
    rw [p4] at e8
    have p8 : h8 2 10 = (((xe + 1).toNat : Nat) : Int) := by rw [e8, up_n (by omega), p4]; omega
    have A8 : ∀ cc y : Nat, ¬ (cc = 2 ∧ y = 10) → ¬ (cc = 23 ∧ y = 12 * k + mcn_T r k 1 m) → h8 cc y = g2 cc y := fun cc y z1 z2 => by rw [e8, up_n (by omega), e4, up_n z1]
    refine pc_sv (c_skp BK (tbc_k Bu (fun cc y z => by rw [A8 cc y (by omega) (by omega)]; exact Ag2 cc y (by omega) (by omega) (by omega))) (by rw [A8 2 11 (by omega) (by omega)]; exact gf2) (p := (xe + 1).toNat) (q := q) (by omega) p8 (by rw [show (((xe + 1).toNat : Nat) : Int) = xe + 1 by omega]; exact BZ.1)) ?_; intro u10 q10
    refine pc_ret (.inr ⟨⟨q10.1, by rw [q10.2 2 11 (by omega), A8 2 11 (by omega) (by omega)]; exact gf2, rf2⟩, ?_, ?_, ?_⟩)
    · have EU : ∀ cc y : Nat, ¬ cc = 2 → ¬ (cc = 23 ∧ y = 12 * k + mcn_T r k 1 m) → u10 cc y = g2 cc y := fun cc y z1 z2 => by rw [q10.2 cc y (by omega), A8 cc y (by omega) z2]
      have EG : ∀ cc y : Nat, ¬ cc = 2 → ¬ (cc = 27 ∧ y = 12 * k + mcn_T r k 1 m) → ¬ ((cc = 28 ∨ cc = 29) ∧ 6 * (12 * k + mcn_T r k 1 m) ≤ y ∧ y < 6 * (12 * k + mcn_T r k 1 m) + 6) → g2 cc y = u cc y := fun cc y z1 z2 z3 => Ag2 cc y (by omega) z2 z3
      refine mtb_m tys M hk A (by omega) z5 e186 e188 e189 (by omega) (fun i hi => by have := (PN.2 i hi).1; omega) ?_ ty1 (fun cc y z1 z2 z3 => ?_) ⟨⟨?_, ?_, ?_⟩, ?_, ?_⟩ ?_ (fun cc y z1 z2 z3 z4 => ?_)
      · rw [Ar2 187 m (by omega) (by omega), ev, up_s]
      · rw [Ar2 cc y z2 z3]; exact F cc y z1
      · rw [EU 21 k (by omega) (by omega), EG 21 k (by omega) (by omega) (by omega)]; exact G1.2.1
      · rw [EU 22 _ (by omega) (by omega), EG 22 _ (by omega) (by omega) (by omega)]; exact G1.2.2.1
      · rw [EU 24 _ (by omega) (by omega), EG 24 _ (by omega) (by omega) (by omega)]; exact G1.2.2.2.1
      · rw [EU 25 _ (by omega) (by omega), EG 25 _ (by omega) (by omega) (by omega), G1.2.2.2.2.1]
        rcases el with ⟨a, b⟩ | ⟨a, b⟩
        · exact .inl ⟨b, a⟩
        · exact .inr ⟨b, a⟩
      · rw [q10.2 23 _ (by omega), e8, up_s]; exact BZ.2.symm
      · refine ⟨⟨by rw [EU 27 _ (by omega) (by omega)]; exact PS.1.1, PS.1.2⟩, fun j hj => ?_⟩
        rw [EU 28 _ (by omega) (by omega), EU 29 _ (by omega) (by omega)]
        exact PS.2 j hj
      · rw [EU cc y z1 (by omega), EG cc y z1 (by omega) (by omega)]
        exact G2 cc y (by omega) z2 (by omega)
    · intro cc y z1 z2
      rw [q10.2 cc y (by omega), A8 cc y (by omega) (by omega), Ag2 cc y z1 (by omega) (by omega)]
      exact G2 cc y (by omega) (by omega) (by omega)
    · intro cc y z1 z2 z3
      rw [Ar2 cc y z1 (by omega)]
      exact F cc y (by omega)
/-- one member of both sides -/
theorem j_mem (BK : TBn K c) (S : CKd K V C n N) (n8 : n ≤ 8) (B : TBc K P c h) (L : VLc K V c h) (NC : NCl V C n N h) (D : HDr K P V C c n r) (hf : h 2 11 = 0) (rf : r 160 9 = 0) {m k p b tot : Nat} {q na nb : Int} (hk : k < 8) (m8 : m < 800) (M : MTB V C n m (p : Int) h r) (HN : ∀ j : Nat, j ≤ m → 0 ≤ r 186 j ∧ K (r 186 j).toNat = 2) (h10 : h 2 10 = (p : Int)) (R : RMB K r (m : Int) (p : Int) q na nb) (e181 : r 181 m = (k : Int)) (e188 : r 188 m = (b : Int)) (e189 : r 189 m = (tot : Int)) (hbt : b + tot ≤ 1500) : Pc (qf_X2_readMember nn (k : Int) h) (fun u => Pc (qf_X13_memberHead nn (m : Int) r) (fun v => JMH V C n m q h r u v)) := by
  have n3 := BK.2.1
  obtain ⟨p1, t0, bs, rw, hp1, hty, ⟨r183, r184, r185, r186, kt0⟩, alt⟩ := R
  rw [Int.toNat_natCast] at r183 r184 r185 r186 hp1
  -- the places as numbers
  have t0p : p1 + 1 ≤ t0 ∧ (rw = 0 ∨ rw = 1) ∧ (bs = 0 ∨ bs = 1 ∨ bs = 2 ∨ (bs = 3 ∧ K p1.toNat = 2)) ∧ ¬ K p1.toNat = 0 ∧ ¬ K p1.toNat = 25 := by
    rcases hty with ⟨a1, a2, a3, a4⟩ | ⟨a1, T⟩
    · omega
    · have tb := tyk_b T
      unfold TYk at T
      omega
  obtain ⟨p2, p1e⟩ : ∃ p2 : Nat, p1 = (p2 : Int) := ⟨p1.toNat, by clear alt; omega⟩
  obtain ⟨t, t0e⟩ : ∃ t : Nat, t0 = (t : Int) := ⟨t0.toNat, by clear alt; omega⟩
  subst p1e
  subst t0e
  rw [Int.toNat_natCast] at kt0
  simp only [Int.toNat_natCast] at t0p hty alt
  have tc := tb_lt BK (i := t) (by omega)
  have p2c : p2 < c := by omega
  have kp : ¬ K p = 0 := by
    rcases hp1 with ⟨x1, x2⟩ | ⟨x1, x2⟩
    · rw [x1]; decide
    · rw [show p = p2 by clear alt; omega]; exact t0p.2.2.2.1
  have pc := tb_lt BK kp
  have M0 := M
  -- behind 'static'
  have J35 : ∀ (g : ms_M) (l2 : Int), ((K p = 25 ∧ l2 = 1) ∨ (¬ K p = 25 ∧ l2 = 0)) → g 2 10 = (p2 : Int) → (∀ cc y : Nat, ¬ (cc = 2 ∧ y = 10) → g cc y = h cc y) → Pc (qj_X2_readMember_35 nn (k : Int) l2 g) (fun u => Pc (qf_X13_memberHead nn (m : Int) r) (fun v => JMH V C n m q h r u v)) := by
    intro g l2 hl g10 Ag
    have Bg := tbc_k B (fun cc y z => Ag cc y (by omega))
    have gf : g 2 11 = 0 := by rw [Ag 2 11 (by omega)]; exact hf
    -- behind the type
    have J72 : ∀ (g2 : ms_M) (ty : Int), TYS V C n (p2 : Int) bs rw ty → g2 2 10 = (t : Int) → (∀ cc y : Nat, ¬ (cc = 2 ∧ y = 10) → g2 cc y = h cc y) → Pc (qj_X2_readMember_72 nn (k : Int) l2 ty g2) (fun u => Pc (qf_X13_memberHead nn (m : Int) r) (fun v => JMH V C n m q h r u v)) := by
      intro g2 ty T g210 Ag2
      have tv := tys_v S n8 (fun z => by rw [Int.toNat_natCast]; omega) T
      refine pc_fl ?_
      refine r_mh BK S n8 D rf (p := p2) (bs := bs) (rw := rw) ⟨r183, r184, r185⟩ t0p.2.2.1 t0p.2.1 (fun b3 cl v a1 a2 => ?_) (fun ty2 T2 v ev => ?_)
      · rcases T with ⟨w1, _⟩ | ⟨w1, _⟩ | ⟨w1, _⟩ | ⟨w1, _⟩ | ⟨w1, x2, w2, w3, _⟩
        · omega
        · omega
        · omega
        · omega
        · rw [Int.toNat_natCast] at w2; exact absurd (cls_d w2 cl) w3
      · rw [tys_d T2 T] at ev
        rcases alt with ⟨⟨a1, a2⟩, a3, a4, a5, a6⟩ | ⟨tn, xe, a1, a2, a3, a4, a5, a6, a7⟩
        · rw [show ((t : Int) + 1).toNat = t + 1 by omega] at a3
          have b2 : ¬ bs = 2 := by
            rcases hty with ⟨x1, _⟩ | ⟨_, T3⟩
            · exact absurd x1 a2
            · have := (tyk_b T3).1; omega
          rw [a6]
          exact j_fld BK S n8 B L D hf rf hk m8 M HN r186 (by omega) ⟨e181, .inr ⟨by omega, rfl⟩⟩ ⟨tv.1, tv.2.2⟩ (by have := tv.2.1; omega) (by rw [r184, r183, r185]; exact T) g210 Ag2 a3 a5 ev
        · rw [show ((t : Int) + 1).toNat = t + 1 by omega] at a3
          rw [e188] at a5
          have tt : tn = tot := by omega
          rw [tt] at a5
          exact j_mtd BK S n8 B L NC D hf rf hk m8 M HN r186 (by omega) ⟨e181, .inl ⟨by omega, rfl⟩⟩ ⟨tv.1, tv.2.2⟩ (by rw [r184, r183, r185]; exact T) g210 Ag2 a3 (by omega) e188 e189 hbt a5 a6 a7 ev
    unfold qj_X2_readMember_35
    refine pc_sv (c_kind BK Bg p2c g10 gf) ?_; intro u24 q24
    refine pc_if (fun z => ?_) (fun z => ?_)
    · rcases hty with ⟨a1, _⟩ | ⟨a1, T⟩
      · exact absurd (q24.trans a1) z
      · refine pc_sv (c_type BK S n8 Bg (fun i hi ki => by rw [Ag 5 i (by omega)]; exact L i hi ki) (fun x hx => by rw [Ag 16 x (by omega)]; exact NC x hx) gf g10 T (by omega)) ?_; intro u26 q26
        rcases q26 with ⟨q1, q2, q3⟩ | ⟨q1, q2, q3, q4⟩
        · exact J72 u26.2 u26.1 q1 q2 (fun cc y z => by rw [q3 cc y z]; exact Ag cc y z)
        · refine pc_fl ?_
          refine r_mh BK S n8 D rf (p := p2) (bs := bs) (rw := rw) ⟨r183, r184, r185⟩ t0p.2.2.1 t0p.2.1 (fun b3 cl v a1 a2 => ?_) (fun ty2 T2 v ev => ?_)
          · exact pc_imp (fs_qj_X2_readMember_72 (by rw [q3]; decide)) (fun u G => .inl ⟨by rw [G.1, q3]; decide, by rw [G.1, q3]; exact a1, by rw [G.2, q4]; exact a2⟩)
          · rcases T2 with ⟨w1, _⟩ | ⟨w1, _⟩ | ⟨w1, _⟩ | ⟨w1, _⟩ | ⟨w1, x2, w2, w3, _⟩
            · omega
            · omega
            · omega
            · omega
            · rw [Int.toNat_natCast] at w2; exact absurd (cls_d w2 q2) w3
    · have k30 : K p2 = 30 := by omega
      rw [g10]
      refine pc_add (by omega) ?_; intro v29 e29
      refine pc_xl ?_; intro h30 e30
      rcases hty with ⟨a1, a2, a3, a4⟩ | ⟨a1, _⟩
      · exact J72 h30 303 (.inr (.inr (.inr (.inl ⟨a2, rfl⟩)))) (by rw [e30, up_s]; omega) (fun cc y z => by rw [e30, up_n z]; exact Ag cc y z)
      · exact absurd k30 a1
  unfold qf_X2_readMember
  refine pc_sv (c_kind BK B pc h10 hf) ?_; intro u39 q39
  refine pc_if (fun z => ?_) (fun z => ?_)
  · unfold qj_X2_readMember_17
    refine pc_if (fun _ => ?_) (fun y => absurd rfl y)
    have np : ¬ K p = 25 := by rw [← q39]; clear alt; omega
    exact J35 h 0 (.inr ⟨np, rfl⟩) (by rcases hp1 with ⟨x1, _⟩ | ⟨_, x2⟩; exact absurd x1 np; rw [h10]; exact x2.symm) (fun _ _ _ => rfl)
  · unfold qj_X2_readMember_17
    refine pc_if (fun y => absurd y (by decide)) (fun _ => ?_)
    rw [h10]
    refine pc_add (by omega) ?_; intro v34 e34
    refine pc_xl ?_; intro h35 e35
    have yp : K p = 25 := by rw [← q39]; clear alt; omega
    exact J35 h35 1 (.inl ⟨yp, rfl⟩) (by rw [e35, up_s]; rcases hp1 with ⟨_, x2⟩ | ⟨x1, _⟩; rw [e34, x2]; exact absurd yp x1) (fun cc y z => by rw [e35, up_n z])
end

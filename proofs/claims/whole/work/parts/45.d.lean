/- THE POOL of both sides: CLASS and MEMBER -/
set_option maxRecDepth 20000 in
theorem sh_16 : ∀ i : Fin 256, oq_shl ((i.1 : Nat) : Int) 16 = 65536 * ((i.1 : Nat) : Int) := by decide
theorem oq_shl_16 {x : Int} (hx : 0 ≤ x ∧ x ≤ 255) : oq_shl x 16 = 65536 * x := by
  have h := sh_16 ⟨x.toNat, by omega⟩
  have e : ((x.toNat : Nat) : Int) = x := by omega
  simp only [e] at h
  exact h
theorem oq_or_n {x y : Int} (hx : 0 ≤ x ∧ x < 1073741824) (hy : 0 ≤ y ∧ y < 1073741824) : oq_or x y = ((x.toNat ||| y.toNat : Nat) : Int) := by
  unfold oq_or
  have h1 : (Int32.ofInt x ||| Int32.ofInt y).toInt = (Int32.ofInt x ||| Int32.ofInt y).toBitVec.toInt := rfl
  rw [h1, Int32.toBitVec_or]
  have h2 : ((Int32.ofInt x).toBitVec ||| (Int32.ofInt y).toBitVec).toNat = x.toNat ||| y.toNat := by
    rw [BitVec.toNat_or, bv_of (by omega), bv_of (by omega)]
  have h3 : x.toNat ||| y.toNat < 2 ^ 30 := Nat.or_lt_two_pow (by omega) (by omega)
  rw [BitVec.toInt_eq_toNat_of_lt (by omega), h2]
/-- three indices as one number -/
theorem oq_mem {a b c : Int} (ha : 1 ≤ a ∧ a ≤ 200) (hb : 1 ≤ b ∧ b ≤ 200) (hc : 1 ≤ c ∧ c ≤ 200) : oq_or (oq_or (oq_shl a 16) (oq_shl b 8)) c = a * 65536 + b * 256 + c := by
  rw [oq_shl_16 (by omega), oq_shl_8 (by omega)]
  have e1 : oq_or (65536 * a) (256 * b) = 65536 * a + 256 * b := by
    rw [oq_or_n (by omega) (by omega), show (65536 * a).toNat = 2 ^ 16 * a.toNat by omega, ← Nat.two_pow_add_eq_or_of_lt (by omega)]
    omega
  rw [e1, oq_or_n (by omega) (by omega), show (65536 * a + 256 * b).toNat = 2 ^ 8 * (256 * a.toNat + b.toNat) by omega, ← Nat.two_pow_add_eq_or_of_lt (by omega)]
  omega
/-- the text of a CLASS -/
def cA_L (W : Nat → List Int) (t : Int) : List Int := if t < 100 then W t.toNat else kd_L W t
section
variable {nn : Nat} {K P V U D : Nat → Int} {C : Nat → Nat} {c n N mt : Nat} {q : Int} {h g r w u v a b m m0 : ms_M} {L A : List Int} {W : Nat → List Int}
theorem pco_t {u u2 : Int × ms_M} {w w2 : Int × ms_M} (X : PCo h m u w) (Y : PCo u.2 w.2 u2 w2) : PCo h m u2 w2 := by
  obtain ⟨x1, x2, x3, x4, x5, x6⟩ := X
  obtain ⟨y1, y2, y3, y4, y5, y6⟩ := Y
  exact ⟨y1, y2, fun z => y3 (x3 z), fun cc y z1 z2 z3 => by rw [y4 cc y z1 z2 z3]; exact x4 cc y z1 z2 z3, fun cc y z1 z2 => by rw [y5 cc y z1 z2]; exact x5 cc y z1 z2, y6⟩
theorem pco_a {u : Int × ms_M} {w : Int × ms_M} (A : ASp m0 m) (X : PCo h m u w) : PCo h m0 u w := by
  obtain ⟨x1, x2, x3, x4, x5, x6⟩ := X
  exact ⟨x1, x2, x3, x4, fun cc y z1 z2 => by rw [x5 cc y z1 z2]; exact A cc y (by omega) (by omega), x6⟩
theorem plr_a (A : ASp m0 m) (R : PLR h m0) : PLR h m := by
  rcases R with ⟨r5, r64, cn, e4, e62, c2, E⟩ | ⟨r5, r62⟩
  · exact .inl ⟨r5, by rw [A 160 64 (by omega) (by omega)]; exact r64, cn, e4, by rw [A 160 62 (by omega) (by omega)]; exact e62, c2, fun k h1 h2 => pce_k (E k h1 h2) (fun _ _ _ => rfl) (fun _ _ z => z) (fun cc y z => A cc y (by omega) (by omega)) (fun y _ => A 204 y (by omega) (by omega)) (by rw [A 160 64 (by omega) (by omega)]; exact Int.le_refl _)⟩
  · exact .inr ⟨r5, by rw [A 160 62 (by omega) (by omega)]; exact r62⟩
theorem mbd_a (A : ASp m0 m) (M : MBd m0) : MBd m := ⟨by rw [A 160 62 (by omega) (by omega)]; exact M.1, by rw [A 160 64 (by omega) (by omega)]; exact M.2⟩
theorem j_const3 {t x a b c : Int} (t1 : ¬ t ≤ 1) (VL : h 45 5 = 0 → VAL t x a b c) (R : PLR h m) (MB : MBd m) : Pc (qf_X6_constant nn t x h) (fun u => Pc (qf_X13_constant nn t a b c m) (fun w => PCo h m u w)) := by
  by_cases z : h 45 5 = 0
  · exact j_const (VL z) R MB
  · unfold qf_X6_constant qf_X13_constant
    rcases R with ⟨r5, _⟩ | ⟨r5, r62⟩
    · exact absurd r5 z
    · exact j_cF t1 r5 r62 MB
theorem c_nOT (n8 : n ≤ 8) (NK : NKc W (8 + n) h) (N31 : NMz h 31 [91, 73]) {t : Int} (vt : (0 ≤ t ∧ t < 8 + (n : Int)) ∨ (100 ≤ t ∧ t < 108 + (n : Int)) ∨ t = 200) : Pc (qf_X2_nameOfType nn t h) (fun x => NMz h x (cA_L W t)) := by
  unfold qf_X2_nameOfType
  refine pc_if (fun z => absurd z (by omega)) (fun _ => ?_)
  refine pc_if (fun z => ?_) (fun z => ?_)
  · unfold qj_X2_nameOfType_17
    refine pc_if (fun y => absurd y (by omega)) (fun _ => ?_)
    refine pc_if (fun y => ?_) (fun y => ?_)
    · have t2 : t = 200 := by omega
      unfold qj_X2_nameOfType_33 qj_X2_nameOfType_34
      refine pc_if (fun _ => pc_ret ?_) (fun y2 => absurd rfl y2)
      have e : cA_L W t = [91, 73] := by unfold cA_L kd_L; rw [if_neg (by omega), if_neg (by omega), if_neg (by omega), if_neg (by omega), if_pos t2]
      rw [e]; exact N31
    · unfold qj_X2_nameOfType_34
      refine pc_if (fun y2 => absurd y2 (by decide)) (fun _ => ?_)
      refine pc_add (by omega) ?_; intro v2 e2
      refine pc_sub (by omega) ?_; intro v3 e3
      refine pc_rA ?_; intro _ _ v4 e4
      obtain ⟨k, tk⟩ : ∃ k : Nat, t = 100 + (k : Int) := ⟨(t - 100).toNat, by omega⟩
      rw [show v3.toNat = 16 + k by omega] at e4
      have x := (NK k (by omega)).2
      have e : cA_L W t = kd_L W (100 + (k : Int)) := by unfold cA_L; rw [if_neg (by omega), tk]
      exact pc_ret (by rw [e, e4]; exact x)
  · refine pc_rA ?_; intro _ _ v9 e9
    have x := (NK t.toNat (by omega)).1
    have e : cA_L W t = W t.toNat := by unfold cA_L; rw [if_pos (by omega)]
    exact pc_ret (by rw [e, e9]; exact x)
/-- a CLASS of both sides -/
theorem j_class3 (n8 : n ≤ 8) (T : NTB h) (NK : NKc W (8 + n) h) (N31 : NMz h 31 [91, 73]) (WS : WSr W C n m) (S : SPL m []) (R : PLR h m) (MB : MBd m) {t : Int} (vt : (0 ≤ t ∧ t < 8 + (n : Int)) ∨ (100 ≤ t ∧ t < 108 + (n : Int)) ∨ t = 200) : Pc (qf_X6_classOf nn t h) (fun u => Pc (qf_X13_classConstant nn (ty_T t) m) (fun w => PCo h m u w ∧ SPL w.2 [])) := by
  have vn : VTn n t := by
    rcases vt with z | z | z
    · exact .inr (.inr (.inr (.inr (.inr (.inl z)))))
    · exact .inr (.inr (.inr (.inr (.inr (.inr z)))))
    · exact .inr (.inr (.inr (.inr (.inl z))))
  have tc := ty_c (vtn_v n8 vn)
  unfold qf_X6_classOf
  refine pc_sv (c_nOT n8 NK N31 vt) ?_; intro u3 q3
  -- behind the spelling
  have BACK : ∀ m1 : ms_M, ASp m m1 → SPL m1 (cA_L W t) → Pc (qj_X13_classConstant_38 nn m1) (fun w => Pc (mx_sv (qf_X6_constant nn 1 u3 h) fun u5 => mx_sv (qf_X6_constant nn 3 u5.1 u5.2) fun u7 => some (u7.1, u7.2)) (fun u => PCo h m u w ∧ SPL w.2 [])) := by
    intro m1 A1 S1
    refine pc_fl ?_
    unfold qj_X13_classConstant_38
    refine p2_sv (j_text T q3 S1 (plr_a A1 R) (mbd_a A1 MB)) ?_; intro u5 w2 J
    refine p2_se (j_const3 (t := 3) (x := u5.1) (a := w2.1) (b := 0) (c := 0) (by decide) (fun z => .inl ⟨.inr ⟨rfl, by have := J.1.2.1 z; omega, by have := J.1.2.1 z; omega⟩, (J.1.2.1 z).1, rfl, rfl⟩) J.1.1 J.1.2.2.2.2.2) ?_; intro u7 w4 _ ew4 J2
    refine pc_ret (pc_ret ⟨pco_a A1 (pco_t J.1 J2), ?_⟩)
    obtain ⟨⟨s1, s2⟩, s3⟩ := J.2
    exact ⟨⟨by rw [show w4.2 160 66 = w2.2 160 66 from ff_X13_constant nn w4 ew4 160 66 rfl]; exact s1, s2⟩, fun k hk => absurd hk (Nat.not_lt_zero _)⟩
  refine pc_fl ?_
  unfold qf_X13_classConstant
  by_cases t2 : t = 200
  · have e : cA_L W t = kd_L W t := by unfold cA_L; rw [if_neg (by omega)]
    refine pc_if (fun y => absurd (by omega) y) (fun _ => ?_)
    refine pc_sv (r_spKind WS n8 ⟨vn, by omega⟩ S) ?_; intro u14 q14
    exact BACK u14 q14.2 (by rw [e]; exact q14.1)
  · refine pc_if (fun _ => ?_) (fun y => absurd (fun y2 => by omega) y)
    unfold qf_X13_isArray
    by_cases t1 : t < 100
    · obtain ⟨k, tk⟩ : ∃ k : Nat, t = (k : Int) := ⟨t.toNat, by omega⟩
      have e : cA_L W t = W k := by unfold cA_L; rw [if_pos t1, show t.toNat = k by omega]
      refine pc_sv (P := fun y => y = 0) ?_ ?_
      · refine pc_if (fun y => absurd y (by omega)) (fun _ => ?_)
        refine pc_if (fun y => absurd y (by omega)) (fun _ => ?_)
        refine pc_mod (by omega) ?_; intro v1 e1
        exact pc_if (fun _ => pc_ret rfl) (fun y => absurd (fun y2 => by omega) y)
      · intro u5 e5
        refine pc_if (fun _ => ?_) (fun y => absurd e5 y)
        refine pc_sub (by omega) ?_; intro v6 e6
        refine pc_div (by omega) ?_; intro v7 e7
        rw [show v7 = (k : Int) by omega]
        refine pc_sv (r_spCls WS n8 (k := k) (by omega) S) ?_; intro u9 q9
        exact BACK u9 q9.2 (by rw [e]; exact q9.1)
    · have e : cA_L W t = kd_L W t := by unfold cA_L; rw [if_neg t1]
      refine pc_sv (P := fun y => y = 1) ?_ ?_
      · refine pc_if (fun y => absurd y (by omega)) (fun _ => ?_)
        refine pc_if (fun y => absurd y (by omega)) (fun _ => ?_)
        refine pc_mod (by omega) ?_; intro v1 e1
        exact pc_if (fun y => absurd (by omega) y) (fun _ => pc_ret rfl)
      · intro u5 e5
        refine pc_if (fun y => absurd y (by omega)) (fun _ => ?_)
        refine pc_sv (r_spKind WS n8 ⟨vn, by omega⟩ S) ?_; intro u11 q11
        exact BACK u11 q11.2 (by rw [e]; exact q11.1)
end

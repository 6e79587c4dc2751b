/- VERIFY: members of an IMAGE, as functions of its bytes -/
def pk_S (B : Nat → Int) (n : Nat) : Nat := match kk_S B n with
  | .inr p => p
  | .inl _ => 0
def qk_S (B : Nat → Int) (n : Nat) : Nat := match fs_S B n (pk_S B n + 2) with
  | .inr q => q
  | .inl _ => 0
/-- how many fields, where field j is; how many methods, where method i is, its handlers, its frames -/
def fc_S (B : Nat → Int) (n : Nat) : Int := B (pk_S B n + 2)
def fa_S (B : Nat → Int) (n j : Nat) : Nat := pk_S B n + 3 + 2 * j
def mc_S (B : Nat → Int) (n : Nat) : Int := B (qk_S B n)
def ma_S (B : Nat → Int) (n i : Nat) : Nat := match mq_S B n (qk_S B n + 1) i with
  | some x => x
  | none => 0
def mh_P (B : Nat → Int) (n i : Nat) : Nat := match co_S B n (ma_S B n i + 5) with
  | .inr x => x
  | .inl _ => 0
def mf_P (B : Nat → Int) (n i : Nat) : Nat := match hs_S B n (mh_P B n i) with
  | .inr x => x
  | .inl _ => 0
/-- method i is as it must be -/
def GMt (B : Nat → Int) (n i : Nat) : Prop := ((B (ma_S B n i) = 0 ∨ B (ma_S B n i) = 1) ∧ nm_S B n (B (ma_S B n i + 1)) = true) ∧ (∃ m : Nat, pi_S B n (B (ma_S B n i + 2)) = some m ∧ (m : Int) + 1 - B (ma_S B n i) ≤ B (ma_S B n i + 4)) ∧ ((0 ≤ B (ma_S B n i + 3) ∧ B (ma_S B n i + 3) ≤ 30) ∧ B (ma_S B n i + 4) ≤ 30) ∧ ((1 ≤ ln_N B (ma_S B n i + 5) ∧ ln_N B (ma_S B n i + 5) ≤ 1500) ∧ mh_P B n i = ma_S B n i + 7 + (ln_N B (ma_S B n i + 5)).toNat ∧ mh_P B n i < n) ∧ (0 ≤ B (mh_P B n i) ∧ B (mh_P B n i) ≤ 20) ∧ (hd_S B n (B (mh_P B n i)).toNat (mh_P B n i + 1) = .inr (mf_P B n i) ∧ mf_P B n i < n) ∧ (0 ≤ B (mf_P B n i) ∧ B (mf_P B n i) ≤ 100) ∧ ∃ q : Nat, fr_S B n (B (mf_P B n i)).toNat (mf_P B n i + 1) = .inr q ∧ q ≤ n
/-- a good IMAGE -/
def GIM (B : Nat → Int) (n : Nat) : Prop := (0 ≤ fc_S B n ∧ fc_S B n ≤ 12) ∧ (∀ j : Nat, (j : Int) < fc_S B n → fa_S B n j + 1 < n ∧ nm_S B n (B (fa_S B n j)) = true ∧ fk_S B n (B (fa_S B n j + 1)) = true) ∧ (0 ≤ mc_S B n ∧ mc_S B n ≤ 12) ∧ ∀ i : Nat, (i : Int) < mc_S B n → GMt B n i
section
variable {nn : Nat} {Bf : Nat → Nat → Int} {nf : Nat → Nat} {cnt : Int} {B : Nat → Int} {n b k : Nat} {M h g r : ms_M}
theorem up_i {lo hi v : Int} (e : up_T lo hi v = true) : lo ≤ v ∧ v ≤ hi := by
  unfold up_T at e
  rw [Bool.and_eq_true] at e
  exact ⟨of_decide_eq_true e.1, of_decide_eq_true e.2⟩
theorem fl_i : ∀ (m p q : Nat), fl_S B n m p = .inr q → ∀ j : Nat, j < m → p + 2 * j + 1 < n ∧ nm_S B n (B (p + 2 * j)) = true ∧ fk_S B n (B (p + 2 * j + 1)) = true := by
  intro m
  induction m with
  | zero => intro p q _ j hj; exact absurd hj (by omega)
  | succ m ih =>
    intro p q e j hj
    unfold fl_S at e
    obtain ⟨x, e1, e2⟩ := bd_inr e
    obtain ⟨y, e3, e4⟩ := bd_inr e1
    obtain ⟨a1, a2, a3⟩ := by_le e3
    obtain ⟨b1, b2, b3⟩ := by_le e4
    rw [a1] at b1 b2 b3
    by_cases j0 : j = 0
    · rw [j0]; exact ⟨b2, a3, b3⟩
    · have z := ih x q e2 (j - 1) (by omega)
      rw [show x + 2 * (j - 1) = p + 2 * j by omega] at z
      exact z
theorem pk_e {p : Nat} (zk : kk_S B n = .inr p) : pk_S B n = p := by unfold pk_S; rw [zk]
theorem qk_e {p q : Nat} (zk : kk_S B n = .inr p) (zf : fs_S B n (p + 2) = .inr q) : qk_S B n = q := by unfold qk_S; rw [pk_e zk, zf]
theorem ma_e {i x : Nat} (e : mq_S B n (qk_S B n + 1) i = some x) : ma_S B n i = x := by unfold ma_S; rw [e]
/-- where a method's parts are -/
theorem mpl_i {i x f hh y : Nat} (e : ma_S B n i = x) (P : MPl B n x hh f y) : mh_P B n i = hh ∧ mf_P B n i = f ∧ GMt B n i := by
  obtain ⟨P1, P2, P3, P4⟩ := P
  have eh : mh_P B n i = hh := by unfold mh_P; rw [e, P2]
  have ef : mf_P B n i = f := by unfold mf_P; rw [eh, P3]
  refine ⟨eh, ef, ?_⟩
  unfold GMt
  rw [eh, ef, e]
  unfold mh_S at P1
  obtain ⟨x4, P1, q4⟩ := bd_inr P1
  obtain ⟨x3, P1, q3⟩ := bd_inr P1
  obtain ⟨x2, P1, q2⟩ := bd_inr P1
  obtain ⟨x1, P1, q1⟩ := bd_inr P1
  obtain ⟨a1, a2, a3⟩ := by_le P1
  obtain ⟨b1, b2, b3⟩ := by_le q1
  obtain ⟨c1, c2, c3⟩ := by_le q2
  obtain ⟨d1, d2, d3⟩ := by_le q3
  obtain ⟨f1, f2, f3⟩ := by_le q4
  rw [a1] at b1 b2 b3
  rw [b1] at c1 c2 c3
  rw [c1] at d1 d2 d3
  rw [d1] at f1 f2 f3
  have u0 := up_i a3
  have u3 := up_i d3
  have u4 := up_i f3
  unfold co_S at P2
  obtain ⟨z, s1, s2⟩ := bd_inr P2
  have ez : z = x + 5 + 2 := by
    unfold sk_S at s1
    by_cases w : x + 5 + 2 ≤ n
    · rw [if_pos w] at s1; exact (Sum.inr.inj s1).symm
    · rw [if_neg w] at s1; exact nomatch s1
  by_cases w1 : ln_N B (x + 5) < 1 ∨ 1500 < ln_N B (x + 5)
  · rw [if_pos w1] at s2; exact nomatch s2
  rw [if_neg w1] at s2
  by_cases w2 : (z : Int) + ln_N B (x + 5) ≤ (n : Int)
  · rw [if_pos w2] at s2
    have e5 : z + (ln_N B (x + 5)).toNat = hh := Sum.inr.inj s2
    unfold hs_S at P3
    obtain ⟨y1, t1, t2⟩ := bd_inr P3
    obtain ⟨g1, g2, g3⟩ := by_le t1
    rw [g1] at t2
    unfold ff_S at P4
    obtain ⟨y2, t3, t4⟩ := bd_inr P4
    obtain ⟨k1, k2, k3⟩ := by_le t3
    rw [k1] at t4
    have c4 : ∃ m : Nat, pi_S B n (B (x + 2)) = some m := by
      have c3' : (pi_S B n (B (x + 1 + 1))).isSome = true := c3
      rw [show x + 1 + 1 = x + 2 from rfl] at c3'
      exact Option.isSome_iff_exists.1 c3'
    obtain ⟨m, hm⟩ := c4
    have le : le_S B n x = (m : Int) + 1 - B x := by unfold le_S; rw [hm]; rfl
    refine ⟨⟨by omega, b3⟩, ⟨m, hm, ?_⟩, ⟨u3, u4.2⟩, ⟨⟨by omega, by omega⟩, by omega, g2⟩, up_i g3, ⟨t2, k2⟩, up_i k3, y, t4, ?_⟩
    · have u5 := u4.1
      have u6 : B (x + 1 + 1 + 1 + 1) = B (x + 4) := rfl
      show (m : Int) + 1 - B x ≤ B (x + 4)
      omega
    · exact frl_S _ _ _ (by omega) t4
  · rw [if_neg w2] at s2; exact nomatch s2
theorem gim_of {p q : Nat} (zk : kk_S B n = .inr p) (zf : fs_S B n (p + 2) = .inr q) (zm : mm_S B n q = .inr n) (HM : ∀ i : Nat, (i : Int) < B q → ∃ x y hh f, mq_S B n (q + 1) i = some x ∧ MPl B n x hh f y) : GIM B n := by
  have ep := pk_e zk
  have eq := qk_e zk zf
  unfold GIM fc_S mc_S
  rw [ep, eq]
  unfold fs_S at zf
  obtain ⟨x1, f1, f2⟩ := bd_inr zf
  obtain ⟨a1, a2, a3⟩ := by_le f1
  rw [a1] at f2
  unfold mm_S at zm
  obtain ⟨x2, m1, m2⟩ := bd_inr zm
  obtain ⟨b1, b2, b3⟩ := by_le m1
  have u1 := up_i a3
  have u2 := up_i b3
  refine ⟨u1, fun j hj => ?_, u2, fun i hi => ?_⟩
  · have z := fl_i _ _ _ f2 j (by omega)
    have ef : fa_S B n j = p + 2 + 1 + 2 * j := by unfold fa_S; rw [ep]
    rw [ef]; exact z
  · obtain ⟨x, y, hh, f, e, P⟩ := HM i hi
    exact (mpl_i (ma_e (by rw [eq]; exact e)) P).2.2
/-- the class's tables of members -/
theorem cg_im (X : IMc b n B M) : GIM B n ∧ (M b 10 = fc_S B n ∧ ∀ j : Nat, (j : Int) < fc_S B n → M (b + 5) (2 * j) = B (fa_S B n j) ∧ M (b + 5) (2 * j + 1) = B (fa_S B n j + 1)) ∧ (M b 12 = mc_S B n ∧ ∀ i : Nat, (i : Int) < mc_S B n → MDt b B n (12 * (i : Int)) (ma_S B n i) (mh_P B n i) (mf_P B n i) M) := by
  obtain ⟨-, p, q, zk, ⟨-, -, zf, zm⟩, -, ⟨e10, FL⟩, e12, MS⟩ := X
  have ep := pk_e zk
  have eq := qk_e zk zf
  refine ⟨gim_of zk zf zm (fun i hi => by obtain ⟨x, y, hh, f, e, P, -⟩ := MS i hi; exact ⟨x, y, hh, f, e, P⟩), ⟨by unfold fc_S; rw [ep]; exact e10, fun j hj => ?_⟩, by unfold mc_S; rw [eq]; exact e12, fun i hi => ?_⟩
  · unfold fc_S at hj
    rw [ep] at hj
    obtain ⟨a1, a2⟩ := FL (j : Int) (by omega) hj
    have ef : fa_S B n j = p + 3 + 2 * j := by unfold fa_S; rw [ep]
    rw [show (2 * (j : Int)).toNat = 2 * j by omega] at a1
    rw [show (2 * (j : Int) + 1).toNat = 2 * j + 1 by omega] at a2
    rw [ef]; exact ⟨a1, a2⟩
  · unfold mc_S at hi
    rw [eq] at hi
    obtain ⟨x, y, hh, f, e, P, D⟩ := MS i hi
    have ex := ma_e (B := B) (n := n) (i := i) (x := x) (by rw [eq]; exact e)
    obtain ⟨a1, a2, -⟩ := mpl_i ex P
    rw [ex, a1, a2]; exact D
/-- the reference's tables of members -/
theorem rg_im {c : Int} (X : TBr c n B M) : GIM B n ∧ (M 232 c.toNat = fc_S B n ∧ ∀ j : Nat, (j : Int) < fc_S B n → M 233 (12 * c + j).toNat = (fa_S B n j : Int)) ∧ (M 234 c.toNat = mc_S B n ∧ ∀ i : Nat, (i : Int) < mc_S B n → M 235 (12 * c + i).toNat = (ma_S B n i : Int) ∧ M 236 (12 * c + i).toNat = (mh_P B n i : Int) ∧ M 237 (12 * c + i).toNat = (mf_P B n i : Int)) := by
  obtain ⟨-, -, p, q, zk, ⟨-, -, zf, zm⟩, -, ⟨e10, FL⟩, e12, MS⟩ := X
  have ep := pk_e zk
  have eq := qk_e zk zf
  refine ⟨gim_of zk zf zm (fun i hi => by obtain ⟨x, y, hh, f, e, P, -⟩ := MS i hi; exact ⟨x, y, hh, f, e, P⟩), ⟨by unfold fc_S; rw [ep]; exact e10, fun j hj => ?_⟩, by unfold mc_S; rw [eq]; exact e12, fun i hi => ?_⟩
  · unfold fc_S at hj
    rw [ep] at hj
    have a1 := FL (j : Int) (by omega) hj
    have ef : fa_S B n j = p + 3 + 2 * j := by unfold fa_S; rw [ep]
    rw [show (2 * (j : Int)).toNat = 2 * j by omega] at a1
    rw [ef]; exact a1
  · unfold mc_S at hi
    rw [eq] at hi
    obtain ⟨x, y, hh, f, e, P, d1, d2, d3⟩ := MS i hi
    have ex := ma_e (B := B) (n := n) (i := i) (x := x) (by rw [eq]; exact e)
    obtain ⟨a1, a2, -⟩ := mpl_i ex P
    rw [ex, a1, a2]; exact ⟨d1, d2, d3⟩
/-- what the class's rows of methods give -/
theorem vq_of (X : IMc b n B M) {i : Nat} (hi : (i : Int) < mc_S B n) {w : Int} {x : Int} (hw : 0 ≤ w ∧ w ≤ 11) (ex : M (b + 6) (12 * (i : Int) + w).toNat = x) : Pc (qf_X3_of nn b (i : Int) w M) (fun u => u = x) := by
  obtain ⟨G, -, e12, -⟩ := cg_im X
  have := G.2.2.1
  unfold qf_X3_of
  refine pc_xl ?_; intro v1 e1
  rw [oq_mul_eq (by omega) (by omega) (by omega)] at e1
  refine pc_add (by omega) ?_; intro v2 e2
  refine pc_if (fun z => absurd z (by omega)) (fun _ => ?_)
  refine pc_if (fun z => absurd z (by omega)) (fun _ => ?_)
  refine pc_if (fun z => absurd z (by omega)) (fun _ => ?_)
  refine pc_rA ?_; intro _ _ v7 e7
  rw [show v2 = 12 * (i : Int) + w by omega, ex] at e7
  exact pc_ret e7
theorem vq_cfn (X : IMc b n B M) {j : Nat} (hj : (j : Int) < fc_S B n) : Pc (qf_X3_fieldName nn b (j : Int) M) (fun u => u = B (fa_S B n j)) ∧ Pc (qf_X3_fieldKind nn b (j : Int) M) (fun u => u = B (fa_S B n j + 1)) := by
  obtain ⟨G, ⟨e10, FL⟩, -⟩ := cg_im X
  have := G.1
  obtain ⟨f1, f2⟩ := FL j hj
  constructor
  · unfold qf_X3_fieldName
    refine pc_if (fun z => absurd z (by omega)) (fun _ => ?_)
    refine pc_if (fun z => absurd z (by omega)) (fun _ => ?_)
    refine pc_xl ?_; intro v3 e3
    rw [oq_mul_eq (by omega) (by omega) (by omega)] at e3
    refine pc_rA ?_; intro _ _ v4 e4
    rw [show v3.toNat = 2 * j by omega, f1] at e4
    exact pc_ret e4
  · unfold qf_X3_fieldKind
    refine pc_if (fun z => absurd z (by omega)) (fun _ => ?_)
    refine pc_if (fun z => absurd z (by omega)) (fun _ => ?_)
    refine pc_xl ?_; intro v3 e3
    rw [oq_mul_eq (by omega) (by omega) (by omega)] at e3
    refine pc_add (by omega) ?_; intro v4 e4
    refine pc_rA ?_; intro _ _ v5 e5
    rw [show v4.toNat = 2 * j + 1 by omega, f2] at e5
    exact pc_ret e5
/-- the name and the kind of member j: which TEXT -/
def nt_S (B : Nat → Int) (n j : Nat) (s : Int) : Int := if s = 0 then B (fa_S B n j) else B (ma_S B n j + 1)
def kt_S (B : Nat → Int) (n j : Nat) (s : Int) : Int := if s = 0 then B (fa_S B n j + 1) else B (ma_S B n j + 2)
def mb_S (B : Nat → Int) (n : Nat) (s : Int) : Int := if s = 0 then fc_S B n else mc_S B n
theorem vq_rtx (S : RSv Bf nf h) (hk : (k : Int) < h 160 98) {j : Nat} {s : Int} (hj : (j : Int) < mb_S (Bf k) (nf k) s) : Pc (qf_X13_nameText nn (k : Int) (j : Int) s h) (fun u => u = nt_S (Bf k) (nf k) j s) ∧ Pc (qf_X13_kindText nn (k : Int) (j : Int) s h) (fun u => u = kt_S (Bf k) (nf k) j s) := by
  obtain ⟨n6, k8⟩ := tb_n6 S hk
  obtain ⟨G, ⟨e1, F1⟩, e2, M1⟩ := rg_im (S.2 k hk)
  by_cases s0 : s = 0
  · unfold mb_S at hj
    rw [if_pos s0] at hj
    obtain ⟨g1, -, -⟩ := G.2.1 j hj
    have g0 := G.1
    have f1 := F1 j hj
    unfold nt_S kt_S
    rw [if_pos s0, if_pos s0]
    constructor
    · unfold qf_X13_nameText
      refine pc_if (fun _ => ?_) (fun z => absurd s0 z)
      refine pc_xl ?_; intro v2 e2
      rw [oq_mul_eq (by omega) (by omega) (by omega)] at e2
      refine pc_add (by omega) ?_; intro v3 e3
      refine pc_rA ?_; intro _ _ v4 e4
      rw [show v3 = 12 * (k : Int) + j by omega, f1] at e4
      rw [e4]
      refine pc_sv (vq_rbyte S hk (by omega)) ?_; intro u6 q6
      exact pc_ret q6
    · unfold qf_X13_kindText
      refine pc_if (fun _ => ?_) (fun z => absurd s0 z)
      refine pc_xl ?_; intro v2 e2
      rw [oq_mul_eq (by omega) (by omega) (by omega)] at e2
      refine pc_add (by omega) ?_; intro v3 e3
      refine pc_rA ?_; intro _ _ v4 e4
      rw [show v3 = 12 * (k : Int) + j by omega, f1] at e4
      refine pc_add (by omega) ?_; intro v5 e5
      rw [show v5 = ((fa_S (Bf k) (nf k) j + 1 : Nat) : Int) by omega]
      refine pc_sv (vq_rbyte S hk (by omega)) ?_; intro u7 q7
      exact pc_ret q7
  · unfold mb_S at hj
    rw [if_neg s0] at hj
    have gm := G.2.2.2 j hj
    have g0 := G.2.2.1
    have g1 := gm.2.2.2.1
    have f1 := (M1 j hj).1
    unfold nt_S kt_S
    rw [if_neg s0, if_neg s0]
    constructor
    · unfold qf_X13_nameText
      refine pc_if (fun z => absurd z s0) (fun _ => ?_)
      refine pc_xl ?_; intro v8 e8
      rw [oq_mul_eq (by omega) (by omega) (by omega)] at e8
      refine pc_add (by omega) ?_; intro v9 e9
      refine pc_rA ?_; intro _ _ v10 e10
      rw [show v9 = 12 * (k : Int) + j by omega, f1] at e10
      refine pc_add (by omega) ?_; intro v11 e11
      rw [show v11 = ((ma_S (Bf k) (nf k) j + 1 : Nat) : Int) by omega]
      refine pc_sv (vq_rbyte S hk (by omega)) ?_; intro u6 q6
      exact pc_ret q6
    · unfold qf_X13_kindText
      refine pc_if (fun z => absurd z s0) (fun _ => ?_)
      refine pc_xl ?_; intro v8 e8
      rw [oq_mul_eq (by omega) (by omega) (by omega)] at e8
      refine pc_add (by omega) ?_; intro v9 e9
      refine pc_rA ?_; intro _ _ v10 e10
      rw [show v9 = 12 * (k : Int) + j by omega, f1] at e10
      refine pc_add (by omega) ?_; intro v11 e11
      rw [show v11 = ((ma_S (Bf k) (nf k) j + 2 : Nat) : Int) by omega]
      refine pc_sv (vq_rbyte S hk (by omega)) ?_; intro u6 q6
      exact pc_ret q6
end

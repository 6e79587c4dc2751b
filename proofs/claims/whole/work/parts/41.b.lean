/- NAMES OF BOTH SIDES: the classes of the space -/
section
variable {nn : Nat} {M M2 : ms_M} {b b2 : Nat} {B C : Nat → Int} {n n2 : Nat} {f : Nat → Int} {m : Nat} {c : Int}
/-- the reference's tables of class c -/
def TBr (c : Int) (n : Nat) (B : Nat → Int) (M : ms_M) : Prop := (M 227 c.toNat = (n : Int) ∧ n ≤ 6000 ∧ (∀ i, i < n → M 226 (6000 * c.toNat + i) = B i) ∧ (∀ i, i < n → 0 ≤ B i ∧ B i ≤ 255)) ∧ (M 229 c.toNat = B 2 ∧ (0 ≤ B 2 ∧ B 2 ≤ 255) ∧ (∀ k : Int, 1 ≤ k → k ≤ B 2 → M 228 (256 * c + k).toNat = (pl_S B n k : Int)) ∧ ∀ k : Int, 1 ≤ k → k ≤ B 2 → KVs B n k) ∧ ∃ p q, kk_S B n = .inr p ∧ (by_S B n (pc_S B n) p = .inr (p + 1) ∧ by_S B n (pc_S B n) (p + 1) = .inr (p + 2) ∧ fs_S B n (p + 2) = .inr q ∧ mm_S B n q = .inr n) ∧ (M 230 c.toNat = B p ∧ M 231 c.toNat = B (p + 1)) ∧ (M 232 c.toNat = B (p + 2) ∧ FAt c (p + 3) (B (p + 2)) M) ∧ (M 234 c.toNat = B q ∧ ∀ i : Nat, (i : Int) < B q → ∃ x y h f, mq_S B n (q + 1) i = some x ∧ MPl B n x h f y ∧ M 235 (12 * c + i).toNat = (x : Int) ∧ M 236 (12 * c + i).toNat = (h : Int) ∧ M 237 (12 * c + i).toNat = (f : Int))
/-- the TEXT of its own name, of the one above; where the name's bytes are, how many -/
def own_S (B : Nat → Int) (n : Nat) : Int := match kk_S B n with
  | .inr p => pt_S B n (B p) 0
  | .inl _ => 0
def nu_S (B : Nat → Int) (n : Nat) : Int := match kk_S B n with
  | .inr p => pt_S B n (B (p + 1)) 0
  | .inl _ => 0
def na_S (B : Nat → Int) (n : Nat) (k : Int) : Nat := pl_S B n k + 2
/-- the text f is that of constant k -/
def UNm (f : Nat → Int) (m : Nat) (B : Nat → Int) (n : Nat) (k : Int) : Prop := m = tl_S B n k ∧ ∀ i, i < m → f i = B (na_S B n k + i)
/-- constants were checked -/
theorem kk_ck {p : Nat} (zk : kk_S B n = .inr p) (h2 : 0 ≤ B 2) {k : Int} (h : 1 ≤ k ∧ k ≤ B 2) : ck_S B n k = none := by
  unfold kk_S at zk
  obtain ⟨x, -, zk⟩ := bd_inr zk
  cases z : cks_S B n (B 2).toNat 1 with
  | some e => rw [z] at zk; cases zk
  | none => exact csa_S _ _ z k h.1 (by omega)
/-- a class that is no array has a name: its text -/
theorem pc_tx {p x : Nat} {k : Int} (zk : kk_S B n = .inr x) (h2 : 0 ≤ B 2) (h : pc_S B n k = true) : tg_S B n (pt_S B n k 0) = 1 ∧ nm_S B n (pt_S B n k 0) = true := by
  unfold pc_S cl_S at h
  rw [Bool.and_eq_true, decide_eq_true_iff, Bool.not_eq_true'] at h
  have w := tg_in (B := B) (n := n) (k := k) (by omega)
  have ck := kk_ck zk h2 ⟨w.1, w.2.1⟩
  refine ⟨ck_cl ck h.1, ?_⟩
  unfold ck_S at ck
  rw [if_pos h.1] at ck
  by_cases y : (nm_S B n (pt_S B n k 0) || (ar_S B n (pt_S B n k 0) && fk_S B n (pt_S B n k 0))) = true
  · rw [h.2, Bool.false_and, Bool.or_false] at y; exact y
  · rw [if_neg y] at ck; cases ck
theorem c_same (I : sr_I M b B n) (J : sr_I M b2 C n2) {p s p2 s2 : Nat} (h1 : p ≤ s ∧ s ≤ n) (h2 : p2 ≤ s2 ∧ s2 ≤ n2) : Pc (qf_X3_sameBytes nn b (p : Int) (s : Int) b2 (p2 : Int) (s2 : Int) M) (fun u => (u = 1 ∧ (s - p = s2 - p2 ∧ ∀ i, i < s - p → B (p + i) = C (p2 + i))) ∨ (u = 0 ∧ ¬ (s - p = s2 - p2 ∧ ∀ i, i < s - p → B (p + i) = C (p2 + i)))) := by
  have n6 := I.2.1
  have n7 := J.2.1
  have lz : ∀ k j, Pc (qw_X3_sameBytes_47 nn k b (p : Int) (s : Int) b2 (p2 : Int) 0 j M) (fun u => u = 0) := fun k j => by
    cases k with
    | zero => exact pc_none
    | succ k =>
      unfold qw_X3_sameBytes_47
      exact pc_xl (fun _ _ => pc_if (fun _ => pc_ck (fun _ => pc_ret rfl)) (fun _ => pc_if (fun _ => pc_ck (fun _ => pc_ret rfl)) (fun z => absurd rfl z)))
  have l1 : s - p = s2 - p2 → ∀ (k j : Nat), j ≤ s - p → (∀ i, i < j → B (p + i) = C (p2 + i)) → Pc (qw_X3_sameBytes_47 nn k b (p : Int) (s : Int) b2 (p2 : Int) 1 (j : Int) M) (fun u => (u = 1 ∧ ∀ i, i < s - p → B (p + i) = C (p2 + i)) ∨ (u = 0 ∧ ¬ ∀ i, i < s - p → B (p + i) = C (p2 + i))) := by
    intro el k
    induction k with
    | zero => intros; exact pc_none
    | succ k ih =>
      intro j hj hg
      unfold qw_X3_sameBytes_47
      refine pc_sub (by omega) ?_; intro v1 e1
      refine pc_if (fun z => pc_ck (fun _ => pc_ret (.inl ⟨rfl, fun i hi => hg i (by omega)⟩))) (fun z => pc_if (fun z2 => absurd z2 (by decide)) (fun _ => ?_))
      refine pc_ck (fun _ => pc_add (by omega) ?_); intro v5 e5
      refine pc_rT (fun v6 e6 => pc_ck (fun _ => pc_ck (fun _ => pc_add (by omega) ?_))); intro v8 e8
      refine pc_rT (fun v9 e9 => ?_)
      have r1 := I.2.2.2.2.2.2.2 (p + j) (by omega)
      have r2 := J.2.2.2.2.2.2.2 (p2 + j) (by omega)
      have e6 : v6 = M (M b 0).toNat (p + j) := by rw [e6, show v5.toNat = p + j by omega]
      have e9 : v9 = M (M b2 0).toNat (p2 + j) := by rw [e9, show v8.toNat = p2 + j by omega]
      rw [← e6] at r1
      rw [← e9] at r2
      refine pc_if (fun y => ?_) (fun y => ?_)
      · refine pc_xl (fun v10 _ => pc_imp (lz _ _) (fun u q => .inr ⟨q, fun x => ?_⟩))
        have := x j (by omega)
        omega
      · refine pc_add (by omega) ?_; intro v11 e11
        rw [show v11 = ((j + 1 : Nat) : Int) by omega]
        refine ih (j + 1) (by omega) (fun i hi => ?_)
        by_cases qi : i = j
        · rw [qi]; omega
        · exact hg i (by omega)
  unfold qf_X3_sameBytes
  refine pc_sub (by omega) ?_; intro v15 e15
  refine pc_sub (by omega) ?_; intro v16 e16
  rw [I.2.2.1, J.2.2.1]
  refine pc_if (fun z => ?_) (fun z => pc_if (fun z1 => absurd z1 (by omega)) (fun _ => pc_if (fun z2 => absurd z2 (by omega)) (fun _ => pc_if (fun z3 => absurd z3 (by omega)) (fun _ => pc_ck (fun _ => pc_if (fun z4 => absurd z4 (by omega)) (fun _ => ?_))))))
  · unfold qj_X3_sameBytes_41
    exact pc_imp (lz _ _) (fun u q => .inr ⟨q, fun y => z (by have := y.1; omega)⟩)
  · have el : s - p = s2 - p2 := by omega
    refine pc_imp (l1 el nn 0 (Nat.zero_le _) (fun i hi => absurd hi (Nat.not_lt_zero i))) (fun u q => ?_)
    rcases q with ⟨q1, q2⟩ | ⟨q1, q2⟩
    · exact .inl ⟨q1, el, q2⟩
    · exact .inr ⟨q1, fun y => q2 y.2⟩
/-- the text of constant k, of the class's side -/
theorem c_text (T : TTc b n B M) {k : Int} (q : tg_S B n k = 1) : qf_X3_textAt nn b k M = some ((na_S B n k : Nat) : Int) ∧ qf_X3_textEnd nn b k M = some ((na_S B n k + tl_S B n k : Nat) : Int) ∧ na_S B n k + tl_S B n k ≤ n := by
  obtain ⟨x, y, z⟩ := c_tx T q
  have hc : M b 7 ≤ 255 := x.1.2.2
  unfold na_S
  refine ⟨?_, ?_, z⟩
  · rw [textAt_ok hc, if_pos ⟨x.1.1, x.1.2.1⟩, x.2.2.1]
  · rw [textEnd_ok hc, if_pos ⟨x.1.1, x.1.2.1⟩, x.2.2.2]
/-- the classes of the space, on both sides: bytes Bf k, nf k of them -/
def SPf (Bf : Nat → Nat → Int) (nf : Nat → Nat) (M : ms_M) : Prop := ∀ k : Nat, (k : Int) < M 56 3 → IMc (M 60 k).toNat (nf k) (Bf k) M ∧ TBr (k : Int) (nf k) (Bf k) M
/-- what the class's lookup gives -/
def CLo (Bf : Nat → Nat → Int) (nf : Nat → Nat) (cnt : Int) (f : Nat → Int) (m : Nat) (u : Int) : Prop := (∃ k : Nat, (k : Int) < cnt ∧ u = 8 + (k : Int) ∧ UNm f m (Bf k) (nf k) (own_S (Bf k) (nf k)) ∧ ∀ j : Nat, j < k → ¬ UNm f m (Bf j) (nf j) (own_S (Bf j) (nf j))) ∨ (QBi f m u ∧ ∀ j : Nat, (j : Int) < cnt → ¬ UNm f m (Bf j) (nf j) (own_S (Bf j) (nf j)))
/-- what the reference's lookup gives -/
def CNo (Bf : Nat → Nat → Int) (nf : Nat → Nat) (cnt : Int) (f : Nat → Int) (m : Nat) (u : Int) : Prop := (∃ k : Nat, k < 8 ∧ u = (k : Int) ∧ KNm f m k) ∨ ((∀ k : Nat, k < 8 → ¬ KNm f m k) ∧ ((∃ k : Nat, (k : Int) < cnt ∧ u = 8 + (k : Int) ∧ UNm f m (Bf k) (nf k) (own_S (Bf k) (nf k)) ∧ ∀ j : Nat, j < k → ¬ UNm f m (Bf j) (nf j) (own_S (Bf j) (nf j))) ∨ (u = -1 ∧ ∀ j : Nat, (j : Int) < cnt → ¬ UNm f m (Bf j) (nf j) (own_S (Bf j) (nf j)))))
/-- no class of the space has a known name -/
def NKn (Bf : Nat → Nat → Int) (nf : Nat → Nat) (cnt : Int) : Prop := ∀ j : Nat, (j : Int) < cnt → ∀ k : Nat, k < 8 → ¬ KNm (fun i => Bf j (na_S (Bf j) (nf j) (own_S (Bf j) (nf j)) + i)) (tl_S (Bf j) (nf j) (own_S (Bf j) (nf j))) k
theorem kn_un {k : Nat} {t : Int} (a : KNm f m k) (e : UNm f m B n t) : KNm (fun i => B (na_S B n t + i)) (tl_S B n t) k := by
  refine ⟨by rw [← e.1]; exact a.1, fun i hi => ?_⟩
  have := e.2 i (by rw [e.1]; exact hi)
  dsimp only; rw [← this]; exact a.2 i (by rw [e.1]; exact hi)
theorem cl_cn {Bf : Nat → Nat → Int} {nf : Nat → Nat} {cnt u v : Int} (N : NKn Bf nf cnt) (a : CLo Bf nf cnt f m u) (e : CNo Bf nf cnt f m v) : u = v := by
  rcases a with ⟨k, k1, rfl, k2, k3⟩ | ⟨q, k1⟩
  · rcases e with ⟨d, d8, rfl, d2⟩ | ⟨d1, ⟨j, j1, rfl, j2, j3⟩ | ⟨rfl, j2⟩⟩
    · exact absurd (kn_un d2 k2) (N k k1 d d8)
    · rcases Nat.lt_trichotomy k j with lt | rfl | gt
      · exact absurd k2 (j3 k lt)
      · rfl
      · exact absurd j2 (k3 j gt)
    · exact absurd k2 (j2 k k1)
  · rcases e with ⟨d, d8, rfl, d2⟩ | ⟨d1, ⟨j, j1, rfl, j2, j3⟩ | ⟨rfl, j2⟩⟩
    · rcases q with ⟨x, x8, rfl, x2⟩ | ⟨rfl, x2⟩
      · rw [kn_eq x8 d8 x2 d2]
      · exact absurd d2 (x2 d d8)
    · exact absurd j2 (k1 j j1)
    · rcases q with ⟨x, x8, rfl, x2⟩ | ⟨rfl, x2⟩
      · exact absurd x2 (d1 x x8)
      · rfl
/-- its own name: what IMc tells -/
theorem im_no (X : IMc b n B M) : tg_S B n (own_S B n) = 1 ∧ M b 8 = own_S B n ∧ tg_S B n (nu_S B n) = 1 ∧ M b 9 = nu_S B n ∧ nm_S B n (own_S B n) = true := by
  obtain ⟨T, p, q, zk, ⟨y1, y2, -, -⟩, ⟨e8, e9⟩, -⟩ := X
  have a1 := (by_le y1).2.2
  have a2 := (by_le y2).2.2
  have h2 := T.2.2.1.1
  have n1 : own_S B n = pt_S B n (B p) 0 := by unfold own_S; rw [zk]
  have n2 : nu_S B n = pt_S B n (B (p + 1)) 0 := by unfold nu_S; rw [zk]
  have w1 := pc_tx (p := p) zk h2 a1
  have w2 := pc_tx (p := p) zk h2 a2
  rw [n1, n2]
  exact ⟨w1.1, e8, w2.1, e9, w1.2⟩
theorem un_eq {p s : Nat} (hp : p ≤ s) {k : Int} : (na_S B n k + tl_S B n k - na_S B n k = s - p ∧ ∀ i, i < na_S B n k + tl_S B n k - na_S B n k → B (na_S B n k + i) = C (p + i)) ↔ UNm (fun i => C (p + i)) (s - p) B n k := by
  have e : na_S B n k + tl_S B n k - na_S B n k = tl_S B n k := by omega
  rw [e]
  refine ⟨fun z => ⟨z.1.symm, fun i hi => (z.2 i (by omega)).symm⟩, fun z => ⟨z.1.symm, fun i hi => (z.2 i (by have := z.1; omega)).symm⟩⟩
/-- THE CLASS'S LOOKUP -/
theorem c_classOf {Bf : Nat → Nat → Int} {nf : Nat → Nat} (S : ∀ k : Nat, (k : Int) < M 56 3 → IMc (M 60 k).toNat (nf k) (Bf k) M) (g3 : 0 ≤ M 56 3 ∧ M 56 3 ≤ 8) (J : sr_I M b2 C n2) {p s : Nat} (hp : p ≤ s ∧ s ≤ n2) : ∀ (f k : Nat), (∀ j : Nat, j < k → ¬ UNm (fun i => C (p + i)) (s - p) (Bf j) (nf j) (own_S (Bf j) (nf j))) → (k : Int) ≤ M 56 3 → Pc (qw_X7_classOf_3 nn f b2 (p : Int) (s : Int) (k : Int) M) (CLo Bf nf (M 56 3) (fun i => C (p + i)) (s - p)) := by
  intro f
  induction f with
  | zero => intros; exact pc_none
  | succ f ih =>
    intro k hk hl
    unfold qw_X7_classOf_3
    refine pc_if (fun z => pc_ck (fun _ => ?_)) (fun z => ?_)
    · refine pc_sv (c_builtIn J hp.1 hp.2) ?_; intro u3 q3
      exact pc_ret (.inr ⟨q3, fun j hj => hk j (by omega)⟩)
    · have X := S k (by omega)
      obtain ⟨t1, e8, -⟩ := im_no X
      obtain ⟨a1, a2, a3⟩ := c_text (nn := nn) X.1 t1
      refine pc_rA ?_; intro i1 i2 v5 e5
      rw [Int.toNat_natCast] at e5
      refine pc_ck (fun _ => pc_ck (fun _ => pc_rA (fun _ _ v9 e9 => pc_rA (fun _ _ v11 e11 => pc_ck (fun _ => pc_ck (fun _ => ?_))))))
      rw [Int.toNat_natCast] at e9 e11
      rw [e5, e11, e8, a1, mx_svs]
      refine pc_rA (fun _ _ v16 e16 => pc_ck (fun _ => pc_ck (fun _ => ?_)))
      rw [Int.toNat_natCast] at e16
      rw [e16, a2, mx_svs, e9]
      refine pc_ck (fun _ => pc_ck (fun _ => ?_))
      refine pc_sv (c_same X.1.1 J ⟨by omega, a3⟩ hp) ?_; intro u22 q22
      rw [un_eq hp.1] at q22
      refine pc_if (fun y => ?_) (fun y => ?_)
      · refine pc_add (by omega) ?_; intro v23 e23
        rw [show v23 = ((k + 1 : Nat) : Int) by omega]
        refine ih (k + 1) (fun j hj => ?_) (by omega)
        by_cases qj : j = k
        · rw [qj]
          rcases q22 with ⟨q1, -⟩ | ⟨-, q2⟩
          · omega
          · exact q2
        · exact hk j (by omega)
      · refine pc_add (by omega) ?_; intro v24 e24
        refine pc_ret (.inl ⟨k, by omega, e24, ?_, hk⟩)
        rcases q22 with ⟨-, q2⟩ | ⟨q1, -⟩
        · exact q2
        · exact absurd q1 y
/- the reference's -/
theorem n_184 {x : Nat} {a : Int} (R : RWt M x a m f) {o : Nat} (ho : o + 1 + m ≤ 100000) : ∀ (k : Nat) (l6 : Int) (j : Nat), j ≤ m → ((l6 = 1 ∧ ∀ i, i < j → f i = M 226 (o + 1 + i)) ∨ (l6 = 0 ∧ ¬ ∀ i, i < m → f i = M 226 (o + 1 + i))) → Pc (qw_X13_isNamed_184 nn k x a (m : Int) (o : Int) l6 (j : Int) M) (fun u => (u = 1 ∧ ∀ i, i < m → f i = M 226 (o + 1 + i)) ∨ (u = 0 ∧ ¬ ∀ i, i < m → f i = M 226 (o + 1 + i))) := by
  intro k
  induction k with
  | zero => intros; exact pc_none
  | succ k ih =>
    intro l7 j hj hl
    unfold qw_X13_isNamed_184
    refine pc_if (fun z => pc_ck (fun _ => pc_ret ?_)) (fun z => pc_if (fun z2 => pc_ck (fun _ => pc_ret ?_)) (fun z2 => ?_))
    · rcases hl with ⟨e, g⟩ | ⟨e, g⟩
      · exact .inl ⟨e, fun i hi => g i (by omega)⟩
      · exact .inr ⟨e, g⟩
    · rcases hl with ⟨e, g⟩ | ⟨e, g⟩
      · omega
      · exact .inr ⟨e, g⟩
    · rcases hl with ⟨e, g⟩ | ⟨e, g⟩
      · refine pc_add (by omega) ?_; intro v4 e4
        refine pc_add (by omega) ?_; intro v5 e5
        refine pc_rA ?_; intro i1 i2 v6 e6
        rw [show v5.toNat = o + 1 + j by omega] at e6
        refine pc_add (by have := R.1; have := R.2.1; have := R.2.2.1; omega) ?_; intro v7 e7
        refine pc_rS (fun v8 e8 => ?_)
        have e8 : v8 = f j := by
          rw [e8, show v7.toNat = a.toNat + j by have := R.1; omega]; exact R.2.2.2 j (by omega)
        refine pc_if (fun y => ?_) (fun y => ?_)
        · refine pc_add (by have := R.2.2.1; omega) ?_; intro v21 e21
          rw [show v21 = ((j + 1 : Nat) : Int) by omega]
          exact ih 0 (j + 1) (by omega) (.inr ⟨rfl, fun x => y (by have := x j (by omega); omega)⟩)
        · refine pc_add (by have := R.2.2.1; omega) ?_; intro v21 e21
          rw [show v21 = ((j + 1 : Nat) : Int) by omega]
          refine ih 1 (j + 1) (by omega) (.inl ⟨rfl, fun i hi => ?_⟩)
          by_cases qi : i = j
          · rw [qi]; omega
          · exact g i (by omega)
      · omega
theorem n_184z {x : Nat} {a l4 l5 : Int} {k : Nat} {l7 : Int} : Pc (qw_X13_isNamed_184 nn k x a l4 l5 0 l7 M) (fun u => u = 0) := by
  cases k with
  | zero => exact pc_none
  | succ k =>
    unfold qw_X13_isNamed_184
    exact pc_if (fun _ => pc_ck (fun _ => pc_ret rfl)) (fun _ => pc_if (fun _ => pc_ck (fun _ => pc_ret rfl)) (fun z => absurd rfl z))
/-- what TBr tells of the own name -/
theorem tb_no (X : TBr c n B M) : ∃ p, kk_S B n = .inr p ∧ (p < n ∧ p + 1 < n) ∧ M 230 c.toNat = B p ∧ M 231 c.toNat = B (p + 1) ∧ (1 ≤ B p ∧ B p ≤ 255 ∧ B p ≤ B 2) ∧ (1 ≤ B (p + 1) ∧ B (p + 1) ≤ 255 ∧ B (p + 1) ≤ B 2) ∧ own_S B n = pt_S B n (B p) 0 ∧ nu_S B n = pt_S B n (B (p + 1)) 0 ∧ tg_S B n (B p) = 3 ∧ tg_S B n (B (p + 1)) = 3 ∧ tg_S B n (own_S B n) = 1 ∧ tg_S B n (nu_S B n) = 1 ∧ nm_S B n (own_S B n) = true := by
  obtain ⟨-, ⟨x1, x2, x3, x4⟩, p, q, zk, ⟨y1, y2, -, -⟩, ⟨e8, e9⟩, -⟩ := X
  have a1 := by_le y1
  have a2 := by_le y2
  have n1 : own_S B n = pt_S B n (B p) 0 := by unfold own_S; rw [zk]
  have n2 : nu_S B n = pt_S B n (B (p + 1)) 0 := by unfold nu_S; rw [zk]
  have w1 := pc_tx (p := p) zk x2.1 a1.2.2
  have w2 := pc_tx (p := p) zk x2.1 a2.2.2
  have c1 : tg_S B n (B p) = 3 := by
    have z := a1.2.2; unfold pc_S cl_S at z; rw [Bool.and_eq_true, decide_eq_true_iff] at z; exact z.1
  have c2 : tg_S B n (B (p + 1)) = 3 := by
    have z := a2.2.2; unfold pc_S cl_S at z; rw [Bool.and_eq_true, decide_eq_true_iff] at z; exact z.1
  have t1 := tg_in (B := B) (n := n) (k := B p) (by omega)
  have t2 := tg_in (B := B) (n := n) (k := B (p + 1)) (by omega)
  rw [n1, n2]
  exact ⟨p, zk, ⟨a1.2.1, a2.2.1⟩, e8, e9, ⟨t1.1, by omega, t1.2.1⟩, ⟨t2.1, by omega, t2.2.1⟩, rfl, rfl, c1, c2, w1.1, w2.1, w1.2⟩
theorem r_nameAt {k : Nat} (hk : k < 8) (X : TBr (k : Int) n B M) : Pc (qf_X13_nameAt nn (8 + (k : Int)) M) (fun u => u = ((6000 * k + pl_S B n (own_S B n) + 1 : Nat) : Int)) := by
  obtain ⟨p, zk, hp, h230, h231, b1, b2, n1, n2, c1, c2, t1, t2, -⟩ := tb_no X
  obtain ⟨⟨s1, s2, s3, s4⟩, ⟨x1, x2, x3, x4⟩, -⟩ := X
  have w1 := x4 (B p) b1.1 b1.2.2
  have tp : B (pl_S B n (B p)) = 3 := by have := tg_in (B := B) (n := n) (k := B p) (by omega); omega
  have v3 := w1.2.2.1 tp
  have no := tg_in (B := B) (n := n) (k := own_S B n) (by omega)
  have w2 := x4 (own_S B n) no.1 no.2.1
  rw [Int.toNat_natCast] at h230 s3
  unfold qf_X13_nameAt
  refine pc_sub (by omega) ?_; intro v1 e1
  have e1 : v1 = (k : Int) := by omega
  rw [e1]
  refine pc_xl ?_; intro v2 e2
  rw [oq_mul_eq (by omega) (by omega) (by omega)] at e2
  refine pc_xl ?_; intro v4 e4
  rw [oq_mul_eq (by omega) (by omega) (by omega)] at e4
  refine pc_rA ?_; intro i1 i2 v6 e6
  rw [Int.toNat_natCast, h230] at e6
  refine pc_add (by omega) ?_; intro v7 e7
  refine pc_rA ?_; intro j1 j2 v8 e8
  have e8 : v8 = (pl_S B n (B p) : Int) := by
    rw [e8, show v7.toNat = (256 * (k : Int) + B p).toNat by omega]; exact x3 (B p) b1.1 b1.2.2
  refine pc_add (by omega) ?_; intro v9 e9
  refine pc_xl ?_; intro v10 e10
  rw [oq_mul_eq (by omega) (by omega) (by omega)] at e10
  refine pc_xl ?_; intro v12 e12
  rw [oq_mul_eq (by omega) (by omega) (by omega)] at e12
  refine pc_add (by omega) ?_; intro v14 e14
  refine pc_rA ?_; intro k1 k2 v15 e15
  have e15 : v15 = own_S B n := by
    rw [e15, show v14.toNat = 6000 * k + (pl_S B n (B p) + 1) by omega, s3 _ (by omega), n1]; rfl
  refine pc_add (by omega) ?_; intro v16 e16
  refine pc_rA ?_; intro l1 l2 v17 e17
  have e17 : v17 = (pl_S B n (own_S B n) : Int) := by
    rw [e17, show v16.toNat = (256 * (k : Int) + own_S B n).toNat by omega]; exact x3 _ no.1 no.2.1
  have := w2.1
  refine pc_add (by omega) ?_; intro v18 e18
  refine pc_add (by omega) ?_; intro v19 e19
  refine pc_ret ?_
  show v19 = _
  omega
theorem r_user {x : Nat} {a : Int} (R : RWt M x a m f) {k : Nat} (hk : k < 8) (X : TBr (k : Int) n B M) : Pc (qf_X13_isNamed nn (8 + (k : Int)) x a (m : Int) M) (fun u => (u = 1 ∧ UNm f m B n (own_S B n)) ∨ (u = 0 ∧ ¬ UNm f m B n (own_S B n))) := by
  obtain ⟨p, zk, hp, h230, h231, b1, b2, n1, n2, c1, c2, t1, t2, -⟩ := tb_no X
  have X0 := X
  obtain ⟨⟨s1, s2, s3, s4⟩, ⟨x1, x2, x3, x4⟩, -⟩ := X
  have no := tg_in (B := B) (n := n) (k := own_S B n) (by omega)
  obtain ⟨w1, w2, -⟩ := x4 (own_S B n) no.1 no.2.1
  have w2 := w2 (by omega)
  rw [Int.toNat_natCast] at s3
  have m255 := R.2.2.1
  unfold qf_X13_isNamed
  refine pc_if (fun _ => ?_) (fun z => absurd (by omega) z)
  refine pc_sv (r_nameAt hk X0) ?_; intro u44 q44
  rw [q44]
  refine pc_rA ?_; intro i1 i2 v46 e46
  have e46 : v46 = (tl_S B n (own_S B n) : Int) := by
    rw [e46, Int.toNat_natCast, show 6000 * k + pl_S B n (own_S B n) + 1 = 6000 * k + (pl_S B n (own_S B n) + 1) by omega, s3 _ (by omega)]; exact w2.2.2.2
  have key : m = tl_S B n (own_S B n) → ((∀ i, i < m → f i = M 226 (6000 * k + pl_S B n (own_S B n) + 1 + 1 + i)) ↔ UNm f m B n (own_S B n)) := fun em => by
    have r : ∀ i, i < m → M 226 (6000 * k + pl_S B n (own_S B n) + 1 + 1 + i) = B (na_S B n (own_S B n) + i) := fun i hi => by
      rw [show 6000 * k + pl_S B n (own_S B n) + 1 + 1 + i = 6000 * k + (na_S B n (own_S B n) + i) by unfold na_S; omega]
      exact s3 _ (by unfold na_S; omega)
    exact ⟨fun z => ⟨em, fun i hi => by rw [z i hi]; exact r i hi⟩, fun z i hi => by rw [z.2 i hi]; exact (r i hi).symm⟩
  refine pc_if (fun y => ?_) (fun y => ?_)
  · exact pc_imp n_184z (fun u q => .inr ⟨q, fun z => y (by rw [e46, ← z.1])⟩)
  · have em : m = tl_S B n (own_S B n) := by omega
    refine pc_imp (n_184 R (o := 6000 * k + pl_S B n (own_S B n) + 1) (by omega) nn 1 0 (Nat.zero_le _) (.inl ⟨rfl, fun i hi => absurd hi (Nat.not_lt_zero i)⟩)) (fun u q => ?_)
    rw [key em] at q
    exact q
/-- THE REFERENCE'S LOOKUP -/
theorem r_classNamed {Bf : Nat → Nat → Int} {nf : Nat → Nat} (S : ∀ k : Nat, (k : Int) < M 160 98 → TBr (k : Int) (nf k) (Bf k) M) (h98 : 0 ≤ M 160 98 ∧ M 160 98 ≤ 8) {x : Nat} {a : Int} (R : RWt M x a m f) (hf : ∀ i, i < m → ¬ f i = 32) : ∀ (fu k : Nat), (∀ j : Nat, j < 8 → j < k → ¬ KNm f m j) → (∀ j : Nat, 8 + j < k → ¬ UNm f m (Bf j) (nf j) (own_S (Bf j) (nf j))) → (k : Int) ≤ 8 + M 160 98 → Pc (qw_X13_classNamed_3 nn fu x a (m : Int) (k : Int) M) (CNo Bf nf (M 160 98) f m) := by
  intro fu
  induction fu with
  | zero => intros; exact pc_none
  | succ fu ih =>
    intro k h1 h2 h3
    unfold qw_X13_classNamed_3
    refine pc_add (by omega) ?_; intro v2 e2
    refine pc_if (fun z => pc_ret (.inr ⟨fun j hj => h1 j hj (by omega), .inr ⟨rfl, fun j hj => h2 j (by omega)⟩⟩)) (fun z => ?_)
    by_cases k8 : k < 8
    · refine pc_sv (r_known R hf k8) ?_; intro u4 q4
      refine pc_if (fun y => ?_) (fun y => pc_ret (.inl ⟨k, k8, rfl, ?_⟩))
      · refine pc_add (by omega) ?_; intro v5 e5
        rw [show v5 = ((k + 1 : Nat) : Int) by omega]
        refine ih (k + 1) (fun j j8 jk => ?_) (fun j jk => h2 j (by omega)) (by omega)
        by_cases qj : j = k
        · rw [qj]
          rcases q4 with ⟨q1, -⟩ | ⟨-, q2⟩
          · omega
          · exact q2
        · exact h1 j j8 (by omega)
      · rcases q4 with ⟨-, q2⟩ | ⟨q1, -⟩
        · exact q2
        · exact absurd q1 y
    · obtain ⟨d, hd⟩ : ∃ d : Nat, k = 8 + d := ⟨k - 8, by omega⟩
      have X := S d (by omega)
      have ek : (k : Int) = 8 + (d : Int) := by omega
      rw [ek]
      refine pc_sv (r_user R (by omega) X) ?_; intro u4 q4
      refine pc_if (fun y => ?_) (fun y => pc_ret (.inr ⟨fun j hj => h1 j hj (by omega), .inl ⟨d, by omega, rfl, ?_, fun j hj => h2 j (by omega)⟩⟩))
      · refine pc_add (by omega) ?_; intro v5 e5
        rw [show v5 = ((k + 1 : Nat) : Int) by omega]
        refine ih (k + 1) (fun j j8 jk => h1 j j8 (by omega)) (fun j jk => ?_) (by omega)
        by_cases qj : j = d
        · rw [qj]
          rcases q4 with ⟨q1, -⟩ | ⟨-, q2⟩
          · omega
          · exact q2
        · exact h2 j (by omega)
      · rcases q4 with ⟨-, q2⟩ | ⟨q1, -⟩
        · exact q2
        · exact absurd q1 y
end

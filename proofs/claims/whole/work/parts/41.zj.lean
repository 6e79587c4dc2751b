/- VERIFY: kinds of the same text have the same types; what a right MEMBER tells -/
/-- all classes of the space are right as far as heads go -/
def HGo (Bf : Nat → Nat → Int) (nf : Nat → Nat) (cnt : Int) : Prop := (0 ≤ cnt ∧ cnt ≤ 8) ∧ ∀ x : Nat, (x : Int) < cnt → GIM (Bf x) (nf x) ∧ HOk Bf nf cnt x ∧ ∃ z : Nat, kk_S (Bf x) (nf x) = .inr z ∧ 0 ≤ Bf x 2
section
variable {Bf : Nat → Nat → Int} {nf : Nat → Nat} {cnt : Int} {B C D : Nat → Int} {n m b d k o i L p q : Nat} {t c a : Int}
theorem unm_f {f g : Nat → Int} {m : Nat} {k : Int} (e : ∀ i : Nat, i < m → f i = g i) : UNm f m B n k ↔ UNm g m B n k := by
  constructor
  · intro ⟨a1, a2⟩; exact ⟨a1, fun i hi => by rw [← e i hi]; exact a2 i hi⟩
  · intro ⟨a1, a2⟩; exact ⟨a1, fun i hi => by rw [e i hi]; exact a2 i hi⟩
theorem knm_f {f g : Nat → Int} {m c : Nat} (e : ∀ i : Nat, i < m → f i = g i) : KNm f m c ↔ KNm g m c := by
  constructor
  · intro ⟨a1, a2⟩; exact ⟨a1, fun i hi => by rw [← e i hi]; exact a2 i hi⟩
  · intro ⟨a1, a2⟩; exact ⟨a1, fun i hi => by rw [e i hi]; exact a2 i hi⟩
theorem clo_f {f g : Nat → Int} {m : Nat} {u : Int} (e : ∀ i : Nat, i < m → f i = g i) (A : CLo Bf nf cnt f m u) : CLo Bf nf cnt g m u := by
  rcases A with ⟨k, k1, k2, k3, k4⟩ | ⟨A, z⟩
  · exact .inl ⟨k, k1, k2, (unm_f e).1 k3, fun j hj w => k4 j hj ((unm_f e).2 w)⟩
  · refine .inr ⟨?_, fun j hj w => z j hj ((unm_f e).2 w)⟩
    rcases A with ⟨c, c1, c2, c3⟩ | ⟨c1, c2⟩
    · exact .inl ⟨c, c1, c2, (knm_f e).1 c3⟩
    · exact .inr ⟨c1, fun c hc w => c2 c hc ((knm_f e).2 w)⟩
theorem lo_f {f g : Nat → Int} {m : Nat} (e : ∀ i : Nat, i < m → f i = g i) : lo_S Bf nf cnt f m = lo_S Bf nf cnt g m := clo_det (clo_f e lo_ok) lo_ok
theorem nmk_e {e e2 M : Nat} (A : NMk B p e) (E : NMk C q e2) (S : ∀ i : Nat, i < M → B (p + i) = C (q + i)) (h1 : e ≤ p + M) (h2 : e2 ≤ q + M) : e - p = e2 - q := by
  obtain ⟨a1, a2, a3⟩ := A
  obtain ⟨b1, b2, b3⟩ := E
  rcases Nat.lt_trichotomy (e - 1 - p) (e2 - 1 - q) with z | z | z
  · exfalso
    have w := nm_59 b3 (e - 1 - p) z
    have w : ¬ C (q + (e - 1 - p)) = 59 := w
    rw [← S (e - 1 - p) (by omega), show p + (e - 1 - p) = e - 1 by omega] at w
    exact w a2
  · omega
  · exfalso
    have w := nm_59 a3 (e2 - 1 - q) z
    have w : ¬ B (p + (e2 - 1 - q)) = 59 := w
    rw [S (e2 - 1 - q) (by omega), show q + (e2 - 1 - q) = e2 - 1 by omega] at w
    exact w b2
theorem kds_l {e : Nat} (A : KDs B p e) : p < e := by
  unfold KDs NMk at A
  omega
theorem kds_e {e e2 M : Nat} (A : KDs B p e) (E : KDs C q e2) (S : ∀ i : Nat, i < M → B (p + i) = C (q + i)) (h1 : e ≤ p + M) (h2 : e2 ≤ q + M) : e - p = e2 - q := by
  have l1 := kds_l A
  have l2 := kds_l E
  have s0 := S 0 (by omega)
  rw [Nat.add_zero, Nat.add_zero] at s0
  have s1 : 2 ≤ M → B (p + 1) = C (q + 1) := fun z => S 1 (by omega)
  rcases A with ⟨a1, a2⟩ | ⟨a1, a2, a3⟩ | ⟨a1, a2, a3⟩ | ⟨a1, a2⟩
  · rcases E with ⟨b1, b2⟩ | ⟨b1, b2, b3⟩ | ⟨b1, b2, b3⟩ | ⟨b1, b2⟩
    · omega
    · omega
    · omega
    · omega
  · rcases E with ⟨b1, b2⟩ | ⟨b1, b2, b3⟩ | ⟨b1, b2, b3⟩ | ⟨b1, b2⟩
    · omega
    · omega
    · have := s1 (by omega)
      omega
    · omega
  · have l3 := a3.1
    rcases E with ⟨b1, b2⟩ | ⟨b1, b2, b3⟩ | ⟨b1, b2, b3⟩ | ⟨b1, b2⟩
    · omega
    · have := s1 (by omega)
      omega
    · have l4 := b3.1
      have := nmk_e (M := M - 2) a3 b3 (fun i hi => by rw [Nat.add_assoc, Nat.add_assoc]; exact S (2 + i) (by omega)) (by omega) (by omega)
      omega
    · omega
  · have l3 := a2.1
    rcases E with ⟨b1, b2⟩ | ⟨b1, b2, b3⟩ | ⟨b1, b2, b3⟩ | ⟨b1, b2⟩
    · omega
    · omega
    · omega
    · have l4 := b2.1
      have := nmk_e (M := M - 1) a2 b2 (fun i hi => by rw [Nat.add_assoc, Nat.add_assoc]; exact S (1 + i) (by omega)) (by omega) (by omega)
      omega
theorem kq_eq {e e2 : Nat} (A : KDs B p e) (x : e2 = q + (e - p)) (S : ∀ i : Nat, i < e - p → B (p + i) = C (q + i)) : kq_F Bf nf cnt B p e = kq_F Bf nf cnt C q e2 := by
  have l1 := kds_l A
  have s0 := S 0 (by omega)
  rw [Nat.add_zero, Nat.add_zero] at s0
  have s1 : 2 ≤ e - p → B (p + 1) = C (q + 1) := fun z => S 1 (by omega)
  unfold kq_F
  rw [← s0]
  by_cases c1 : B p = 73 ∨ B p = 90
  · rw [if_pos c1, if_pos c1]
  · rw [if_neg c1, if_neg c1]
    by_cases c2 : B p = 86
    · rw [if_pos c2, if_pos c2]
    · rw [if_neg c2, if_neg c2]
      by_cases c3 : B p = 91
      · rw [if_pos c3, if_pos c3]
        have l2 : p + 2 ≤ e := by unfold KDs NMk at A; omega
        rw [← s1 (by omega)]
        by_cases c4 : B (p + 1) = 73
        · rw [if_pos c4, if_pos c4]
        · rw [if_neg c4, if_neg c4]
          rw [show e2 - 1 - (q + 2) = e - 1 - (p + 2) by omega]
          rw [lo_f (Bf := Bf) (nf := nf) (cnt := cnt) (f := fun i => B (p + 2 + i)) (g := fun i => C (q + 2 + i)) (m := e - 1 - (p + 2)) (fun i hi => by
            show B (p + 2 + i) = C (q + 2 + i)
            rw [Nat.add_assoc, Nat.add_assoc]; exact S (2 + i) (by omega))]
      · rw [if_neg c3, if_neg c3]
        rw [show e2 - 1 - (q + 1) = e - 1 - (p + 1) by omega]
        exact lo_f (fun i hi => by
          show B (p + 1 + i) = C (q + 1 + i)
          rw [Nat.add_assoc, Nat.add_assoc]; exact S (1 + i) (by omega))
/-- two kinds of methods -/
theorem mkd_e {x y s s2 m m2 : Nat} {ps ps2 : Nat → Nat} (A : MKd B x s m ps) (E : MKd C y s2 m2 ps2) (es : s - x = s2 - y) (S : ∀ i : Nat, i < s - x → B (x + i) = C (y + i)) : m = m2 ∧ ∀ j : Nat, j ≤ m → ps j - x = ps2 j - y := by
  have r1 := mkd_rg A
  have r2 := mkd_rg E
  obtain ⟨⟨a1, a2, a3⟩, A1, A2, A3⟩ := A
  obtain ⟨⟨b1, b2, b3⟩, E1, E2, E3⟩ := E
  have K : ∀ j : Nat, j ≤ m → j ≤ m2 → ps j - x = ps2 j - y := by
    intro j
    induction j with
    | zero => intro _ _; omega
    | succ j ih =>
      intro h1 h2
      have i0 := ih (by omega) (by omega)
      have q1 := r1 j (by omega)
      have q2 := r2 j (by omega)
      have q3 := r1 (j + 1) h1
      have q4 := r2 (j + 1) h2
      have := kds_e (M := s - ps j) (kd_s (A1 j (by omega)).1).1 (kd_s (E1 j (by omega)).1).1 (fun i hi => by
        have := S (ps j - x + i) (by omega)
        rw [show x + (ps j - x + i) = ps j + i by omega, show y + (ps j - x + i) = ps2 j + i by omega] at this
        exact this) (by omega) (by omega)
      have k1 := kds_l (kd_s (A1 j (by omega)).1).1
      have k2 := kds_l (kd_s (E1 j (by omega)).1).1
      omega
  have BB : ∀ j : Nat, j ≤ m → j ≤ m2 → B (ps j) = C (ps2 j) := fun j h1 h2 => by
    have k0 := K j h1 h2
    have q1 := r1 j h1
    have q2 := r2 j h2
    have := S (ps j - x) (by omega)
    rw [show x + (ps j - x) = ps j by omega, show y + (ps j - x) = ps2 j by omega] at this
    exact this
  have em : m = m2 := by
    rcases Nat.lt_trichotomy m m2 with z | z | z
    · exfalso
      have w := BB m (by omega) (by omega)
      exact (E1 m z).2 (by rw [← w]; exact A2.1)
    · exact z
    · exfalso
      have w := BB m2 (by omega) (by omega)
      exact (A1 m2 z).2 (by rw [w]; exact E2.1)
  exact ⟨em, fun j hj => K j hj (by omega)⟩
theorem txq_f {s : Int} (T : TXq (Bf d) (nf d) t (Bf k) (nf k) s) (F : fk_S (Bf d) (nf d) t = true) : fy_F Bf nf cnt d t = fy_F Bf nf cnt k s := by
  unfold fk_S at F
  rw [Bool.and_eq_true] at F
  have K := (kd_s (of_decide_eq_true F.2)).1
  obtain ⟨t1, t2⟩ := T
  unfold fy_F
  refine kq_eq K ?_ (fun i hi => t2 i ?_)
  · show _ = _ + (pl_S (Bf d) (nf d) t + 2 + tl_S (Bf d) (nf d) t - (pl_S (Bf d) (nf d) t + 2))
    omega
  · have hi : i < pl_S (Bf d) (nf d) t + 2 + tl_S (Bf d) (nf d) t - (pl_S (Bf d) (nf d) t + 2) := hi
    omega
theorem txq_m {s : Int} {m1 m2 : Nat} (T : TXq (Bf d) (nf d) t (Bf k) (nf k) s) (F : pi_S (Bf d) (nf d) t = some m1) (G : pi_S (Bf k) (nf k) s = some m2) : pm_S (Bf d) (nf d) t = pm_S (Bf k) (nf k) s ∧ rk_F Bf nf cnt d t = rk_F Bf nf cnt k s ∧ ∀ j : Nat, j < pm_S (Bf d) (nf d) t → pk_F Bf nf cnt d t j = pk_F Bf nf cnt k s j := by
  obtain ⟨e1, -, K1⟩ := ps_ok F
  obtain ⟨e2, -, K2⟩ := ps_ok G
  obtain ⟨t1, t2⟩ := T
  obtain ⟨em, P⟩ := mkd_e K1 K2 (by omega) (fun i hi => t2 i (by omega))
  have r1 := mkd_rg K1
  have r2 := mkd_rg K2
  have SH : ∀ j i : Nat, j ≤ m1 → ps_S (Bf d) (nf d) t j + i < na_S (Bf d) (nf d) t + tl_S (Bf d) (nf d) t → Bf d (ps_S (Bf d) (nf d) t j + i) = Bf k (ps_S (Bf k) (nf k) s j + i) := fun j i hj hi => by
    have p1 := P j hj
    have q1 := r1 j hj
    have q2 := r2 j (by omega)
    have := t2 (ps_S (Bf d) (nf d) t j - na_S (Bf d) (nf d) t + i) (by omega)
    rw [show na_S (Bf d) (nf d) t + (ps_S (Bf d) (nf d) t j - na_S (Bf d) (nf d) t + i) = ps_S (Bf d) (nf d) t j + i by omega, show na_S (Bf k) (nf k) s + (ps_S (Bf d) (nf d) t j - na_S (Bf d) (nf d) t + i) = ps_S (Bf k) (nf k) s j + i by omega] at this
    exact this
  refine ⟨by omega, ?_, fun j hj => ?_⟩
  · unfold rk_F
    rw [e1, e2, ← em]
    have p1 := P m1 (Nat.le_refl _)
    have q1 := r1 m1 (Nat.le_refl _)
    have q2 := r2 m1 (by omega)
    have K3 := K1.2.2.2
    have l3 := kds_l K3
    refine kq_eq K3 (by omega) (fun i hi => ?_)
    have := SH m1 (1 + i) (Nat.le_refl _) (by omega)
    rw [← Nat.add_assoc, ← Nat.add_assoc] at this
    exact this
  · rw [e1] at hj
    unfold pk_F
    have p1 := P j (by omega)
    have p2 := P (j + 1) (by omega)
    have q1 := r1 j (by omega)
    have q2 := r2 j (by omega)
    have q3 := r1 (j + 1) (by omega)
    have q4 := r2 (j + 1) (by omega)
    have K3 := (kd_s (K1.2.1 j hj).1).1
    have l3 := kds_l K3
    exact kq_eq K3 (by omega) (fun i hi => SH j i (by omega) (by omega))
/-- what a right MEMBER tells -/
theorem mbr_t (H : HGo Bf nf cnt) (hk : (k : Int) < cnt) {op : Int} (M : MBr Bf nf cnt k op a) : sk_V (Bf k) (nf k) a = (if 182 ≤ op then 1 else 0) ∧ ((¬ 182 ≤ op ∧ VTq cnt (fy_F Bf nf cnt k (pt_S (Bf k) (nf k) a 2)) ∧ fk_S (Bf k) (nf k) (pt_S (Bf k) (nf k) a 2) = true) ∨ (182 ≤ op ∧ (∃ m : Nat, pi_S (Bf k) (nf k) (pt_S (Bf k) (nf k) a 2) = some m) ∧ (∀ j : Nat, j < pm_S (Bf k) (nf k) (pt_S (Bf k) (nf k) a 2) → VTq cnt (pk_F Bf nf cnt k (pt_S (Bf k) (nf k) a 2) j)) ∧ (rk_F Bf nf cnt k (pt_S (Bf k) (nf k) a 2) = 303 ∨ VTq cnt (rk_F Bf nf cnt k (pt_S (Bf k) (nf k) a 2))))) := by
  obtain ⟨t4, c16, d, j, HF, TX, -⟩ := M
  obtain ⟨Gk, Ok, z, zk, z2⟩ := H.2 k hk
  obtain ⟨t0, t1, t2, KK⟩ := mb_tx zk z2 t4
  have ci := cq_is (Bf := Bf) (nf := nf) H.1 zk z2 t0
  have hc : cq_F Bf nf cnt (Bf k) (nf k) (pt_S (Bf k) (nf k) a 0) = -1 ∨ ISc cnt (cq_F Bf nf cnt (Bf k) (nf k) (pt_S (Bf k) (nf k) a 0)) := by
    rcases ci with c | c
    · exact .inl c
    · rcases c.2 with c | c | c
      · omega
      · exact .inr c.1
      · omega
  obtain ⟨dr, jm⟩ := hfd_is H.1.1 hc HF
  obtain ⟨Gd, Od, -⟩ := H.2 (d - 8).toNat (by omega)
  have KA := Od.1.2.1
  by_cases q : 182 ≤ op
  · rw [if_pos q] at TX jm HF ⊢
    unfold mb_S at jm
    rw [if_neg (by decide)] at jm
    obtain ⟨m1, pi1, -⟩ := (Gd.2.2.2 j jm).2.1
    have ek : kt_S (Bf (d - 8).toNat) (nf (d - 8).toNat) j 1 = Bf (d - 8).toNat (ma_S (Bf (d - 8).toNat) (nf (d - 8).toNat) j + 2) := rfl
    rw [← ek] at pi1
    have K1 := (ps_ok pi1).2.2
    have r1 := mkd_rg K1 0 (Nat.zero_le _)
    have b0 := TX.2 0 (by omega)
    rw [Nat.add_zero, Nat.add_zero, K1.1.1] at b0
    have sk : sk_V (Bf k) (nf k) a = 1 := by unfold sk_V; rw [if_pos b0.symm]
    refine ⟨sk, .inr ⟨q, ?_⟩⟩
    rcases KK with ⟨k0, _⟩ | ⟨_, m2, pi2⟩
    · omega
    obtain ⟨x1, x2, x3⟩ := txq_m (cnt := cnt) TX pi1 pi2
    obtain ⟨e2, -, K2⟩ := ps_ok pi2
    obtain ⟨e1, -, -⟩ := ps_ok pi1
    have KB := KA.2 j jm
    refine ⟨⟨m2, pi2⟩, fun y hy => ?_, ?_⟩
    · have w := x3 y (by omega)
      rw [← w]
      have ks := (K1.2.1 y (by omega))
      have kd := kd_s ks.1
      rcases kq_is (Bf := Bf) (nf := nf) H.1 kd.1 with v | v
      · exact absurd v.1 kd.2.2.2
      · rcases v.2.2.2.2.2 with v | v
        · exact absurd v (KB.1 y (by omega))
        · exact v
    · rw [← x2]
      have KR : ¬ rk_F Bf nf cnt (d - 8).toNat (kt_S (Bf (d - 8).toNat) (nf (d - 8).toNat) j 1) = -1 := KB.2
      have K3 := K1.2.2.2
      rw [← e1] at K3
      rcases kq_is (Bf := Bf) (nf := nf) H.1 K3 with v | v
      · exact .inl v.2
      · rcases v.2.2.2.2.2 with v | v
        · exact absurd v KR
        · exact .inr v
  · rw [if_neg q] at TX jm HF ⊢
    unfold mb_S at jm
    rw [if_pos rfl] at jm
    have F1 := (Gd.2.1 j jm).2.2
    have ek : kt_S (Bf (d - 8).toNat) (nf (d - 8).toNat) j 0 = Bf (d - 8).toNat (fa_S (Bf (d - 8).toNat) (nf (d - 8).toNat) j + 1) := rfl
    rw [← ek] at F1
    have F1' := F1
    unfold fk_S at F1'
    rw [Bool.and_eq_true] at F1'
    have kd := kd_s (of_decide_eq_true F1'.2)
    have l1 := kds_l kd.1
    have b0 := TX.2 0 (by omega)
    rw [Nat.add_zero, Nat.add_zero] at b0
    have b0 : Bf (d - 8).toNat (pl_S (Bf (d - 8).toNat) (nf (d - 8).toNat) (kt_S (Bf (d - 8).toNat) (nf (d - 8).toNat) j 0) + 2) = Bf k (na_S (Bf k) (nf k) (pt_S (Bf k) (nf k) a 2)) := b0
    have n40 : ¬ Bf k (na_S (Bf k) (nf k) (pt_S (Bf k) (nf k) a 2)) = 40 := by
      have K := kd.1
      unfold KDs at K
      omega
    have sk : sk_V (Bf k) (nf k) a = 0 := by unfold sk_V; rw [if_neg n40]
    refine ⟨sk, .inl ⟨q, ?_, ?_⟩⟩
    · rw [← txq_f (cnt := cnt) TX F1]
      have KF : ¬ fy_F Bf nf cnt (d - 8).toNat (kt_S (Bf (d - 8).toNat) (nf (d - 8).toNat) j 0) = -1 := KA.1 j jm
      rcases kq_is (Bf := Bf) (nf := nf) H.1 kd.1 with v | v
      · exact absurd v.1 kd.2.2.2
      · rcases v.2.2.2.2.2 with v | v
        · exact absurd v KF
        · exact v
    · rcases KK with ⟨_, z⟩ | ⟨z, _⟩
      · exact z
      · omega
end

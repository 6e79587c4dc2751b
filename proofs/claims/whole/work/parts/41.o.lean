/- VERIFY: types as functions of the space -/
section
variable {nn : Nat} {Bf : Nat → Nat → Int} {nf : Nat → Nat} {cnt : Int} {B : Nat → Int} {n b k : Nat} {M h g r : ms_M}
theorem le_ast {P : Nat → Prop} : ∀ N : Nat, (∃ k : Nat, k < N ∧ P k) → ∃ k : Nat, k < N ∧ P k ∧ ∀ j : Nat, j < k → ¬ P j := by
  intro N
  induction N with
  | zero => intro ⟨k, hk, _⟩; exact absurd hk (by omega)
  | succ N ih =>
    intro ⟨k, hk, pk⟩
    by_cases q : ∃ k : Nat, k < N ∧ P k
    · obtain ⟨j, j1, j2, j3⟩ := ih q
      exact ⟨j, by omega, j2, j3⟩
    · have e : k = N := Classical.byContradiction fun z => q ⟨k, by omega, pk⟩
      exact ⟨k, hk, pk, fun j hj pj => q ⟨j, by omega, pj⟩⟩
theorem clo_ex (Bf : Nat → Nat → Int) (nf : Nat → Nat) (cnt : Int) (f : Nat → Int) (m : Nat) : ∃ u : Int, CLo Bf nf cnt f m u := by
  by_cases q : ∃ k : Nat, k < cnt.toNat ∧ UNm f m (Bf k) (nf k) (own_S (Bf k) (nf k))
  · obtain ⟨k, k1, k2, k3⟩ := le_ast _ q
    exact ⟨8 + (k : Int), .inl ⟨k, by omega, rfl, k2, k3⟩⟩
  · have z : ∀ j : Nat, (j : Int) < cnt → ¬ UNm f m (Bf j) (nf j) (own_S (Bf j) (nf j)) := fun j hj y => q ⟨j, by omega, y⟩
    by_cases w : ∃ c : Nat, c < 8 ∧ KNm f m c
    · obtain ⟨c, c1, c2⟩ := w
      exact ⟨(c : Int), .inr ⟨.inl ⟨c, c1, rfl, c2⟩, z⟩⟩
    · exact ⟨-1, .inr ⟨.inr ⟨rfl, fun c hc y => w ⟨c, hc, y⟩⟩, z⟩⟩
theorem clo_det {f : Nat → Int} {m : Nat} {u v : Int} (A : CLo Bf nf cnt f m u) (C : CLo Bf nf cnt f m v) : u = v := by
  rcases A with ⟨k, k1, k2, k3, k4⟩ | ⟨A, z⟩
  · rcases C with ⟨j, j1, j2, j3, j4⟩ | ⟨-, w⟩
    · have e : k = j := by
        rcases Nat.lt_trichotomy k j with q | q | q
        · exact absurd k3 (j4 k q)
        · exact q
        · exact absurd j3 (k4 j q)
      omega
    · exact absurd k3 (w k k1)
  · rcases C with ⟨j, j1, j2, j3, j4⟩ | ⟨C, -⟩
    · exact absurd j3 (z j j1)
    · rcases A with ⟨c, c1, c2, c3⟩ | ⟨c2, c3⟩
      · rcases C with ⟨d, d1, d2, d3⟩ | ⟨d2, d3⟩
        · have := kn_eq c1 d1 c3 d3; omega
        · exact absurd c3 (d3 c c1)
      · rcases C with ⟨d, d1, d2, d3⟩ | ⟨d2, d3⟩
        · exact absurd d3 (c3 d d1)
        · omega
end
/-- the class that a name is of, or -1 -/
noncomputable def lo_S (Bf : Nat → Nat → Int) (nf : Nat → Nat) (cnt : Int) (f : Nat → Int) (m : Nat) : Int := Classical.choose (clo_ex Bf nf cnt f m)
/-- the class's type of the kind from p to e, of class constant i; -1: its class is not there -/
noncomputable def kq_F (Bf : Nat → Nat → Int) (nf : Nat → Nat) (cnt : Int) (B : Nat → Int) (p e : Nat) : Int := if B p = 73 ∨ B p = 90 then 301 else if B p = 86 then 303 else if B p = 91 then (if B (p + 1) = 73 then 200 else if lo_S Bf nf cnt (fun i => B (p + 2 + i)) (e - 1 - (p + 2)) = -1 then -1 else 100 + lo_S Bf nf cnt (fun i => B (p + 2 + i)) (e - 1 - (p + 2))) else lo_S Bf nf cnt (fun i => B (p + 1 + i)) (e - 1 - (p + 1))
noncomputable def cq_F (Bf : Nat → Nat → Int) (nf : Nat → Nat) (cnt : Int) (B : Nat → Int) (n : Nat) (i : Int) : Int := if B (na_S B n (pt_S B n i 0)) = 91 then kq_F Bf nf cnt B (na_S B n (pt_S B n i 0)) (na_S B n (pt_S B n i 0) + tl_S B n (pt_S B n i 0)) else lo_S Bf nf cnt (fun j => B (na_S B n (pt_S B n i 0) + j)) (tl_S B n (pt_S B n i 0))
/-- a kind's type, both sides -/
def TKo (x y : Int) : Prop := TYo x y ∨ (x = 303 ∧ y = 0)
section
variable {nn : Nat} {Bf : Nat → Nat → Int} {nf : Nat → Nat} {cnt : Int} {B : Nat → Int} {n b k : Nat} {M h g r : ms_M}
theorem lo_ok {f : Nat → Int} {m : Nat} : CLo Bf nf cnt f m (lo_S Bf nf cnt f m) := Classical.choose_spec (clo_ex Bf nf cnt f m)
theorem lo_e {f : Nat → Int} {m : Nat} {u : Int} (A : CLo Bf nf cnt f m u) : u = lo_S Bf nf cnt f m := clo_det A lo_ok
theorem lo_rg (h8 : cnt ≤ 8) {f : Nat → Int} {m : Nat} : lo_S Bf nf cnt f m = -1 ∨ (0 ≤ lo_S Bf nf cnt f m ∧ lo_S Bf nf cnt f m < 16) := clo_rg h8 lo_ok
theorem kq_ok {p e : Nat} (K : KDs B p e) : KTc Bf nf cnt B p e (kq_F Bf nf cnt B p e) := by
  unfold kq_F
  by_cases c1 : B p = 73 ∨ B p = 90
  · rw [if_pos c1]; exact .inl ⟨c1, rfl⟩
  rw [if_neg c1]
  by_cases c2 : B p = 86
  · rw [if_pos c2]; exact .inr (.inl ⟨c2, rfl⟩)
  rw [if_neg c2]
  by_cases c3 : B p = 91
  · rw [if_pos c3]
    by_cases c4 : B (p + 1) = 73
    · rw [if_pos c4]; exact .inr (.inr (.inl ⟨c3, c4, rfl⟩))
    · rw [if_neg c4]
      have b1 : B (p + 1) = 76 := by unfold KDs at K; omega
      refine .inr (.inr (.inr (.inl ⟨c3, b1, _, lo_ok, ?_⟩)))
      by_cases c5 : lo_S Bf nf cnt (fun i => B (p + 2 + i)) (e - 1 - (p + 2)) = -1
      · rw [if_pos c5]; exact .inl ⟨c5, rfl⟩
      · rw [if_neg c5]; exact .inr ⟨c5, rfl⟩
  · rw [if_neg c3]
    have b0 : B p = 76 := by unfold KDs at K; omega
    exact .inr (.inr (.inr (.inr ⟨b0, lo_ok⟩)))
theorem ktc_det {p e : Nat} {x y : Int} (A : KTc Bf nf cnt B p e x) (C : KTc Bf nf cnt B p e y) : x = y := by
  rcases A with ⟨b1, x1⟩ | ⟨b1, x1⟩ | ⟨b1, b2, x1⟩ | ⟨b1, b2, v, D, x1⟩ | ⟨b1, D⟩
  · rcases C with ⟨c1, y1⟩ | ⟨c1, y1⟩ | ⟨c1, c2, y1⟩ | ⟨c1, c2, w, E, y1⟩ | ⟨c1, E⟩
    · omega
    · omega
    · omega
    · clear E; omega
    · clear E; omega
  · rcases C with ⟨c1, y1⟩ | ⟨c1, y1⟩ | ⟨c1, c2, y1⟩ | ⟨c1, c2, w, E, y1⟩ | ⟨c1, E⟩
    · omega
    · omega
    · omega
    · clear E; omega
    · clear E; omega
  · rcases C with ⟨c1, y1⟩ | ⟨c1, y1⟩ | ⟨c1, c2, y1⟩ | ⟨c1, c2, w, E, y1⟩ | ⟨c1, E⟩
    · omega
    · omega
    · omega
    · clear E; omega
    · clear E; omega
  · rcases C with ⟨c1, y1⟩ | ⟨c1, y1⟩ | ⟨c1, c2, y1⟩ | ⟨c1, c2, w, E, y1⟩ | ⟨c1, E⟩
    · clear D; omega
    · clear D; omega
    · clear D; omega
    · have e1 := clo_det D E; clear D E; omega
    · clear D E; omega
  · rcases C with ⟨c1, y1⟩ | ⟨c1, y1⟩ | ⟨c1, c2, y1⟩ | ⟨c1, c2, w, E, y1⟩ | ⟨c1, E⟩
    · clear D; omega
    · clear D; omega
    · clear D; omega
    · clear D E; omega
    · exact clo_det D E
theorem kq_e {p e : Nat} {x : Int} (K : KDs B p e) (A : KTc Bf nf cnt B p e x) : x = kq_F Bf nf cnt B p e := ktc_det A (kq_ok K)
theorem cq_ok {x : Nat} (zk : kk_S B n = .inr x) (h2 : 0 ≤ B 2) {i : Int} (t3 : tg_S B n i = 3) : CTp Bf nf cnt B n i (cq_F Bf nf cnt B n i) := by
  obtain ⟨-, tx⟩ := cl_tx zk h2 t3
  unfold cq_F
  by_cases c : B (na_S B n (pt_S B n i 0)) = 91
  · rw [if_pos c]
    rcases tx with ⟨-, w⟩ | ⟨-, w⟩
    · exact absurd c w
    · exact .inl ⟨c, kq_ok w⟩
  · rw [if_neg c]; exact .inr ⟨c, lo_ok⟩
theorem cq_e {x : Nat} (zk : kk_S B n = .inr x) (h2 : 0 ≤ B 2) {i y : Int} (t3 : tg_S B n i = 3) (A : CTp Bf nf cnt B n i y) : y = cq_F Bf nf cnt B n i := by
  rcases A with ⟨a1, a2⟩ | ⟨a1, a2⟩
  · rcases cq_ok (Bf := Bf) (nf := nf) (cnt := cnt) zk h2 t3 with ⟨b1, b2⟩ | ⟨b1, b2⟩
    · exact ktc_det a2 b2
    · exact absurd a1 b1
  · rcases cq_ok (Bf := Bf) (nf := nf) (cnt := cnt) zk h2 t3 with ⟨b1, b2⟩ | ⟨b1, b2⟩
    · exact absurd b1 a1
    · exact clo_det a2 b2
/-- what kinds of types there are -/
theorem kq_rg (h8 : cnt ≤ 8) {p e : Nat} (K : KDs B p e) : (B p = 86 ∧ kq_F Bf nf cnt B p e = 303) ∨ ((B p = 73 ∨ B p = 90) ∧ kq_F Bf nf cnt B p e = 301) ∨ (¬ B p = 86 ∧ ¬ B p = 73 ∧ ¬ B p = 90 ∧ (kq_F Bf nf cnt B p e = -1 ∨ kq_F Bf nf cnt B p e = 200 ∨ (0 ≤ kq_F Bf nf cnt B p e ∧ kq_F Bf nf cnt B p e < 16) ∨ (100 ≤ kq_F Bf nf cnt B p e ∧ kq_F Bf nf cnt B p e < 116))) := by
  rcases kq_ok (Bf := Bf) (nf := nf) (cnt := cnt) K with ⟨b1, x1⟩ | ⟨b1, x1⟩ | ⟨b1, b2, x1⟩ | ⟨b1, b2, v, D, x1⟩ | ⟨b1, D⟩
  · omega
  · omega
  · omega
  · have := clo_rg h8 D; clear D; omega
  · have := clo_rg h8 D; clear D; omega
theorem cq_rg (h8 : cnt ≤ 8) {x : Nat} (zk : kk_S B n = .inr x) (h2 : 0 ≤ B 2) {i : Int} (t3 : tg_S B n i = 3) : cq_F Bf nf cnt B n i = -1 ∨ cq_F Bf nf cnt B n i = 200 ∨ (0 ≤ cq_F Bf nf cnt B n i ∧ cq_F Bf nf cnt B n i < 16) ∨ (100 ≤ cq_F Bf nf cnt B n i ∧ cq_F Bf nf cnt B n i < 116) := by
  obtain ⟨-, tx⟩ := cl_tx zk h2 t3
  unfold cq_F
  by_cases c : B (na_S B n (pt_S B n i 0)) = 91
  · rw [if_pos c]
    rcases tx with ⟨-, w⟩ | ⟨-, w⟩
    · exact absurd c w
    · rcases kq_rg (Bf := Bf) (nf := nf) h8 w with z | z | z
      · omega
      · omega
      · exact z.2.2.2
  · rw [if_neg c]
    rcases lo_rg (Bf := Bf) (nf := nf) h8 (f := fun j => B (na_S B n (pt_S B n i 0) + j)) (m := tl_S B n (pt_S B n i 0)) with z | z
    · exact .inl z
    · exact .inr (.inr (.inl z))
theorem kz_zk (S : CSv Bf nf h) (hk : (k : Int) < h 56 3) : ∃ x : Nat, kk_S (Bf k) (nf k) = .inr x ∧ 0 ≤ Bf k 2 ∧ Bf k 2 ≤ 255 := by
  obtain ⟨T, p, q, zk, -⟩ := S.2 k hk
  exact ⟨p, zk, T.2.2.1⟩
theorem kz_rk (S : RSv Bf nf h) (hk : (k : Int) < h 160 98) : ∃ x : Nat, kk_S (Bf k) (nf k) = .inr x ∧ 0 ≤ Bf k 2 ∧ Bf k 2 ≤ 255 := by
  obtain ⟨-, ⟨-, x2, -⟩, p, q, zk, -⟩ := S.2 k hk
  exact ⟨p, zk, x2⟩
/-- types, both sides, as functions -/
theorem vc_kind (S : CSv Bf nf h) (hk : (k : Int) < h 56 3) {p e : Nat} (K : KDs (Bf k) p e) (he : e ≤ nf k) : Pc (qf_X7_typeOfKind nn (h 60 k).toNat (p : Int) (e : Int) h) (fun u => u = kq_F Bf nf (h 56 3) (Bf k) p e) :=
  pc_imp (vq_ckind S.2 S.1 (S.2 k hk).1.1 K he) (fun u z => kq_e K z)
theorem vc_class (S : CSv Bf nf h) (hk : (k : Int) < h 56 3) {i : Int} (t3 : tg_S (Bf k) (nf k) i = 3) : Pc (qf_X7_typeOfClass nn (h 60 k).toNat i h) (fun u => u = cq_F Bf nf (h 56 3) (Bf k) (nf k) i) := by
  obtain ⟨x, zk, h2, -⟩ := kz_zk S hk
  exact pc_imp (vq_cclass S hk t3) (fun u z => cq_e zk h2 t3 z)
theorem vr_kind (N : NKn Bf nf (h 160 98)) (S : RSv Bf nf h) (h7 : 0 ≤ h 160 117) (hk : (k : Int) < h 160 98) {p e : Nat} (K : KDs (Bf k) p e) (he : e ≤ nf k) : Pc (qf_X13_typeAt nn ((6000 * k + p : Nat) : Int) h) (fun u => OTH h u.2 ∧ u.2 160 120 = ((6000 * k + e : Nat) : Int) ∧ TKo (kq_F Bf nf (h 160 98) (Bf k) p e) u.1) := by
  refine pc_imp (vq_rkind S h7 hk K he) (fun u z => ⟨z.1, z.2.1, ?_⟩)
  rcases kt_cr N S.1.2 (kq_ok K) z.2.2 with w | w
  · exact .inr ⟨w.2.1, w.2.2⟩
  · exact .inl w.2.2.1
theorem vr_class (N : NKn Bf nf (h 160 98)) (S : RSv Bf nf h) (h7 : 0 ≤ h 160 117) (hk : (k : Int) < h 160 98) {i : Int} (t3 : tg_S (Bf k) (nf k) i = 3) : Pc (qf_X13_typeOfClass nn (k : Int) i h) (fun u => OTH h u.2 ∧ TYo (cq_F Bf nf (h 160 98) (Bf k) (nf k) i) u.1) := by
  obtain ⟨x, zk, h2, -⟩ := kz_rk S hk
  exact pc_imp (vq_rclass S h7 hk t3) (fun u z => ⟨z.1, (ct_cr N S.1.2 (cq_ok zk h2 t3) z.2).1⟩)
/-- whether a type is there -/
theorem vr_there {x y : Int} (T : TKo x y) : Pc (qf_X13_isThere nn y h) (fun u => (u = 0 ∧ x = -1) ∨ (u = 1 ∧ ¬ x = -1)) := by
  unfold TKo TYo TYj at T
  unfold qf_X13_isThere
  refine pc_if (fun z => pc_ret (.inr ⟨rfl, by omega⟩)) (fun z => ?_)
  refine pc_sub (by omega) ?_; intro v1 e1
  refine pc_xl ?_; intro v2 e2
  rw [Int.tdiv_eq_ediv_of_nonneg (by omega)] at e2
  exact pc_if (fun w => pc_ret (.inl ⟨rfl, by omega⟩)) (fun w => pc_ret (.inr ⟨rfl, by omega⟩))
end

/- PATCH OF BOTH SIDES: is the name another's? -/
section
variable {nn : Nat} {M : ms_M} {b2 : Nat} {B C : Nat → Int} {n n2 : Nat} {f : Nat → Int} {m : Nat}
/-- the name f is known, or that of another class than c -/
def OTh (Bf : Nat → Nat → Int) (nf : Nat → Nat) (cnt : Int) (c : Nat) (f : Nat → Int) (m : Nat) : Prop := (∃ k : Nat, k < 8 ∧ KNm f m k) ∨ ∃ k : Nat, (k : Int) < cnt ∧ k ≠ c ∧ UNm f m (Bf k) (nf k) (own_S (Bf k) (nf k))
theorem c_44 {Bf : Nat → Nat → Int} {nf : Nat → Nat} {c : Nat} (S : ∀ k : Nat, (k : Int) < M 56 3 → k ≠ c → IMc (M 60 k).toNat (nf k) (Bf k) M) (g3 : 0 ≤ M 56 3 ∧ M 56 3 ≤ 8) (X2 : TTc (M 56 2).toNat n2 C M) {t : Int} (ht : tg_S C n2 t = 1) : ∀ (fu k : Nat) (l3 : Int), (k : Int) ≤ M 56 3 → ((l3 = 1 ∧ OTh Bf nf (k : Int) c (fun i => C (na_S C n2 t + i)) (tl_S C n2 t)) ∨ (l3 = 0 ∧ ¬ OTh Bf nf (k : Int) c (fun i => C (na_S C n2 t + i)) (tl_S C n2 t))) → Pc (qw_X7_isNamedAsOther_44 nn fu (8 + (c : Int)) t l3 (k : Int) M) (fun u => (u = 1 ∧ OTh Bf nf (M 56 3) c (fun i => C (na_S C n2 t + i)) (tl_S C n2 t)) ∨ (u = 0 ∧ ¬ OTh Bf nf (M 56 3) c (fun i => C (na_S C n2 t + i)) (tl_S C n2 t))) := by
  have up : ∀ k : Nat, OTh Bf nf (k : Int) c (fun i => C (na_S C n2 t + i)) (tl_S C n2 t) → OTh Bf nf ((k + 1 : Nat) : Int) c (fun i => C (na_S C n2 t + i)) (tl_S C n2 t) := fun k z => by
    rcases z with z | ⟨j, j1, j2, j3⟩
    · exact .inl z
    · exact .inr ⟨j, by omega, j2, j3⟩
  intro fu
  induction fu with
  | zero => intros; exact pc_none
  | succ fu ih =>
    intro k l3 hk hl
    unfold qw_X7_isNamedAsOther_44
    refine pc_if (fun z => pc_ck (fun _ => pc_ret ?_)) (fun z => ?_)
    · rw [show M 56 3 = (k : Int) by omega]; exact hl
    have one : OTh Bf nf ((k + 1 : Nat) : Int) c (fun i => C (na_S C n2 t + i)) (tl_S C n2 t) → Pc (qj_X7_isNamedAsOther_94 nn (qw_X7_isNamedAsOther_44 nn fu) (8 + (c : Int)) t (k : Int) M) (fun u => (u = 1 ∧ OTh Bf nf (M 56 3) c (fun i => C (na_S C n2 t + i)) (tl_S C n2 t)) ∨ (u = 0 ∧ ¬ OTh Bf nf (M 56 3) c (fun i => C (na_S C n2 t + i)) (tl_S C n2 t))) := fun z => by
      unfold qj_X7_isNamedAsOther_94
      refine pc_add (by omega) ?_; intro v2 e2
      rw [show v2 = ((k + 1 : Nat) : Int) by omega]
      exact ih (k + 1) 1 (by omega) (.inl ⟨rfl, z⟩)
    have zero : ¬ OTh Bf nf ((k + 1 : Nat) : Int) c (fun i => C (na_S C n2 t + i)) (tl_S C n2 t) → Pc (qj_X7_isNamedAsOther_98 nn (qw_X7_isNamedAsOther_44 nn fu) (8 + (c : Int)) t (k : Int) M) (fun u => (u = 1 ∧ OTh Bf nf (M 56 3) c (fun i => C (na_S C n2 t + i)) (tl_S C n2 t)) ∨ (u = 0 ∧ ¬ OTh Bf nf (M 56 3) c (fun i => C (na_S C n2 t + i)) (tl_S C n2 t))) := fun z => by
      unfold qj_X7_isNamedAsOther_98
      refine pc_add (by omega) ?_; intro v2 e2
      rw [show v2 = ((k + 1 : Nat) : Int) by omega]
      exact ih (k + 1) 0 (by omega) (.inr ⟨rfl, z⟩)
    refine pc_if (fun y => one ?_) (fun y => ?_)
    · rcases hl with ⟨-, q⟩ | ⟨q, -⟩
      · exact up k q
      · exact absurd q y
    have no : ¬ OTh Bf nf (k : Int) c (fun i => C (na_S C n2 t + i)) (tl_S C n2 t) := by
      rcases hl with ⟨q, -⟩ | ⟨-, q⟩
      · exact absurd q (by have := Decidable.not_not.1 y; omega)
      · exact q
    refine pc_add (by omega) ?_; intro v5 e5
    refine pc_if (fun q => zero ?_) (fun q => ?_)
    · rintro (z1 | ⟨j, j1, j2, j3⟩)
      · exact no (.inl z1)
      · by_cases qj : j = k
        · omega
        · exact no (.inr ⟨j, by omega, j2, j3⟩)
    · have X := S k (by omega) (by omega)
      obtain ⟨t1, e8, -⟩ := im_no X
      obtain ⟨a1, a2, a3⟩ := c_text (nn := nn) X.1 t1
      obtain ⟨b1, b2', b3⟩ := c_text (nn := nn) X2 ht
      refine pc_rA ?_; intro i1 i2 v7 e7
      rw [Int.toNat_natCast] at e7
      refine pc_rA ?_; intro j1 j2 v9 e9
      rw [Int.toNat_natCast] at e9
      refine pc_ck (fun _ => pc_ck (fun _ => pc_ck (fun _ => pc_ck (fun _ => pc_ck (fun _ => ?_)))))
      rw [e7, e9, e8]
      refine pc_sv (P := fun u => (u = 1 ∧ UNm (fun i => C (na_S C n2 t + i)) (tl_S C n2 t) (Bf k) (nf k) (own_S (Bf k) (nf k))) ∨ (u = 0 ∧ ¬ UNm (fun i => C (na_S C n2 t + i)) (tl_S C n2 t) (Bf k) (nf k) (own_S (Bf k) (nf k)))) ?_ ?_
      · unfold qf_X3_sameText
        rw [a1, mx_svs, a2, mx_svs]
        refine pc_ck (fun _ => ?_)
        rw [b1, mx_svs, b2', mx_svs]
        refine pc_sv (c_same X.1.1 X2.1 ⟨by omega, a3⟩ ⟨by omega, b3⟩) ?_; intro u10 q10
        rw [un_eq (by omega), show na_S C n2 t + tl_S C n2 t - na_S C n2 t = tl_S C n2 t by omega] at q10
        exact pc_ck (fun _ => pc_ret q10)
      · intro u15 q15
        refine pc_if (fun y2 => zero ?_) (fun y2 => one ?_)
        · rintro (z1 | ⟨j, j1, j2, j3⟩)
          · exact no (.inl z1)
          · by_cases qj : j = k
            · rcases q15 with ⟨q1, -⟩ | ⟨-, q2⟩
              · omega
              · rw [qj] at j3; exact q2 j3
            · exact no (.inr ⟨j, by omega, j2, j3⟩)
        · refine .inr ⟨k, by omega, by omega, ?_⟩
          rcases q15 with ⟨-, q2⟩ | ⟨q1, -⟩
          · exact q2
          · exact absurd q1 y2
theorem c_other {Bf : Nat → Nat → Int} {nf : Nat → Nat} {c : Nat} (S : ∀ k : Nat, (k : Int) < M 56 3 → k ≠ c → IMc (M 60 k).toNat (nf k) (Bf k) M) (g3 : 0 ≤ M 56 3 ∧ M 56 3 ≤ 8) (X : IMc (M 56 2).toNat n2 C M) : Pc (qf_X7_isNamedAsOther nn (8 + (c : Int)) M) (fun u => (u = 1 ∧ OTh Bf nf (M 56 3) c (fun i => C (na_S C n2 (own_S C n2) + i)) (tl_S C n2 (own_S C n2))) ∨ (u = 0 ∧ ¬ OTh Bf nf (M 56 3) c (fun i => C (na_S C n2 (own_S C n2) + i)) (tl_S C n2 (own_S C n2)))) := by
  obtain ⟨t1, e8, -⟩ := im_no X
  obtain ⟨a1, a2, a3⟩ := c_text (nn := nn) X.1 t1
  unfold qf_X7_isNamedAsOther
  refine pc_ck (fun _ => pc_ck (fun _ => pc_ck (fun _ => pc_ck (fun _ => ?_))))
  rw [e8, a1, mx_svs]
  refine pc_ck (fun _ => ?_)
  rw [a2, mx_svs]
  refine pc_sv (c_builtIn X.1.1 (a := na_S C n2 (own_S C n2)) (s := na_S C n2 (own_S C n2) + tl_S C n2 (own_S C n2)) (by omega) a3) ?_; intro u30 q30
  rw [show na_S C n2 (own_S C n2) + tl_S C n2 (own_S C n2) - na_S C n2 (own_S C n2) = tl_S C n2 (own_S C n2) by omega] at q30
  refine pc_if (fun y => ?_) (fun y => ?_)
  · refine c_44 S g3 X.1 t1 nn 0 0 (by omega) (.inr ⟨rfl, ?_⟩)
    rintro (⟨k, k8, k2⟩ | ⟨j, j1, -⟩)
    · rcases q30 with ⟨d, d8, d1, -⟩ | ⟨-, q⟩
      · omega
      · exact q k k8 k2
    · omega
  · refine c_44 S g3 X.1 t1 nn 0 1 (by omega) (.inl ⟨rfl, .inl ?_⟩)
    rcases q30 with ⟨d, d8, -, d2⟩ | ⟨q, -⟩
    · exact ⟨d, d8, d2⟩
    · exact absurd q y
end

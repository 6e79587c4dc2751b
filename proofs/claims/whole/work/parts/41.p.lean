/- VERIFY: kinds that are there -/
/-- how many parameters the method's kind t has, where they begin -/
def pm_S (B : Nat → Int) (n : Nat) (t : Int) : Nat := (pi_S B n t).getD 0
noncomputable def ps_S (B : Nat → Int) (n : Nat) (t : Int) : Nat → Nat := Classical.epsilon (fun ps : Nat → Nat => MKd B (na_S B n t) (na_S B n t + tl_S B n t) (pm_S B n t) ps)
/-- all classes named in the kinds are there -/
def KAl (Bf : Nat → Nat → Int) (nf : Nat → Nat) (cnt : Int) (B : Nat → Int) (n : Nat) : Prop := (∀ j : Nat, (j : Int) < fc_S B n → ¬ kq_F Bf nf cnt B (na_S B n (kt_S B n j 0)) (na_S B n (kt_S B n j 0) + tl_S B n (kt_S B n j 0)) = -1) ∧ ∀ i : Nat, (i : Int) < mc_S B n → (∀ j : Nat, j < pm_S B n (kt_S B n i 1) → ¬ kq_F Bf nf cnt B (ps_S B n (kt_S B n i 1) j) (ps_S B n (kt_S B n i 1) (j + 1)) = -1) ∧ ¬ kq_F Bf nf cnt B (ps_S B n (kt_S B n i 1) (pm_S B n (kt_S B n i 1)) + 1) (na_S B n (kt_S B n i 1) + tl_S B n (kt_S B n i 1)) = -1
/-- what readKind leaves -/
def RKv (Bf : Nat → Nat → Int) (nf : Nat → Nat) (cnt : Int) (B : Nat → Int) (n : Nat) (t : Int) (a : Nat) (h : ms_M) (u : Int × ms_M) : Prop := u.1 = (pm_S B n t : Int) ∧ (∀ c j : Nat, ¬ (c = 131 ∧ a ≤ j ∧ j ≤ a + pm_S B n t) → u.2 c j = h c j) ∧ u.2 131 a = kq_F Bf nf cnt B (ps_S B n t (pm_S B n t) + 1) (na_S B n t + tl_S B n t) ∧ ∀ j : Nat, j < pm_S B n t → u.2 131 (a + 1 + j) = kq_F Bf nf cnt B (ps_S B n t j) (ps_S B n t (j + 1))
section
variable {nn : Nat} {Bf : Nat → Nat → Int} {nf : Nat → Nat} {cnt : Int} {B : Nat → Int} {n b k : Nat} {M h g r : ms_M}
theorem ps_ok {t : Int} {m : Nat} (H : pi_S B n t = some m) : pm_S B n t = m ∧ tg_S B n t = 1 ∧ MKd B (na_S B n t) (na_S B n t + tl_S B n t) m (ps_S B n t) := by
  have e : pm_S B n t = m := by unfold pm_S; rw [H]; rfl
  obtain ⟨t1, E⟩ := pi_ps H
  refine ⟨e, t1, ?_⟩
  rw [← e] at E ⊢
  exact Classical.epsilon_spec E
/-- where the parameters of a kind are -/
theorem mkd_rg {a s m : Nat} {ps : Nat → Nat} (K : MKd B a s m ps) : ∀ j : Nat, j ≤ m → a + 1 ≤ ps j ∧ ps j < s := by
  obtain ⟨⟨k1, k2, k3⟩, K1, K2, K3⟩ := K
  have up : ∀ j : Nat, j ≤ m → a + 1 ≤ ps j := by
    intro j
    induction j with
    | zero => intro _; omega
    | succ j ih =>
      intro hj
      have a1 := ih (by omega)
      have a2 := kd_rg (K1 j (by omega)).1
      omega
  intro j hj
  refine ⟨up j hj, ?_⟩
  by_cases e : j = m
  · rw [e]; omega
  · have a2 := kd_rg (K1 j (by omega)).1
    omega
/-- THE CLASS READS A METHOD'S KIND -/
theorem vc_63 (hn : 1000000 ≤ nn) {t : Int} {m a : Nat} (a9 : a + 6 < 1799) (hp : pi_S (Bf k) (nf k) t = some m) (hk : (k : Int) < h 56 3) (ec : h 56 3 = cnt) (he : na_S (Bf k) (nf k) t + tl_S (Bf k) (nf k) t ≤ nf k) : ∀ (f j : Nat) (M : ms_M), CSv Bf nf M → j ≤ m → (∀ c i : Nat, ¬ (c = 131 ∧ a + 1 ≤ i ∧ i ≤ a + j) → M c i = h c i) → (∀ i : Nat, i < j → M 131 (a + 1 + i) = kq_F Bf nf cnt (Bf k) (ps_S (Bf k) (nf k) t i) (ps_S (Bf k) (nf k) t (i + 1))) → Pc (qw_X7_readKind_63 nn f (h 60 k).toNat (a : Int) ((na_S (Bf k) (nf k) t + tl_S (Bf k) (nf k) t : Nat) : Int) ((ps_S (Bf k) (nf k) t j : Nat) : Int) (j : Int) M) (RKv Bf nf cnt (Bf k) (nf k) t a h) := by
  obtain ⟨em, t1, K⟩ := ps_ok hp
  have rg := mkd_rg K
  obtain ⟨⟨k1, k2, k3⟩, K1, K2, K3⟩ := K
  generalize hs : na_S (Bf k) (nf k) t + tl_S (Bf k) (nf k) t = s at *
  have E : ∀ M : ms_M, CSv Bf nf M → (∀ c i : Nat, ¬ (c = 131 ∧ a + 1 ≤ i ∧ i ≤ a + m) → M c i = h c i) → (∀ i : Nat, i < m → M 131 (a + 1 + i) = kq_F Bf nf cnt (Bf k) (ps_S (Bf k) (nf k) t i) (ps_S (Bf k) (nf k) t (i + 1))) → Pc (qj_X7_readKind_130 nn (h 60 k).toNat (a : Int) (s : Int) ((ps_S (Bf k) (nf k) t m : Nat) : Int) (m : Int) M) (RKv Bf nf cnt (Bf k) (nf k) t a h) := fun M S W T => by
    have n6 : nf k ≤ 6000 := by
      have c3 : M 56 3 = h 56 3 := W 56 3 (by omega)
      exact (S.2 k (by omega)).1.1.2.1
    have rm := rg m (Nat.le_refl _)
    unfold qj_X7_readKind_130
    refine pc_add (by omega) ?_; intro v1 e1
    rw [show v1 = ((ps_S (Bf k) (nf k) t m + 1 : Nat) : Int) by omega]
    have c3 : M 56 3 = h 56 3 := W 56 3 (by omega)
    have c60 : M 60 k = h 60 k := W 60 k (by omega)
    have q := vc_kind (nn := nn) S (k := k) (by omega) K3 he
    rw [c60, c3, ec] at q
    refine pc_sv q ?_; intro u3 q3
    refine pc_wA ?_; intro _ _ h4 e4
    rw [Int.toNat_natCast] at e4
    refine pc_ret ⟨by rw [em], fun c j z => ?_, ?_, fun j hj => ?_⟩
    · show h4 c j = h c j
      rw [em] at z
      rw [e4, up_n (by omega)]; exact W c j (by omega)
    · show h4 131 a = _
      rw [e4, up_s, q3, em, hs]
    · show h4 131 (a + 1 + j) = _
      rw [em] at hj
      rw [e4, up_n (by omega)]; exact T j hj
  intro f
  induction f with
  | zero => intro j M _ _ _ _; exact pc_none
  | succ f ih =>
    intro j M S hj W T
    have rj := rg j hj
    have c3 : M 56 3 = h 56 3 := W 56 3 (by omega)
    have c60 : M 60 k = h 60 k := W 60 k (by omega)
    have X := S.2 k (by omega)
    have n6 : nf k ≤ 6000 := X.1.1.2.1
    have J := X.1.1
    rw [c60] at J
    unfold qw_X7_readKind_63
    have end_ : j = m → Pc (qj_X7_readKind_130 nn (h 60 k).toNat (a : Int) (s : Int) ((ps_S (Bf k) (nf k) t j : Nat) : Int) (j : Int) M) (RKv Bf nf cnt (Bf k) (nf k) t a h) := fun e => by
      rw [e] at W T ⊢
      exact E M S W T
    refine pc_if (fun z => end_ (by omega)) (fun z => ?_)
    refine pc_if (fun z => absurd z (by omega)) (fun _ => ?_)
    refine pc_if (fun z => absurd z (by omega)) (fun _ => ?_)
    refine pc_ck (fun _ => ?_)
    refine pc_sv (P := fun u => u = Bf k (ps_S (Bf k) (nf k) t j)) (fun u eu => by rw [byteAt_in J (by omega)] at eu; exact (Option.some.inj eu).symm) ?_; intro u6 q6
    rw [q6]
    refine pc_if (fun z => end_ ?_) (fun z => ?_)
    · exact Classical.byContradiction fun y => absurd z (K1 j (by omega)).2
    · have jm : j < m := Classical.byContradiction fun y => z (by rw [show j = m by omega]; exact K2.1)
      have kd := (K1 j jm).1
      have kr := kd_rg kd
      have K4 := (kd_s kd).1
      refine pc_sv (P := fun u => u = ((ps_S (Bf k) (nf k) t (j + 1) : Nat) : Int)) (fun u eu => by rw [behindKind_ok (by omega) J (by omega) (by omega), kd] at eu; exact (Option.some.inj eu).symm) ?_; intro u8 q8
      refine pc_add (by omega) ?_; intro v9 e9
      refine pc_add (by omega) ?_; intro v10 e10
      rw [q8]
      have q := vc_kind (nn := nn) S (k := k) (by omega) K4 (by omega)
      rw [c60, c3, ec] at q
      refine pc_sv q ?_; intro u12 q12
      refine pc_wA ?_; intro _ _ h13 e13
      rw [show v10.toNat = a + 1 + j by omega] at e13
      rw [show v9 = ((j + 1 : Nat) : Int) by omega]
      refine ih (j + 1) h13 (csv_k S (fun c i _ z2 => by rw [e13, up_n (by omega)])) (by omega) (fun c i z1 => ?_) (fun i hi => ?_)
      · rw [e13, up_n (by omega)]; exact W c i (by omega)
      · by_cases ij : i = j
        · rw [ij, e13, up_s, q12]
        · rw [e13, up_n (by omega)]; exact T i (by omega)
theorem vc_readM (hn : 1000000 ≤ nn) (S : CSv Bf nf h) {t : Int} {m a : Nat} (a9 : a + 6 < 1799) (hp : pi_S (Bf k) (nf k) t = some m) (hk : (k : Int) < h 56 3) : Pc (qf_X7_readKind nn (h 60 k).toNat t (a : Int) h) (RKv Bf nf (h 56 3) (Bf k) (nf k) t a h) := by
  obtain ⟨em, t1, K⟩ := ps_ok hp
  have rg := mkd_rg K 0 (Nat.zero_le _)
  have X := S.2 k hk
  have J := X.1.1
  have n6 : nf k ≤ 6000 := J.2.1
  obtain ⟨c1, c2, c3⟩ := c_text (nn := nn) X.1 t1
  unfold qf_X7_readKind
  refine pc_ck (fun _ => ?_)
  refine pc_sv (P := fun u => u = ((na_S (Bf k) (nf k) t + tl_S (Bf k) (nf k) t : Nat) : Int)) (fun u eu => by rw [c2] at eu; exact (Option.some.inj eu).symm) ?_; intro u19 q19
  refine pc_sv (P := fun u => u = ((na_S (Bf k) (nf k) t : Nat) : Int)) (fun u eu => by rw [c1] at eu; exact (Option.some.inj eu).symm) ?_; intro u21 q21
  rw [q19, q21]
  refine pc_if (fun z => absurd z (by omega)) (fun _ => ?_)
  refine pc_add (by omega) ?_; intro v22 e22
  refine pc_if (fun _ => ?_) (fun z => absurd (show v22 < 1799 by omega) z)
  refine pc_sv (P := fun u => u = Bf k (na_S (Bf k) (nf k) t)) (fun u eu => by rw [byteAt_in J (by omega)] at eu; exact (Option.some.inj eu).symm) ?_; intro u25 q25
  refine pc_if (fun _ => ?_) (fun z => absurd (q25.trans K.1.1) z)
  refine pc_add (by omega) ?_; intro v26 e26
  have e0 := K.1.2.1
  rw [show v26 = ((ps_S (Bf k) (nf k) t 0 : Nat) : Int) by omega]
  exact vc_63 hn a9 hp hk rfl c3 nn 0 h S (Nat.zero_le _) (fun _ _ _ => rfl) (fun i hi => absurd hi (by omega))
theorem vc_readF (S : CSv Bf nf h) {t : Int} {a : Nat} (a9 : a + 6 < 1799) (hp : fk_S (Bf k) (nf k) t = true) (hk : (k : Int) < h 56 3) : Pc (qf_X7_readKind nn (h 60 k).toNat t (a : Int) h) (fun u => u.1 = 0 ∧ u.2 = up_M h 131 a (kq_F Bf nf (h 56 3) (Bf k) (na_S (Bf k) (nf k) t) (na_S (Bf k) (nf k) t + tl_S (Bf k) (nf k) t))) := by
  unfold fk_S at hp
  rw [Bool.and_eq_true] at hp
  have t1 := of_decide_eq_true hp.1
  obtain ⟨K, kr, -⟩ := kd_s (of_decide_eq_true hp.2)
  have X := S.2 k hk
  have J := X.1.1
  have n6 : nf k ≤ 6000 := J.2.1
  obtain ⟨c1, c2, c3⟩ := c_text (nn := nn) X.1 t1
  have ena : na_S (Bf k) (nf k) t = pl_S (Bf k) (nf k) t + 2 := rfl
  unfold qf_X7_readKind
  refine pc_ck (fun _ => ?_)
  refine pc_sv (P := fun u => u = ((na_S (Bf k) (nf k) t + tl_S (Bf k) (nf k) t : Nat) : Int)) (fun u eu => by rw [c2] at eu; exact (Option.some.inj eu).symm) ?_; intro u19 q19
  refine pc_sv (P := fun u => u = ((na_S (Bf k) (nf k) t : Nat) : Int)) (fun u eu => by rw [c1] at eu; exact (Option.some.inj eu).symm) ?_; intro u21 q21
  rw [q19, q21]
  refine pc_if (fun z => absurd z (by omega)) (fun _ => ?_)
  refine pc_add (by omega) ?_; intro v22 e22
  refine pc_if (fun _ => ?_) (fun z => absurd (show v22 < 1799 by omega) z)
  refine pc_sv (P := fun u => u = Bf k (na_S (Bf k) (nf k) t)) (fun u eu => by rw [byteAt_in J (by omega)] at eu; exact (Option.some.inj eu).symm) ?_; intro u25 q25
  refine pc_if (fun z => ?_) (fun _ => ?_)
  · exfalso
    have K' : KDs (Bf k) (na_S (Bf k) (nf k) t) (na_S (Bf k) (nf k) t + tl_S (Bf k) (nf k) t) := K
    unfold KDs at K'
    omega
  · refine pc_sv (vc_kind S hk K c3) ?_; intro u28 q28
    refine pc_wA ?_; intro _ _ h29 e29
    rw [Int.toNat_natCast] at e29
    exact pc_ret ⟨rfl, by rw [← q28]; exact e29⟩
end

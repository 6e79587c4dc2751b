/- VERIFY: kinds that are there, the reference's side -/
section
variable {nn : Nat} {Bf : Nat → Nat → Int} {nf : Nat → Nat} {cnt : Int} {B : Nat → Int} {n b k : Nat} {M h g r h0 : ms_M}
theorem pi_le (S : RSv Bf nf h) (hk : (k : Int) < h 160 98) {t : Int} (t1 : tg_S (Bf k) (nf k) t = 1) : na_S (Bf k) (nf k) t + tl_S (Bf k) (nf k) t ≤ nf k ∧ 1 ≤ tl_S (Bf k) (nf k) t ∧ tl_S (Bf k) (nf k) t ≤ 120 ∧ Bf k (pl_S (Bf k) (nf k) t + 1) = (tl_S (Bf k) (nf k) t : Int) ∧ (1 ≤ t ∧ t ≤ Bf k 2) ∧ h 228 (256 * (k : Int) + t).toNat = (pl_S (Bf k) (nf k) t : Int) ∧ Bf k 2 ≤ 255 := by
  obtain ⟨i1, i2, i3⟩ := tg_in (B := Bf k) (n := nf k) (k := t) (by omega)
  obtain ⟨a1, a2, a3⟩ := tb_pl S hk i1 i2
  have b := a2.2.1 (by omega)
  have ena : na_S (Bf k) (nf k) t = pl_S (Bf k) (nf k) t + 2 := rfl
  exact ⟨by omega, b.2.1, b.2.2.1, b.2.2.2, ⟨i1, i2⟩, a1, a3⟩
theorem vr_42 (N : NKn Bf nf cnt) (hz : 0 ≤ h0 160 117) (hk : (k : Int) < cnt) : ∀ (f i : Nat) (l2 : Int) (h : ms_M), RSv Bf nf h → h 160 98 = cnt → 0 ≤ h 160 117 → OTH h0 h → (l2 = 0 ∨ l2 = 1) → Pc (qw_X13_kindsAreThere_42 nn f (k : Int) l2 (i : Int) h) (fun u => OTH h0 u.2 ∧ ((u.1 = 1 ∧ l2 = 1 ∧ ∀ j : Nat, i ≤ j → (j : Int) < mc_S (Bf k) (nf k) → KMl Bf nf cnt (Bf k) (nf k) j) ∨ (u.1 = 0 ∧ ¬ (l2 = 1 ∧ ∀ j : Nat, i ≤ j → (j : Int) < mc_S (Bf k) (nf k) → KMl Bf nf cnt (Bf k) (nf k) j)))) := by
  intro f
  induction f with
  | zero => intro i l2 h _ _ _ _ _; exact pc_none
  | succ f ih =>
    intro i l2 h S ec h7 O b1
    have hk' : (k : Int) < h 160 98 := by omega
    obtain ⟨n6, k8⟩ := tb_n6 S hk'
    obtain ⟨G, -, e34, M1⟩ := rg_im (S.2 k hk')
    have g3 := G.2.2.1
    unfold qw_X13_kindsAreThere_42
    refine pc_rA ?_; intro _ _ v18 e18
    rw [e34] at e18
    refine pc_if (fun z => ?_) (fun z => ?_)
    · refine pc_ck (fun _ => pc_ret ⟨O, ?_⟩)
      rcases b1 with q | q
      · exact .inr ⟨q, fun y => by omega⟩
      · exact .inl ⟨q, q, fun j h1 h2 => absurd h2 (by omega)⟩
    refine pc_if (fun w => pc_ck (fun _ => pc_ret ⟨O, .inr ⟨w, fun y => by omega⟩⟩)) (fun w => ?_)
    have l1 : l2 = 1 := by omega
    have hi : (i : Int) < mc_S (Bf k) (nf k) := by omega
    obtain ⟨m, em⟩ := kal_m G hi
    obtain ⟨pe, t1, KD⟩ := ps_ok em
    obtain ⟨p1, p2, p3, p4, p5, p6, p7⟩ := pi_le S hk' t1
    have ena : na_S (Bf k) (nf k) (kt_S (Bf k) (nf k) i 1) = pl_S (Bf k) (nf k) (kt_S (Bf k) (nf k) i 1) + 2 := rfl
    refine pc_xl ?_; intro v21 e21
    rw [oq_mul_eq (by omega) (by omega) (by omega)] at e21
    refine pc_xl ?_; intro v23 e23
    rw [oq_mul_eq (by omega) (by omega) (by omega)] at e23
    refine pc_sv ((vq_rtx (nn := nn) S hk' (j := i) (s := 1) (by unfold mb_S; rw [if_neg (by decide)]; exact hi)).2) ?_; intro u25 q25
    rw [q25]
    refine pc_add (by omega) ?_; intro v26 e26
    refine pc_rA ?_; intro _ _ v27 e27
    rw [show v26 = 256 * (k : Int) + kt_S (Bf k) (nf k) i 1 by omega, p6] at e27
    refine pc_add (by omega) ?_; intro v28 e28
    refine pc_add (by omega) ?_; intro v29 e29
    have e0 := KD.1.2.1
    rw [show v29 = ((6000 * k + ps_S (Bf k) (nf k) (kt_S (Bf k) (nf k) i 1) 0 : Nat) : Int) by omega]
    refine vr_84 (h0 := h0) N k8 em p1 n6 (by omega) (fun fl g Og hf => ?_) nn 0 l2 h S ec hk h7 O (Nat.zero_le _) (.inl ⟨l1, fun i hi => absurd hi (by omega)⟩)
    rw [show (i : Int) + 1 = ((i + 1 : Nat) : Int) by omega]
    have EQ : ((∀ j : Nat, j < m → ¬ kq_F Bf nf cnt (Bf k) (ps_S (Bf k) (nf k) (kt_S (Bf k) (nf k) i 1) j) (ps_S (Bf k) (nf k) (kt_S (Bf k) (nf k) i 1) (j + 1)) = -1) ∧ ¬ kq_F Bf nf cnt (Bf k) (ps_S (Bf k) (nf k) (kt_S (Bf k) (nf k) i 1) m + 1) (na_S (Bf k) (nf k) (kt_S (Bf k) (nf k) i 1) + tl_S (Bf k) (nf k) (kt_S (Bf k) (nf k) i 1)) = -1) ↔ KMl Bf nf cnt (Bf k) (nf k) i := by unfold KMl; rw [pe]
    rw [EQ] at hf
    have Sg : RSv Bf nf g ∧ g 160 98 = cnt ∧ 0 ≤ g 160 117 := by
      have a1 : ∀ x j : Nat, ¬ (x = 160 ∧ (j = 117 ∨ j = 120)) → ¬ x = 240 → ¬ x = 241 → g x j = h x j := fun x j z1 z2 z3 => (Og.1 x j z1 z2 z3).trans (O.1 x j z1 z2 z3).symm
      refine ⟨rsv_k S (fun x j z => a1 x j (by omega) (by omega) (by omega)) (a1 160 98 (by omega) (by omega) (by omega)), (a1 160 98 (by omega) (by omega) (by omega)).trans ec, ?_⟩
      exact Og.2 hz
    refine pc_imp (ih (i + 1) fl g Sg.1 Sg.2.1 Sg.2.2 Og (by rcases hf with y | y; exact .inr y.1; exact .inl y.1)) (fun u ⟨y1, y2⟩ => ⟨y1, ?_⟩)
    rcases y2 with ⟨x1, x2, x3⟩ | ⟨x1, x2⟩
    · rcases hf with ⟨f1, f2⟩ | ⟨f1, f2⟩
      · refine .inl ⟨x1, l1, fun j h1 h2 => ?_⟩
        by_cases ji : j = i
        · rw [ji]; exact f2
        · exact x3 j (by omega) h2
      · omega
    · refine .inr ⟨x1, fun ⟨y3, y4⟩ => ?_⟩
      rcases hf with ⟨f1, f2⟩ | ⟨f1, f2⟩
      · exact x2 ⟨f1, fun j h1 h2 => y4 j (by omega) h2⟩
      · exact f2 (y4 i (Nat.le_refl _) hi)
theorem vr_4 (N : NKn Bf nf cnt) (hz : 0 ≤ h0 160 117) (hk : (k : Int) < cnt) : ∀ (f i : Nat) (l2 : Int) (h : ms_M), RSv Bf nf h → h 160 98 = cnt → 0 ≤ h 160 117 → OTH h0 h → (l2 = 0 ∨ l2 = 1) → Pc (qw_X13_kindsAreThere_4 nn f (k : Int) l2 (i : Int) h) (fun u => OTH h0 u.2 ∧ ((u.1 = 1 ∧ l2 = 1 ∧ (∀ j : Nat, i ≤ j → (j : Int) < fc_S (Bf k) (nf k) → KFl Bf nf cnt (Bf k) (nf k) j) ∧ ∀ j : Nat, (j : Int) < mc_S (Bf k) (nf k) → KMl Bf nf cnt (Bf k) (nf k) j) ∨ (u.1 = 0 ∧ ¬ (l2 = 1 ∧ (∀ j : Nat, i ≤ j → (j : Int) < fc_S (Bf k) (nf k) → KFl Bf nf cnt (Bf k) (nf k) j) ∧ ∀ j : Nat, (j : Int) < mc_S (Bf k) (nf k) → KMl Bf nf cnt (Bf k) (nf k) j)))) := by
  intro f
  induction f with
  | zero => intro i l2 h _ _ _ _ _; exact pc_none
  | succ f ih =>
    intro i l2 h S ec h7 O b1
    have hk' : (k : Int) < h 160 98 := by omega
    obtain ⟨n6, k8⟩ := tb_n6 S hk'
    obtain ⟨G, ⟨e32, F1⟩, -⟩ := rg_im (S.2 k hk')
    have g3 := G.1
    unfold qw_X13_kindsAreThere_4
    refine pc_rA ?_; intro _ _ v33 e33
    rw [e32] at e33
    have T : (v33 ≤ (i : Int) ∨ l2 = 0) → Pc (qw_X13_kindsAreThere_42 nn nn (k : Int) l2 0 h) (fun u => OTH h0 u.2 ∧ ((u.1 = 1 ∧ l2 = 1 ∧ (∀ j : Nat, i ≤ j → (j : Int) < fc_S (Bf k) (nf k) → KFl Bf nf cnt (Bf k) (nf k) j) ∧ ∀ j : Nat, (j : Int) < mc_S (Bf k) (nf k) → KMl Bf nf cnt (Bf k) (nf k) j) ∨ (u.1 = 0 ∧ ¬ (l2 = 1 ∧ (∀ j : Nat, i ≤ j → (j : Int) < fc_S (Bf k) (nf k) → KFl Bf nf cnt (Bf k) (nf k) j) ∧ ∀ j : Nat, (j : Int) < mc_S (Bf k) (nf k) → KMl Bf nf cnt (Bf k) (nf k) j)))) := fun w => by
      refine pc_imp (vr_42 N hz hk nn 0 l2 h S ec h7 O b1) (fun u ⟨y1, y2⟩ => ⟨y1, ?_⟩)
      rcases y2 with ⟨x1, x2, x3⟩ | ⟨x1, x2⟩
      · exact .inl ⟨x1, x2, fun j h1 h2 => absurd h2 (by omega), fun j h2 => x3 j (Nat.zero_le _) h2⟩
      · exact .inr ⟨x1, fun y => x2 ⟨y.1, fun j _ h2 => y.2.2 j h2⟩⟩
    refine pc_if (fun z => T (.inl z)) (fun z => pc_if (fun w => T (.inr w)) (fun w => ?_))
    have l1 : l2 = 1 := by omega
    have hi : (i : Int) < fc_S (Bf k) (nf k) := by omega
    have ek := kal_f G hi
    unfold fk_S at ek
    rw [Bool.and_eq_true] at ek
    obtain ⟨p1, p2, p3, p4, p5, p6, p7⟩ := pi_le S hk' (of_decide_eq_true ek.1)
    obtain ⟨K, kr, -⟩ := kd_s (of_decide_eq_true ek.2)
    refine pc_sv ((vq_rtx (nn := nn) S hk' (j := i) (s := 0) (by unfold mb_S; rw [if_pos rfl]; exact hi)).2) ?_; intro u35 q35
    rw [q35]
    have ena : na_S (Bf k) (nf k) (kt_S (Bf k) (nf k) i 0) = pl_S (Bf k) (nf k) (kt_S (Bf k) (nf k) i 0) + 2 := rfl
    refine pc_sv (P := fun u => OTH h u.2 ∧ TKo (kq_F Bf nf cnt (Bf k) (na_S (Bf k) (nf k) (kt_S (Bf k) (nf k) i 0)) (na_S (Bf k) (nf k) (kt_S (Bf k) (nf k) i 0) + tl_S (Bf k) (nf k) (kt_S (Bf k) (nf k) i 0))) u.1) ?_ ?_
    · unfold qf_X13_kindType
      refine pc_xl ?_; intro v1 e1
      rw [oq_mul_eq (by omega) (by omega) (by omega)] at e1
      refine pc_xl ?_; intro v3 e3
      rw [oq_mul_eq (by omega) (by omega) (by omega)] at e3
      refine pc_add (by omega) ?_; intro v4 e4
      refine pc_rA ?_; intro _ _ v5 e5
      rw [show v4 = 256 * (k : Int) + kt_S (Bf k) (nf k) i 0 by omega, p6] at e5
      refine pc_add (by omega) ?_; intro v6 e6
      refine pc_add (by omega) ?_; intro v7 e7
      rw [show v7 = ((6000 * k + na_S (Bf k) (nf k) (kt_S (Bf k) (nf k) i 0) : Nat) : Int) by omega]
      have q := vr_kind (nn := nn) (by rw [ec]; exact N) S h7 hk' K p1
      rw [ec] at q
      refine pc_sv q ?_; intro u9 ⟨o9, _, c9⟩
      exact pc_ret ⟨o9, c9⟩
    intro u37 ⟨o37, c37⟩
    refine pc_sv (vr_there c37) ?_; intro u38 q38
    refine pc_add (by omega) ?_; intro v39 e39
    rw [show v39 = ((i + 1 : Nat) : Int) by omega]
    refine pc_imp (ih (i + 1) u38 u37.2 (rsv_o S o37) ((o37.1 160 98 (by omega) (by omega) (by omega)).trans ec) (o37.2 h7) (oth_t O o37) (by rcases q38 with y | y; exact .inl y.1; exact .inr y.1)) (fun u ⟨y1, y2⟩ => ⟨y1, ?_⟩)
    rcases y2 with ⟨x1, x2, x3, x4⟩ | ⟨x1, x2⟩
    · rcases q38 with ⟨f1, f2⟩ | ⟨f1, f2⟩
      · omega
      · refine .inl ⟨x1, l1, fun j h1 h2 => ?_, x4⟩
        by_cases ji : j = i
        · rw [ji]; exact f2
        · exact x3 j (by omega) h2
    · refine .inr ⟨x1, fun ⟨y3, y4, y5⟩ => ?_⟩
      rcases q38 with ⟨f1, f2⟩ | ⟨f1, f2⟩
      · exact y4 i (Nat.le_refl _) hi f2
      · exact x2 ⟨f1, fun j h1 h2 => y4 j (by omega) h2, y5⟩
/-- THE REFERENCE: ARE THE KINDS THERE -/
theorem vr_kinds (N : NKn Bf nf (h 160 98)) (S : RSv Bf nf h) (h7 : 0 ≤ h 160 117) (hk : (k : Int) < h 160 98) : Pc (qf_X13_kindsAreThere nn (k : Int) h) (fun u => OTH h u.2 ∧ ((u.1 = 1 ∧ KAl Bf nf (h 160 98) (Bf k) (nf k)) ∨ (u.1 = 0 ∧ ¬ KAl Bf nf (h 160 98) (Bf k) (nf k)))) := by
  unfold qf_X13_kindsAreThere
  refine pc_imp (vr_4 N h7 hk nn 0 1 h S rfl h7 oth_r (.inr rfl)) (fun u ⟨y1, y2⟩ => ⟨y1, ?_⟩)
  rcases y2 with ⟨x1, -, x3, x4⟩ | ⟨x1, x2⟩
  · exact .inl ⟨x1, fun j hj => x3 j (Nat.zero_le _) hj, x4⟩
  · exact .inr ⟨x1, fun y => x2 ⟨rfl, fun j _ hj => y.1 j hj, y.2⟩⟩
end

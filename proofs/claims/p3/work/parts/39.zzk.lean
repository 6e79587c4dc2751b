section
variable {nn : Nat} {h g r z : ms_M} {l : Int}
/-- a step that leaves the tree and the members' sorts and bodies -/
def SX (h r : ms_M) : Prop := Sm h r ∧ (∀ k : Nat, r 182 k = h 182 k ∧ r 190 k = h 190 k) ∧ r 160 28 = h 160 28
theorem sx_rf : SX h h := ⟨sm_rf, fun _ => ⟨rfl, rfl⟩, rfl⟩
theorem sx_tr (a : SX h g) (b : SX g r) : SX h r := ⟨sm_tr a.1 b.1, fun k => ⟨by rw [(b.2.1 k).1, (a.2.1 k).1], by rw [(b.2.1 k).2, (a.2.1 k).2]⟩, by rw [b.2.2, a.2.2]⟩
theorem sx_sign {v : Int} (e : qf_X13_sign_ nn v h = some r) : SX h r := ⟨(pc_sign_ r e).1, fun k => ⟨(ff_X13_sign_ nn) _ e 182 k (nw_ar rfl k), (ff_X13_sign_ nn) _ e 190 k (nw_ar rfl k)⟩, (ff_X13_sign_ nn) _ e 160 28 rfl⟩
theorem sx_name {u : Int × ms_M} (e : qf_X13_name nn h = some u) : SX h u.2 := ⟨(pc_name u e).1, fun k => ⟨(ff_X13_name nn) _ e 182 k (nw_ar rfl k), (ff_X13_name nn) _ e 190 k (nw_ar rfl k)⟩, (ff_X13_name nn) _ e 160 28 rfl⟩
theorem sx_type (e : qf_X13_type nn h = some r) : SX h r := ⟨(pc_type r e).1, fun k => ⟨(ff_X13_type nn) _ e 182 k (nw_ar rfl k), (ff_X13_type nn) _ e 190 k (nw_ar rfl k)⟩, (ff_X13_type nn) _ e 160 28 rfl⟩
theorem sx_ar {c : Nat} {j v : Int} (E : z = up_M h c j.toNat v) (hc : c ≠ 160 ∧ (c < 167 ∨ 177 < c) ∧ c ≠ 182 ∧ c ≠ 190) : SX h z := by
  subst E
  refine ⟨⟨up_n (by omega), fun y => ?_, ?_, fun c2 x h1 h2 => up_n (by omega)⟩, fun k => ⟨up_n (by omega), up_n (by omega)⟩, up_n (by omega)⟩
  · rwa [up_n (by omega)] at y
  · rw [up_n (by omega)]; exact Int.le_refl _
theorem sx_fd {k : Nat} {v : Int} (E : z = up_M h 160 k v) (hk : k ≠ 22 ∧ k ≠ 9 ∧ k ≠ 23 ∧ k ≠ 28) : SX h z := by
  refine ⟨sm_fld E ⟨hk.1, hk.2.1, hk.2.2.1⟩, fun j => ?_, ?_⟩
  · subst E; exact ⟨up_n (by omega), up_n (by omega)⟩
  · subst E; exact up_n (by omega)
theorem sx_cur {v : Int} (E : z = up_M h 160 23 v) (hv : h 160 23 ≤ v) : SX h z := by
  refine ⟨(sm_cur E hv).1, fun j => ?_, ?_⟩
  · subst E; exact ⟨up_n (by omega), up_n (by omega)⟩
  · subst E; exact up_n (by decide)
/-- behind a member: all else as it was -/
def FM (l : Int) (h r : ms_M) : Prop := Fr h r (h 160 22) ∧ ∀ k : Nat, (k : Int) ≠ l → r 182 k = h 182 k ∧ r 190 k = h 190 k
theorem fm_sx (a : SX h g) (b : FM l g r) : FM l h r := ⟨by have q := b.1; rw [a.1.1] at q; exact fr_tr (sm_fr (n := h 160 22) a.1) q (Int.le_refl _), fun k z => ⟨by rw [(b.2 k z).1, (a.2.1 k).1], by rw [(b.2 k z).2, (a.2.1 k).2]⟩⟩
theorem fm_of (a : SX h r) : FM l h r := ⟨sm_fr a.1, fun k _ => a.2.1 k⟩
def PL (l : Int) (h r : ms_M) : Prop := FM l h r ∧ r 160 28 = h 160 28 ∧ r 182 l.toNat = h 182 l.toNat ∧ (r 160 9 = 0 → ∀ m, (m = 0 ∨ m = 1) → TE m r 2 82 (r 190 l.toNat) (r 160 22) (r 190 l.toNat)) ∧ (r 160 9 = 0 → CC r + h 160 23 ≤ CC h + r 160 23 ∧ h 160 22 ≤ r 190 l.toNat)
theorem pl_sx (a : SX h g) (b : PL l g r) : PL l h r := ⟨fm_sx a b.1, by rw [b.2.1, a.2.2], by rw [b.2.2.1, (a.2.1 _).1], b.2.2.2.1, fun y => by have := b.2.2.2.2 y; have := cc_sm a.1; have := a.1.2.2.1; have := a.1.1; omega⟩
theorem pl_dead (a : SX h r) (d : ¬ r 160 9 = 0) : PL l h r := ⟨fm_of a, a.2.2, (a.2.1 _).1, fun y => absurd y d, fun y => absurd y d⟩
theorem pc_360 (h0 : 0 ≤ h 160 22) : Pc (qj_X13_member_360 nn l h) (PL l h) := by
  unfold qj_X13_member_360
  refine pc_se ?_; intro u2 e2
  have S2 := sx_sign e2
  have q22 := S2.1.1
  refine pc_se ?_; intro u5 e5
  have A := fun m (hm : m = 0 ∨ m = 1) => ge_block (nn := nn) hm 0 u2 (by decide) (by decide) (by omega) u5 e5
  have F5 := (A 0 (.inl rfl)).1
  have f5 : ∀ k : Nat, u5.2 182 k = u2 182 k ∧ u5.2 190 k = u2 190 k := fun k => ⟨(ff_X13_block nn) _ e5 182 k (nw_ar rfl k), (ff_X13_block nn) _ e5 190 k (nw_ar rfl k)⟩
  have f28 : u5.2 160 28 = u2 160 28 := (ff_X13_block nn) _ e5 160 28 rfl
  refine pc_wA ?_; intro p6 q6 h6 E6
  have n6 : ∀ c k : Nat, ¬ (c = 190 ∧ k = l.toNat) → h6 c k = u5.2 c k := fun c k w => by rw [E6]; exact up_n w
  have G6 : GI u5.2 → GI h6 := gi_o E6 (by decide)
  refine pc_ret (pl_sx S2 ⟨⟨⟨⟨?_, fun y => ?_, ?_⟩, fun c x h1 h2 h3 => ?_, fun w => G6 (F5.2.2 w)⟩, fun k w => ?_⟩, ?_, ?_, fun y m hm => ?_, fun y => ?_⟩)
  · rw [n6 160 22 (by omega)]; exact F5.1.1
  · rw [n6 160 9 (by omega)] at y; exact F5.1.2.1 y
  · rw [n6 160 23 (by omega)]; exact F5.1.2.2
  · rw [n6 c x (by omega)]; exact F5.2.1 c x h1 h2 h3
  · rw [n6 182 k (by omega), n6 190 k (by omega)]; exact f5 k
  · rw [n6 160 28 (by omega)]; exact f28
  · rw [n6 182 _ (by omega)]; exact (f5 _).1
  · rw [n6 160 9 (by omega)] at y
    obtain ⟨w1, _, _, _, w4, _⟩ := (A m hm).2 y
    rw [← w1] at w4
    have e0 : h6 190 l.toNat = u5.1 := by rw [E6]; exact up_s
    rw [e0, n6 160 22 (by omega)]
    exact te_fr (te_wd w4 (by omega) (by omega) (by omega) (by omega)) (by omega) (fun c x h1 h2 _ _ => n6 c x (by omega))
  · rw [n6 160 9 (by omega)] at y
    have c6 := cc_wo E6 (by decide)
    have w := ((A 0 (.inl rfl)).2 y).2.2.2.2.2
    have w1 := ((A 0 (.inl rfl)).2 y).1
    have e0 : h6 190 l.toNat = u5.1 := by rw [E6]; exact up_s
    rw [n6 160 23 (by omega), e0]
    omega
theorem pc_269 (h0 : 0 ≤ h 160 22) {qk : Int → ms_M → Option ms_M} (ih : ∀ g : ms_M, 0 ≤ g 160 22 → Pc (qk l g) (PL l g)) : Pc (qj_X13_member_269 nn qk l h) (PL l h) := by
  unfold qj_X13_member_269
  refine pc_se ?_; intro u8 e8
  have S8 := sx_type e8
  refine pc_se ?_; intro u10 e10
  have S10 := sx_tr S8 (sx_name e10)
  refine pc_if (fun C => ?_) (fun C => pc_ret (pl_dead S10 C))
  refine pc_wA ?_; intro _ _ h15 E15
  have S15 := sx_tr S10 (sx_ar E15 (by decide))
  refine pc_wA ?_; intro _ _ h19 E19
  have S19 := sx_tr S15 (sx_ar E19 (by decide))
  refine pc_wZ ?_; intro _ _ h23 E23
  have S23 := sx_tr S19 (sx_ar E23 (by decide))
  refine pc_wA ?_; intro _ _ h26 E26
  have S26 := sx_tr S23 (sx_ar E26 (by decide))
  refine pc_xl ?_; intro v28 _
  refine pc_xl ?_; intro h29 E29
  have S29 := sx_tr S26 (sx_fd E29 (by decide))
  refine pc_rA ?_; intro _ _ v31 _
  refine pc_xl ?_; intro v32 _
  refine pc_wA ?_; intro _ _ h33 E33
  have S33 := sx_tr S29 (sx_ar E33 (by decide))
  exact pc_imp (ih h33 (by have := S33.1.1; omega)) (fun r p => pl_sx S33 p)
theorem pc_234 : ∀ (k : Nat) (h : ms_M), 0 ≤ h 160 22 → Pc (qw_X13_member_234 nn k l h) (PL l h) := by
  intro k
  induction k with
  | zero => intros; exact pc_none
  | succ k ih =>
    intro h h0
    unfold qw_X13_member_234
    refine pc_if (fun _ => pc_360 h0) (fun _ => ?_)
    refine pc_se ?_; intro u38 _
    refine pc_if (fun _ => pc_360 h0) (fun _ => ?_)
    refine pc_rA ?_; intro _ _ v40 _
    refine pc_if (fun _ => pc_269 h0 ih) (fun _ => ?_)
    refine pc_se ?_; intro u42 e42
    have S := sx_sign e42
    exact pc_imp (pc_269 (by have := S.1.1; omega) ih) (fun r p => pl_sx S p)
/-- what a member tells -/
def PN (h r : ms_M) : Prop := FM (h 160 28) h r ∧ (r 160 9 = 0 → (0 ≤ h 160 28 ∧ r 160 28 = h 160 28 + 1) ∧ (r 182 (h 160 28).toNat = 0 ∨ ∀ m, (m = 0 ∨ m = 1) → TE m r 2 82 (r 190 (h 160 28).toNat) (r 160 22) (r 190 (h 160 28).toNat)) ∧ CC r + h 160 23 ≤ CC h + r 160 23 ∧ (r 182 (h 160 28).toNat = 0 ∨ h 160 22 ≤ r 190 (h 160 28).toNat))
theorem pn_sx (a : SX h g) (b : PN g r) : PN h r := by
  have q := b.1
  have q2 := b.2
  rw [a.2.2] at q q2
  exact ⟨fm_sx a q, fun y => ⟨(q2 y).1, (q2 y).2.1, by have := (q2 y).2.2.1; have := cc_sm a.1; have := a.1.2.2.1; omega, by rw [← a.1.1]; exact (q2 y).2.2.2⟩⟩
theorem pc_170 {l1 l2 s0 : Int} (h0 : 0 ≤ h 160 22) (h28 : 0 ≤ h 160 28 ∧ h 160 28 ≤ 799) : Pc (qj_X13_member_170 nn l1 l2 (h 160 28) s0 (h 160 28) h) (PN h) := by
  unfold qj_X13_member_170
  refine pc_wA ?_; intro p46 q46 h46 E46
  have n46 : ∀ c k : Nat, ¬ (c = 182 ∧ k = (h 160 28).toNat) → h46 c k = h c k := fun c k w => by rw [E46]; exact up_n w
  have S46 : Sm h h46 := ⟨n46 160 22 (by omega), fun y => by rwa [n46 160 9 (by omega)] at y, by rw [n46 160 23 (by omega)]; exact Int.le_refl _, fun c x h1 h2 => n46 c x (by omega)⟩
  have b28 : h46 160 28 = h 160 28 := n46 160 28 (by omega)
  refine pc_if (fun C => ?_) (fun C => pc_ret ⟨⟨sm_fr S46, fun k w => ⟨n46 182 k (by omega), n46 190 k (by omega)⟩⟩, fun y => absurd y C⟩)
  refine pc_add (by omega) ?_; intro v49 e49
  refine pc_xl ?_; intro h50 E50
  have n50 : ∀ c k : Nat, ¬ (c = 160 ∧ k = 28) → h50 c k = h46 c k := fun c k w => by rw [E50]; exact up_n w
  have b50 : h50 160 28 = v49 := by rw [E50]; exact up_s
  have S50 : Sm h h50 := sm_tr S46 ⟨n50 160 22 (by omega), fun y => by rwa [n50 160 9 (by omega)] at y, by rw [n50 160 23 (by omega)]; exact Int.le_refl _, fun c x h1 h2 => n50 c x (by omega)⟩
  have s22 := S50.1
  have J : ∀ r, PL (h 160 28) h50 r → PN h r := fun r p => by
    obtain ⟨⟨p1, p2⟩, p3, p4, p5, p6⟩ := p
    rw [s22] at p1
    have cc := cc_sm S50
    have cu := S50.2.2.1
    refine ⟨⟨fr_tr (sm_fr (n := h 160 22) S50) p1 (Int.le_refl _), fun k w => ?_⟩, fun y => ⟨⟨h28.1, by omega⟩, .inr (p5 y), by have := p6 y; omega, .inr (by have := p6 y; omega)⟩⟩
    rw [(p2 k w).1, (p2 k w).2, n50 182 k (by omega), n50 190 k (by omega), n46 182 k (by omega), n46 190 k (by omega)]
    exact ⟨rfl, rfl⟩
  have K : Pc (mx_sv (qf_X13_sign_ nn 40 h50) fun u52 => qw_X13_member_234 nn nn (h 160 28) u52) (PN h) := by
    refine pc_se ?_; intro u52 e52
    have S := sx_sign e52
    exact pc_imp (pc_234 nn u52 (by have := S.1.1; omega)) (fun r p => J r (pl_sx S p))
  refine pc_if (fun _ => K) (fun _ => ?_)
  refine pc_if (fun _ => K) (fun _ => ?_)
  refine pc_sv pc_isSign ?_; intro u57 b57
  refine pc_if (fun _ => K) (fun _ => ?_)
  refine pc_add (by omega) ?_; intro v61 e61
  refine pc_xl ?_; intro h62 E62
  have X62 := sx_cur E62 (by omega)
  refine pc_wA ?_; intro p64 q64 h64 E64
  have n64 : ∀ c k : Nat, ¬ (c = 182 ∧ k = (h 160 28).toNat) → h64 c k = h62 c k := fun c k w => by rw [E64]; exact up_n w
  have S64 : Sm h h64 := sm_tr S50 (sm_tr X62.1 ⟨n64 160 22 (by omega), fun y => by rwa [n64 160 9 (by omega)] at y, by rw [n64 160 23 (by omega)]; exact Int.le_refl _, fun c x h1 h2 => n64 c x (by omega)⟩)
  refine pc_ret ⟨⟨sm_fr S64, fun k w => ?_⟩, fun y => ⟨⟨h28.1, ?_⟩, .inl ?_, ?_, .inl ?_⟩⟩
  · rw [n64 182 k (by omega), n64 190 k (by omega), (X62.2.1 k).1, (X62.2.1 k).2, n50 182 k (by omega), n50 190 k (by omega), n46 182 k (by omega), n46 190 k (by omega)]
    exact ⟨rfl, rfl⟩
  · have a := n64 160 28 (by omega)
    have b := X62.2.2
    omega
  · rw [E64]; exact up_s
  · have := cc_sm S64; have := S64.2.2.1; omega
  · rw [E64]; exact up_s
theorem pc_75 {l1 l2 : Int} (h0 : 0 ≤ h 160 22) : Pc (qj_X13_member_75 nn l1 l2 h) (PN h) := by
  unfold qj_X13_member_75
  refine pc_wA ?_; intro p72 q72 h72 E72
  have S72 := sx_ar E72 (by decide)
  refine pc_wA ?_; intro _ _ h75 E75
  have S75 := sx_tr S72 (sx_ar E75 (by decide))
  refine pc_wZ ?_; intro _ _ h78 E78
  have S78 := sx_tr S75 (sx_ar E78 (by decide))
  refine pc_se ?_; intro u81 e81
  have S81 := sx_tr S78 (sx_name e81)
  refine pc_wA ?_; intro _ _ h82 E82
  have S82 := sx_tr S81 (sx_ar E82 (by decide))
  refine pc_xl ?_; intro v85 _
  refine pc_wA ?_; intro _ _ h86 E86
  have S86 := sx_tr S82 (sx_ar E86 (by decide))
  refine pc_wA ?_; intro _ _ h89 E89
  have S89 := sx_tr S86 (sx_ar E89 (by decide))
  refine pc_wA ?_; intro _ _ h91 E91
  have S91 := sx_tr S89 (sx_ar E91 (by decide))
  refine pc_wA ?_; intro _ _ h93 E93
  have n93 : ∀ c k : Nat, ¬ (c = 190 ∧ k = (h 160 28).toNat) → h93 c k = h91 c k := fun c k w => by rw [E93]; exact up_n w
  have S93 : Sm h h93 := sm_tr S91.1 ⟨n93 160 22 (by omega), fun y => by rwa [n93 160 9 (by omega)] at y, by rw [n93 160 23 (by omega)]; exact Int.le_refl _, fun c x h1 h2 => n93 c x (by omega)⟩
  have b28 : h93 160 28 = h 160 28 := by rw [n93 160 28 (by omega), S91.2.2]
  have s22 := S93.1
  have J : ∀ r, PN h93 r → PN h r := fun r p => by
    obtain ⟨⟨p1, p2⟩, p3⟩ := p
    rw [b28] at p2 p3
    rw [s22] at p1
    refine ⟨⟨fr_tr (sm_fr (n := h 160 22) S93) p1 (Int.le_refl _), fun k w => ?_⟩, fun y => ⟨(p3 y).1, (p3 y).2.1, by have := (p3 y).2.2.1; have := cc_sm S93; have := S93.2.2.1; omega, by rw [← s22]; exact (p3 y).2.2.2⟩⟩
    rw [(p2 k w).1, (p2 k w).2, n93 182 k (by omega), n93 190 k (by omega), (S91.2.1 k).1, (S91.2.1 k).2]
    exact ⟨rfl, rfl⟩
  have K : ∀ s, Pc (qj_X13_member_170 nn l1 l2 (h 160 28) s (h 160 28) h93) (PN h) := fun s => by
    have q := pc_170 (nn := nn) (l1 := l1) (l2 := l2) (s0 := s) (h := h93) (by omega) (by omega)
    rw [b28] at q
    exact pc_imp q J
  exact pc_if (fun _ => K 1) (fun _ => K 2)
theorem pc_25 {l1 : Int} (h0 : 0 ≤ h 160 22) : Pc (qj_X13_member_25 nn l1 h) (PN h) := by
  unfold qj_X13_member_25
  refine pc_sv pc_isWord ?_; intro u98 b98
  refine pc_if (fun _ => ?_) (fun _ => ?_)
  · refine pc_se ?_; intro u100 e100
    have S := sx_type e100
    exact pc_imp (pc_75 (by have := S.1.1; omega)) (fun r p => pn_sx S p)
  · refine pc_xl ?_; intro h101 E101
    have S1 := sx_fd E101 (by decide)
    refine pc_xl ?_; intro h102 E102
    have S2 := sx_tr S1 (sx_fd E102 (by decide))
    refine pc_xl ?_; intro h104 E104
    have S4 := sx_tr S2 (sx_fd E104 (by decide))
    have w : h104 160 23 = h 160 23 := by rw [E104, up_n (by decide), E102, up_n (by decide), E101, up_n (by decide)]
    refine pc_add (by omega) ?_; intro v106 e106
    refine pc_xl ?_; intro h107 E107
    have S := sx_tr S4 (sx_cur E107 (by omega))
    exact pc_imp (pc_75 (by have := S.1.1; omega)) (fun r p => pn_sx S p)
theorem pc_member (h0 : 0 ≤ h 160 22) : Pc (qf_X13_member nn h) (PN h) := by
  unfold qf_X13_member
  refine pc_sv pc_isWord ?_; intro u111 b111
  refine pc_if (fun _ => pc_25 h0) (fun _ => ?_)
  refine pc_add (by omega) ?_; intro v113 e113
  refine pc_xl ?_; intro h114 E114
  have S := sx_cur E114 (by omega)
  exact pc_imp (pc_25 (by have := S.1.1; omega)) (fun r p => pn_sx S p)
/-- the bodies of all members, while there is no FAULT -/
def MP (h : ms_M) : Prop := GI h ∧ 0 ≤ h 160 22 ∧ (h 160 9 = 0 → (∀ m, (m = 0 ∨ m = 1) → MB m h) ∧ (0 < h 160 22 → 0 < h 160 28) ∧ CC h ≤ h 160 23)
theorem mp_sx (a : SX h r) (P : MP h) : MP r := ⟨gi_sm a.1 P.1, by rw [a.1.1]; exact P.2.1, fun y => ⟨fun m hm x hx hs => by
  rw [a.2.2] at hx
  rw [(a.2.1 x).1] at hs
  obtain ⟨b, ⟨hb, hc⟩, T⟩ := (P.2.2 (a.1.2.1 y)).1 m hm x hx hs
  rw [(a.2.1 x).2, a.1.1]
  exact ⟨b, ⟨hb, fun y z1 z2 z3 => by rw [(a.2.1 y).2]; exact hc y z1 (by rw [a.2.2] at z2; exact z2) (by rw [(a.2.1 y).1] at z3; exact z3)⟩, te_sm a.1 (te_sk T).2.1 T⟩, by rw [a.1.1, a.2.2]; exact (P.2.2 (a.1.2.1 y)).2.1, by have := (P.2.2 (a.1.2.1 y)).2.2; have := cc_sm a.1; have := a.1.2.2.1; omega⟩⟩
theorem mp_pn (p : PN h r) (P : MP h) : MP r := by
  obtain ⟨⟨p1, p2⟩, p3⟩ := p
  have c1 := p1.1
  have P21 := P.2.1
  refine ⟨p1.2.2 P.1, by omega, fun y => ?_⟩
  obtain ⟨⟨h28, q1⟩, q2, q3, q4⟩ := p3 y
  refine ⟨fun m hm x hx hs => ?_, fun _ => by omega, by have := (P.2.2 (c1.2.1 y)).2.2; omega⟩
  by_cases w : (x : Int) = h 160 28
  · have w2 : x = (h 160 28).toNat := by omega
    rw [← w2] at q2
    rcases q2 with q2 | q2
    · exact absurd q2 hs
    · exact ⟨r 160 22, ⟨Int.le_refl _, fun y z1 z2 _ => by exfalso; omega⟩, q2 m hm⟩
  · rw [(p2 x w).1] at hs
    obtain ⟨b, ⟨hb, hc⟩, T⟩ := (P.2.2 (c1.2.1 y)).1 m hm x (by omega) hs
    rw [(p2 x w).2]
    refine ⟨b, ⟨by omega, fun y2 z1 z2 z3 => ?_⟩, te_F p1 (te_sk T).2.1 hb T⟩
    by_cases w2 : (y2 : Int) = h 160 28
    · have w3 : y2 = (h 160 28).toNat := by omega
      rw [w3] at z3 ⊢
      rcases q4 with q4 | q4
      · exact absurd q4 z3
      · omega
    · rw [(p2 y2 w2).1] at z3
      rw [(p2 y2 w2).2]; exact hc y2 z1 (by omega) z3
theorem mg_143 {qk : ms_M → Option ms_M} (ih : ∀ g : ms_M, MP g → Pc (qk g) MP) (P : MP h) : Pc (qj_X13_program_143 nn qk h) MP := by
  unfold qj_X13_program_143
  refine pc_se ?_; intro u2 e2
  have S := sx_sign e2
  refine pc_if (fun _ => pc_ret (mp_sx S P)) (fun _ => ?_)
  refine pc_rA ?_; intro _ _ v6 _
  exact pc_if (fun _ => ih u2 (mp_sx S P)) (fun _ => pc_ret (mp_sx S P))
theorem mg_116 {qk : ms_M → Option ms_M} (ih : ∀ g : ms_M, MP g → Pc (qk g) MP) : ∀ (k : Nat) (h : ms_M), MP h → Pc (qw_X13_program_116 nn qk k h) MP := by
  intro k
  induction k with
  | zero => intros; exact pc_none
  | succ k ih2 =>
    intro h P
    unfold qw_X13_program_116
    refine pc_if (fun _ => mg_143 ih P) (fun _ => ?_)
    refine pc_se ?_; intro u12 _
    refine pc_if (fun _ => mg_143 ih P) (fun _ => ?_)
    refine pc_se ?_; intro u14 e14
    exact ih2 u14 (mp_pn (pc_member P.2.1 u14 e14) P)
theorem mg_72 {qk : ms_M → Option ms_M} (ih : ∀ g : ms_M, MP g → Pc (qk g) MP) {l1 l2 : Int} (P : MP h) : Pc (qj_X13_program_72 nn qk l1 l2 h) MP := by
  unfold qj_X13_program_72
  refine pc_if (fun _ => ?_) (fun _ => pc_ret P)
  refine pc_wA ?_; intro _ _ h20 E20
  have S20 := sx_ar E20 (by decide)
  refine pc_wA ?_; intro _ _ h23 E23
  have S23 := sx_tr S20 (sx_ar E23 (by decide))
  refine pc_xl ?_; intro v25 _
  refine pc_xl ?_; intro h26 E26
  have S26 := sx_tr S23 (sx_fd E26 (by decide))
  refine pc_se ?_; intro u28 e28
  exact mg_116 ih nn u28 (mp_sx (sx_tr S26 (sx_sign e28)) P)
theorem sx_word {v : Int} (e : qf_X13_word nn v h = some r) : SX h r := ⟨(pc_word r e).1, fun k => ⟨(ff_X13_word nn) _ e 182 k (nw_ar rfl k), (ff_X13_word nn) _ e 190 k (nw_ar rfl k)⟩, (ff_X13_word nn) _ e 160 28 rfl⟩
theorem mg_25 : ∀ (k : Nat) (h : ms_M), MP h → Pc (qw_X13_program_25 nn k h) MP := by
  intro k
  induction k with
  | zero => intros; exact pc_none
  | succ k ih =>
    intro h P
    unfold qw_X13_program_25
    refine pc_se ?_; intro u31 e31
    refine pc_se ?_; intro u33 e33
    have S := sx_tr (sx_word e31) (sx_name e33)
    refine pc_if (fun _ => mg_72 ih (mp_sx S P)) (fun _ => ?_)
    refine pc_sv pc_isWord ?_; intro u37 b37
    refine pc_if (fun _ => mg_72 ih (mp_sx S P)) (fun _ => ?_)
    refine pc_add (by omega) ?_; intro v39 e39
    refine pc_xl ?_; intro h40 E40
    have S2 := sx_tr S (sx_cur E40 (by omega))
    refine pc_se ?_; intro u42 e42
    exact mg_72 ih (mp_sx (sx_tr S2 (sx_name e42)) P)
/-- what program tells of the tree -/
theorem mg_program : Pc (qf_X13_program nn h) MP := by
  unfold qf_X13_program
  refine pc_xl ?_; intro h45 E45
  refine pc_xl ?_; intro h46 E46
  refine pc_xl ?_; intro h47 E47
  refine pc_xl ?_; intro h48 E48
  refine pc_xl ?_; intro h49 E49
  have q22 : h49 160 22 = 0 := by rw [E49, up_n (by decide), E48, up_s]
  have q28 : h49 160 28 = 0 := by rw [E49, up_n (by decide), E48, up_n (by decide), E47, up_n (by decide), E46, up_s]
  refine mg_25 nn h49 ⟨fun x hx => by exfalso; omega, by omega, fun _ => ⟨fun _ _ x hx => by exfalso; omega, fun w => by exfalso; omega, ?_⟩⟩
  have q23 : h49 160 23 = 0 := by rw [E49, up_s]
  unfold CC
  rw [q22, q23]
  exact Int.le_refl 0
end

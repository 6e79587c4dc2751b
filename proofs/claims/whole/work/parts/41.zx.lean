/- VERIFY: all links of the class, whole -/
/-- the classes before k are linked -/
def LBs (Bf : Nat → Nat → Int) (nf : Nat → Nat) (cnt : Int) (k : Nat) (g : ms_M) : Prop := (∀ c : Nat, (c : Int) < 8 + cnt → g 69 c = ca_F Bf nf cnt (c : Int)) ∧ ∀ x : Nat, x < k → LCs Bf nf cnt x (Bf x 2 + 1) g ∧ LMs Bf nf cnt x 16 g
section
variable {nn : Nat} {Bf : Nat → Nat → Int} {nf : Nat → Nat} {cnt : Int} {b d k i t : Nat} {h g : ms_M} {c a : Int}
theorem vc_la42 (H : HGo Bf nf cnt) (hk : (k : Int) < cnt) {K : Int → ms_M → Option ms_M} {Q : ms_M → Prop} (hK : ∀ g : ms_M, CSw Bf nf g → g 56 3 = cnt → LBs Bf nf cnt (k + 1) g → Pc (K ((k + 1 : Nat) : Int) g) Q) : ∀ (f : Nat) (a : Int) (g : ms_M), CSw Bf nf g → g 56 3 = cnt → LBs Bf nf cnt k g → 1 ≤ a → a ≤ Bf k 2 + 1 → LCs Bf nf cnt k a g → Pc (qw_X7_linkAll_42 nn K f (k : Int) a g) Q := by
  have h8 := H.1
  intro f
  induction f with
  | zero => intro a g _ _ _ _ _ _; exact pc_none
  | succ f ih =>
    intro a g S ec B0 a1 a2 L
    have X := S.1.2 k (by omega)
    have T := X.1
    have b2 := T.2.2.1
    have k3 : kc_O (g 60 k).toNat = 3 := T.1.1
    have h60 : 0 ≤ g 60 k := Classical.byContradiction fun w => by
      rw [show (g 60 k).toNat = 0 by omega] at k3
      exact absurd k3 (by decide)
    unfold qw_X7_linkAll_42
    refine pc_rA ?_; intro _ _ v2 e2
    rw [Int.toNat_natCast] at e2
    refine pc_ck (fun _ => ?_)
    refine pc_ck (fun _ => ?_)
    rw [e2, T.2.1]
    refine pc_if (fun w => ?_) (fun w => ?_)
    · refine pc_sv (vc_lmeth H hk S ec) ?_; intro u6 q6
      obtain ⟨S6, A6, L6⟩ := q6
      refine pc_add (by omega) ?_; intro v7 e7
      rw [show v7 = ((k + 1 : Nat) : Int) by omega]
      refine hK u6 S6 (by rw [A6 56 3 (by omega)]; exact ec) ⟨fun c hc => by rw [A6 69 c (by omega)]; exact B0.1 c hc, fun x hx => ?_⟩
      by_cases e : x = k
      · subst e
        refine ⟨lcs_k (h := g) ?_ (by omega) (fun j _ _ => A6 68 j (by omega)), L6⟩
        rw [show Bf x 2 + 1 = a by omega]
        exact L
      · obtain ⟨c1, c2⟩ := B0.2 x (by omega)
        have bx := ((S.1.2 x (by omega)).1).2.2.1
        exact ⟨lcs_k c1 (by omega) (fun j _ _ => A6 68 j (by omega)), lms_k c2 H (by omega) (fun j j1 j2 => A6 70 j (by omega))⟩
    · refine pc_xl ?_; intro v9 e9
      rw [oq_mul_eq (by omega) (by omega) (by omega)] at e9
      refine pc_add (by omega) ?_; intro v10 e10
      refine pc_rA ?_; intro _ _ v12 e12
      rw [Int.toNat_natCast] at e12
      refine pc_ck (fun _ => ?_)
      rw [e12]
      refine pc_sv (vc_linkOf H S ec hk) ?_; intro u15 q15
      refine pc_wA ?_; intro j1 j2 h16 e16
      refine pc_add (by omega) ?_; intro v17 e17
      rw [show v17 = a + 1 by omega]
      have ev : v10.toNat = (256 * (k : Int) + a).toNat := by omega
      have A : ∀ x j : Nat, ¬ (x = 68 ∧ j = v10.toNat) → h16 x j = g x j := fun x j w => by rw [e16, up_n w]
      refine ih (a + 1) h16 (csw_l S (fun x j _ w => A x j (by omega))) (by rw [A 56 3 (by omega)]; exact ec) ⟨fun c hc => by rw [A 69 c (by omega)]; exact B0.1 c hc, fun x hx => ?_⟩ (by omega) (by omega) (fun e e1 e2 => ?_)
      · obtain ⟨c1, c2⟩ := B0.2 x hx
        have bx := ((S.1.2 x (by omega)).1).2.2.1
        exact ⟨lcs_k c1 (by omega) (fun j _ _ => A 68 j (by omega)), lms_k c2 H (by omega) (fun j j1 j2 => A 70 j (by omega))⟩
      · by_cases z : e = a
        · rw [z, ← ev, e16, up_s]
          exact q15
        · rw [A 68 _ (by omega)]
          exact L e e1 (by omega)
theorem vc_la32 (H : HGo Bf nf cnt) : ∀ (f k : Nat) (g : ms_M), (k : Int) ≤ cnt → CSw Bf nf g → g 56 3 = cnt → LBs Bf nf cnt k g → Pc (qw_X7_linkAll_32 nn f (k : Int) g) (fun u => CSw Bf nf u ∧ u 56 3 = cnt ∧ LKt Bf nf cnt u) := by
  have h8 := H.1
  intro f
  induction f with
  | zero => intro k g _ _ _ _; exact pc_none
  | succ f ih =>
    intro k g hk S ec B0
    unfold qw_X7_linkAll_32
    rw [ec]
    refine pc_if (fun w => pc_ret ⟨S, ec, B0.1, fun x hx => B0.2 x (by omega)⟩) (fun w => ?_)
    have b2 := ((S.1.2 k (by omega)).1).2.2.1
    exact vc_la42 H (by omega) (fun g2 S2 c2 B2 => ih (k + 1) g2 (by omega) S2 c2 B2) nn 1 g S ec B0 (by omega) (by omega) (fun e e1 e2 => absurd e1 (by omega))
theorem vc_la2 (H : HGo Bf nf cnt) : ∀ (f c : Nat) (g : ms_M), CSw Bf nf g → g 56 3 = cnt → (c : Int) ≤ 8 + cnt → (∀ x : Nat, x < c → g 69 x = ca_F Bf nf cnt (x : Int)) → Pc (qw_X7_linkAll_2 nn f (c : Int) g) (fun u => CSw Bf nf u ∧ u 56 3 = cnt ∧ LKt Bf nf cnt u) := by
  have h8 := H.1
  intro f
  induction f with
  | zero => intro c g _ _ _ _; exact pc_none
  | succ f ih =>
    intro c g S ec hc L
    unfold qw_X7_linkAll_2
    rw [ec]
    refine pc_add (by omega) ?_; intro v22 e22
    refine pc_if (fun w => ?_) (fun w => ?_)
    · exact vc_la32 H nn 0 g (by omega) S ec ⟨fun x hx => L x (by omega), fun x hx => absurd hx (by omega)⟩
    · refine pc_sv (vc_cab H S ec (.inr (by unfold ISc; omega))) ?_; intro u25 q25
      refine pc_wA ?_; intro _ _ h26 e26
      rw [Int.toNat_natCast] at e26
      refine pc_add (by omega) ?_; intro v27 e27
      rw [show v27 = ((c + 1 : Nat) : Int) by omega]
      refine ih (c + 1) h26 (csw_l S (fun x j _ w => by rw [e26, up_n (by omega)])) (by rw [e26, up_n (by omega)]; exact ec) (by omega) (fun x hx => ?_)
      by_cases e : x = c
      · rw [e, e26, up_s, q25]
      · rw [e26, up_n (by omega)]; exact L x (by omega)
/-- LINK ALL, the class -/
theorem vc_linkAll (H : HGo Bf nf cnt) (S : CSw Bf nf h) (ec : h 56 3 = cnt) : Pc (qf_X7_linkAll nn h) (fun u => CSw Bf nf u ∧ u 56 3 = cnt ∧ LKt Bf nf cnt u) := by
  have h8 := H.1
  unfold qf_X7_linkAll
  exact vc_la2 H nn 0 h S ec (by omega) (fun x hx => absurd hx (by omega))
end

/- the making of an E that is led: its left side first -/
section
variable {nn : Nat} {h g u r m w : ms_M}
theorem mw_50 {rc : tq_X13_work} (HR : ∀ (e : Int) (h : ms_M), 0 ≤ h 160 57 ∧ h 160 57 ≤ 10000 → Pc (rc.2.1 e h) (fun u => RKp h u)) {Q R : ms_M → Prop} {l2 b : Int} (hR : ∀ z : ms_M, R z → ∀ k2 : Nat, Pc (qw_X13_work_50 nn rc k2 l2 z) Q) (lb : 0 ≤ l2 ∧ l2 ≤ b) : ∀ (k : Nat) (h : ms_M), b ≤ h 160 57 → h 160 57 ≤ 10000 → Pc (qw_X13_work_50 nn rc k b h) R → Pc (qw_X13_work_50 nn rc k l2 h) Q := by
  intro k
  induction k with
  | zero => intros; exact pc_none
  | succ k ih =>
    intro h hb h6 HA
    by_cases c : h 160 57 ≤ b
    · have R2 : ∀ k2 : Nat, Pc (qw_X13_work_50 nn rc k2 l2 h) Q := by
        unfold qw_X13_work_50 at HA
        exact hR _ (pi_p HA c _ rfl)
      exact R2 (k + 1)
    · unfold qw_X13_work_50 at HA ⊢
      have HA := pi_n HA c
      refine pc_if (fun z => absurd z (by omega)) (fun _ => ?_)
      have HA := pi_xl (pi_xl HA)
      refine pc_xl ?_; intro v8 e8
      refine pc_xl ?_; intro h9 e9
      rw [← e8, ← e9] at HA
      rw [oq_sub_eq (by omega) (by omega) (by omega)] at e8
      have t9 : h9 160 57 = h 160 57 - 1 := by rw [e9, up_s]; exact e8
      refine pc_rA ?_; intro a1 a2 v12 e12
      have HA := pi_rA HA a1 a2
      rw [← e12] at HA
      refine pc_se ?_; intro u16 e16
      have HA := pi_sv HA e16
      have K := HR v12 h9 (by omega) _ e16
      have t17 : u16 160 57 = h 160 57 - 1 := K.1.trans t9
      exact ih u16 (by omega) (by omega) HA
theorem mw_7 {rc : tq_X13_work} (HR : ∀ (e : Int) (h : ms_M), 0 ≤ h 160 57 ∧ h 160 57 ≤ 10000 → Pc (rc.2.1 e h) (fun u => RKp h u)) {Q R : ms_M → Prop} {l2 b : Int} (hR : ∀ z : ms_M, R z → ∀ k2 : Nat, Pc (qw_X13_work_50 nn rc k2 l2 z) Q) (lb : 0 ≤ l2 ∧ l2 ≤ b) : ∀ (f : Nat) (at_ : Int) (h : ms_M), b ≤ h 160 57 → h 160 57 ≤ 10000 → Pc (qw_X13_work_7 nn rc (f + 1) b at_ h) R → Pc (qw_X13_work_7 nn rc f l2 at_ h) Q := by
  intro f
  induction f with
  | zero => intros; exact pc_none
  | succ f ih =>
    intro at_ h hb h6 HA
    unfold qw_X13_work_7 at HA ⊢
    refine pc_se ?_; intro u22 e22
    have HA := pi_sv HA e22
    refine pc_if (fun z => ?_) (fun z => ?_)
    · have HA := pi_p HA z
      refine pc_se ?_; intro u25 e25
      have HA := pi_sv HA e25
      have K := HR at_ h (by omega) _ e25
      have t26 : u25 160 57 = h 160 57 := K.1
      exact mw_50 HR hR lb nn u25 (by omega) (by omega) HA
    · have HA := pi_n HA z
      refine pc_wA ?_; intro b1 b2 h29 e29
      have HA := pi_wA HA b1 b2
      rw [← e29] at HA
      have t29 : h29 160 57 = h 160 57 := by rw [e29, up_n (by omega)]
      have HA := pi_xl (pi_xl HA)
      refine pc_xl ?_; intro v31 e31
      refine pc_xl ?_; intro h32 e32
      rw [← e31, ← e32] at HA
      rw [oq_add_eq (by omega) (by omega) (by omega)] at e31
      have t32 : h32 160 57 = h 160 57 + 1 := by rw [e32, up_s]; omega
      refine pc_rA ?_; intro a1 a2 v34 e34
      have HA := pi_rA HA a1 a2
      rw [← e34] at HA
      exact ih v34 h32 (by omega) (by omega) HA
theorem mw_ldd {rc : tq_X13_work} (HR : ∀ (e : Int) (h : ms_M), 0 ≤ h 160 57 ∧ h 160 57 ≤ 10000 → Pc (rc.2.1 e h) (fun u => RKp h u)) {Q R : ms_M → Prop} {e top : Int} (hR : ∀ z : ms_M, R z → ∀ k2 : Nat, Pc (qw_X13_work_50 nn rc k2 top z) Q) (h57 : h 160 57 = top) (ht : 0 ≤ top ∧ top < 9000) (hl : Pc (qf_X13_isLedInWords nn e h) (fun u => ¬ u = 0)) (HA : ∀ g : ms_M, g = up_M (up_M h 199 top.toNat e) 160 57 (top + 1) → Pc (qo_X13_work nn rc (h 170 e.toNat) g) R) : Pc (qo_X13_work nn rc e h) Q := by
  unfold qo_X13_work
  rw [h57]
  cases nn with
  | zero => exact pc_none
  | succ f =>
    unfold qw_X13_work_7
    refine pc_sv hl ?_; intro u22 q22
    refine pc_if (fun z => absurd z q22) (fun _ => ?_)
    rw [h57]
    refine pc_wA ?_; intro _ _ h29 e29
    have t29 : h29 160 57 = top := by rw [e29, up_n (by omega)]; exact h57
    refine pc_add (by omega) ?_; intro v31 e31
    refine pc_xl ?_; intro h32 e32
    refine pc_rA ?_; intro _ _ v34 e34
    have ev : v34 = h 170 e.toNat := by rw [e34, e32, up_n (by omega), e29, up_n (by omega)]
    have G := HA h32 (by rw [e32, e29, e31, t29])
    have t32 : h32 160 57 = top + 1 := by rw [e32, up_s]; omega
    unfold qo_X13_work at G
    rw [t32] at G
    rw [ev]
    exact mw_7 HR hR (by omega) f _ h32 (by omega) (by omega) G
theorem mw_pop {rc : tq_X13_work} (HR : ∀ (e : Int) (h : ms_M), 0 ≤ h 160 57 ∧ h 160 57 ≤ 10000 → Pc (rc.2.1 e h) (fun u => RKp h u)) {Q : ms_M → Prop} {e top : Int} (ht : 0 ≤ top ∧ top < 9000) (g57 : g 160 57 = top + 1) (gr : g 199 top.toNat = e) (T : Pc (rc.2.1 e (up_M g 160 57 top)) Q) : ∀ k : Nat, Pc (qw_X13_work_50 nn rc k top g) Q := by
  intro k
  cases k with
  | zero => exact pc_none
  | succ k =>
    unfold qw_X13_work_50
    refine pc_if (fun y => absurd y (by omega)) (fun _ => ?_)
    refine pc_sub (by omega) ?_; intro v8 e8
    refine pc_xl ?_; intro h9 e9
    rw [show v8 = top by omega] at e9
    have t9 : h9 160 57 = top := by rw [e9, up_s]
    refine pc_rA ?_; intro _ _ v12 e12
    rw [t9, e9, up_n (by omega), gr] at e12
    rw [e12]
    rw [← e9] at T
    refine pc_se ?_; intro u16 e16
    have K := HR e h9 (by omega) _ e16
    have q := T _ e16
    cases k with
    | zero => exact pc_none
    | succ k =>
      unfold qw_X13_work_50
      refine pc_if (fun _ => pc_ret q) (fun y => absurd (by rw [K.1, t9]; exact Int.le_refl _) y)
/-- an E that is not led -/
theorem mw_one {rc : tq_X13_work} (HR : ∀ (e : Int) (h : ms_M), 0 ≤ h 160 57 ∧ h 160 57 ≤ 10000 → Pc (rc.2.1 e h) (fun u => RKp h u)) {Q : ms_M → Prop} {e : Int} (b : 0 ≤ h 160 57 ∧ h 160 57 ≤ 10000) (hl : Pc (qf_X13_isLedInWords nn e h) (fun u => u = 0)) (T : Pc (rc.2.1 e h) Q) : Pc (qo_X13_work nn rc e h) Q := by
  unfold qo_X13_work
  cases nn with
  | zero => exact pc_none
  | succ f =>
    unfold qw_X13_work_7
    refine pc_sv hl ?_; intro u22 q22
    refine pc_if (fun _ => ?_) (fun z => absurd q22 z)
    refine pc_se ?_; intro u16 e16
    have K := HR e h b _ e16
    have q := T _ e16
    unfold qw_X13_work_50
    refine pc_if (fun _ => pc_ret q) (fun y => absurd (by rw [K.1]; exact Int.le_refl _) y)
end

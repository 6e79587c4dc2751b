/- the reference goes down the left side of an E and up again -/
def RKp (h u : ms_M) : Prop := u 160 57 = h 160 57 ∧ ∀ j : Nat, (j : Int) < h 160 57 → u 199 j = h 199 j
section
variable {nn : Nat} {h g u r m w : ms_M}
theorem pi_rA {α : Type} {Q : α → Prop} {n : Int} {c : Nat} {j : Int} {M : ms_M} {G : Int → Option α} (H : Pc (rd_A n c j M G) Q) (a : 0 ≤ j) (b : j < n) : Pc (G (M c j.toNat)) Q := by
  unfold rd_A at H
  rw [if_pos ⟨a, b⟩] at H
  exact H
theorem pi_wA {α : Type} {Q : α → Prop} {n : Int} {c : Nat} {j v : Int} {M : ms_M} {G : ms_M → Option α} (H : Pc (wr_A n c j v M G) Q) (a : 0 ≤ j) (b : j < n) : Pc (G (up_M M c j.toNat v)) Q := by
  unfold wr_A at H
  rw [if_pos ⟨a, b⟩] at H
  exact H
theorem pi_sv {α β : Type} {Q : α → Prop} {x : Option β} {F : β → Option α} {a : β} (H : Pc (mx_sv x F) Q) (e : x = some a) : Pc (F a) Q := by
  rw [e, mx_svs] at H
  exact H
theorem pi_xl {α β : Type} {Q : α → Prop} {v : β} {F : β → Option α} (H : Pc (xl v F) Q) : Pc (F v) Q := H
theorem pi_p {α : Type} {Q : α → Prop} {c : Prop} {d : Decidable c} {x y : Option α} (H : Pc (if c then x else y) Q) (z : c) : Pc x Q := by rw [if_pos z] at H; exact H
theorem pi_n {α : Type} {Q : α → Prop} {c : Prop} {d : Decidable c} {x y : Option α} (H : Pc (if c then x else y) Q) (z : ¬ c) : Pc y Q := by rw [if_neg z] at H; exact H
theorem up_id {c k : Nat} {v : Int} (e : v = h c k) : up_M h c k v = h := by
  funext cc x
  by_cases q : cc = c ∧ x = k
  · rw [q.1, q.2, up_s]; exact e
  · rw [up_n q]
theorem wk_65 {rc : tq_X13_condition} (HR : ∀ (e : Int) (h : ms_M), 0 ≤ h 160 57 ∧ h 160 57 ≤ 10000 → Pc (rc.2.2.2.1 e h) (fun u => RKp h u.2)) {Q R : Int × ms_M → Prop} {l1 l2 x b : Int} (hR : ∀ z : Int × ms_M, R z → ∀ k2 : Nat, Pc (qw_X13_worked_65 nn rc k2 l1 l2 z.2) Q) (hx : 0 ≤ x ∧ x < 9000) (lb : 0 ≤ l2 ∧ l2 ≤ b) : ∀ (k : Nat) (h : ms_M), b ≤ h 160 57 → h 160 57 ≤ 10000 → Pc (qw_X13_worked_65 nn rc k x b h) R → Pc (qw_X13_worked_65 nn rc k l1 l2 h) Q := by
  intro k
  induction k with
  | zero => intros; exact pc_none
  | succ k ih =>
    intro h hb h6 HA
    by_cases c : h 160 57 ≤ b
    · have R2 : ∀ k2 : Nat, Pc (qw_X13_worked_65 nn rc k2 l1 l2 h) Q := by
        unfold qw_X13_worked_65 at HA
        have H2 := pi_xl (pi_p HA c)
        rw [up_id (show b = h 160 57 by omega)] at H2
        by_cases f : h 160 9 = 0
        · have H3 := pi_rA (pi_p H2 f) hx.1 hx.2
          exact hR _ (H3 _ rfl)
        · have H3 := pi_n H2 f
          exact hR _ (H3 _ rfl)
      exact R2 (k + 1)
    · unfold qw_X13_worked_65 at HA ⊢
      have HA := pi_n HA c
      refine pc_if (fun z => absurd z (by omega)) (fun _ => ?_)
      have HA := pi_xl (pi_xl HA)
      refine pc_xl ?_; intro v8 e8
      refine pc_xl ?_; intro h9 e9
      rw [← e8, ← e9] at HA
      rw [oq_sub_eq (by omega) (by omega) (by omega)] at e8
      have t9 : h9 160 57 = h 160 57 - 1 := by rw [e9, up_s]; exact e8
      refine pc_rA ?_; intro a1 a2 v12 e12
      have HA := pi_rA HA a1 a2
      rw [← e12] at HA
      refine pc_if (fun f => ?_) (fun f => ?_)
      · have HA := pi_p HA f
        refine pc_se ?_; intro u16 e16
        have HA := pi_sv HA e16
        have K := HR v12 h9 (by omega) _ e16
        refine pc_wA ?_; intro b1 b2 h17 e17
        have HA := pi_wA HA b1 b2
        rw [← e17] at HA
        have t17 : h17 160 57 = h 160 57 - 1 := by rw [e17, up_n (by omega), K.1]; exact t9
        exact ih h17 (by omega) (by omega) HA
      · have HA := pi_n HA f
        refine pc_wA ?_; intro b1 b2 h18 e18
        have HA := pi_wA HA b1 b2
        rw [← e18] at HA
        have t18 : h18 160 57 = h 160 57 - 1 := by rw [e18, up_n (by omega)]; exact t9
        exact ih h18 (by omega) (by omega) HA
theorem wk_16 {rc : tq_X13_condition} (HR : ∀ (e : Int) (h : ms_M), 0 ≤ h 160 57 ∧ h 160 57 ≤ 10000 → Pc (rc.2.2.2.1 e h) (fun u => RKp h u.2)) {Q R : Int × ms_M → Prop} {l1 l2 x b : Int} (hR : ∀ z : Int × ms_M, R z → ∀ k2 : Nat, Pc (qw_X13_worked_65 nn rc k2 l1 l2 z.2) Q) (hx : 0 ≤ x ∧ x < 9000) (lb : 0 ≤ l2 ∧ l2 ≤ b) : ∀ (f : Nat) (at_ : Int) (h : ms_M), b ≤ h 160 57 → h 160 57 ≤ 10000 → Pc (qw_X13_worked_16 nn rc (f + 1) x b at_ h) R → Pc (qw_X13_worked_16 nn rc f l1 l2 at_ h) Q := by
  intro f
  induction f with
  | zero => intros; exact pc_none
  | succ f ih =>
    intro at_ h hb h6 HA
    unfold qw_X13_worked_16 at HA ⊢
    refine pc_se ?_; intro u22 e22
    have HA := pi_sv HA e22
    refine pc_if (fun z => ?_) (fun z => ?_)
    · have HA := pi_p HA z
      refine pc_se ?_; intro u25 e25
      have HA := pi_sv HA e25
      have K := HR at_ h (by omega) _ e25
      refine pc_wA ?_; intro b1 b2 h26 e26
      have HA := pi_wA HA b1 b2
      rw [← e26] at HA
      have t26 : h26 160 57 = h 160 57 := by rw [e26, up_n (by omega)]; exact K.1
      exact wk_65 HR hR hx lb nn h26 (by omega) (by omega) HA
    · have HA := pi_n HA z
      refine pc_wA ?_; intro b1 b2 h29 e29
      have HA := pi_wA HA b1 b2
      rw [← e29] at HA
      have t29 : h29 160 57 = h 160 57 := by rw [e29, up_n (by omega)]
      have HA := pi_xl (pi_xl HA)
      refine pc_xl ?_; intro v31 e31
      refine pc_xl ?_; intro h32 e32
      rw [← e31, ← e32] at HA
      rw [oq_add_eq (by omega) (by omega) (by omega)] at e31
      have t32 : h32 160 57 = h 160 57 + 1 := by rw [e32, up_s]; omega
      refine pc_rA ?_; intro a1 a2 v34 e34
      have HA := pi_rA HA a1 a2
      rw [← e34] at HA
      exact ih v34 h32 (by omega) (by omega) HA
/-- an E that is led: first its left side -/
theorem wk_ldd {rc : tq_X13_condition} (HR : ∀ (e : Int) (h : ms_M), 0 ≤ h 160 57 ∧ h 160 57 ≤ 10000 → Pc (rc.2.2.2.1 e h) (fun u => RKp h u.2)) {Q R : Int × ms_M → Prop} {e top : Int} (hR : ∀ z : Int × ms_M, R z → ∀ k2 : Nat, Pc (qw_X13_worked_65 nn rc k2 e top z.2) Q) (h57 : h 160 57 = top) (ht : 0 ≤ top ∧ top < 9000) (hf : h 160 9 = 0) (hl : Pc (qf_X13_isLed nn e h) (fun u => ¬ u = 0)) (hx : 0 ≤ h 170 e.toNat ∧ h 170 e.toNat < 9000) (HA : ∀ g : ms_M, g = up_M (up_M h 199 top.toNat e) 160 57 (top + 1) → Pc (qo_X13_worked nn rc (h 170 e.toNat) g) R) : Pc (qo_X13_worked nn rc e h) Q := by
  unfold qo_X13_worked
  refine pc_if (fun _ => ?_) (fun z => absurd hf z)
  rw [h57]
  cases nn with
  | zero => exact pc_none
  | succ f =>
    unfold qw_X13_worked_16
    refine pc_sv hl ?_; intro u22 q22
    refine pc_if (fun z => absurd z q22) (fun _ => ?_)
    rw [h57]
    refine pc_wA ?_; intro _ _ h29 e29
    have t29 : h29 160 57 = top := by rw [e29, up_n (by omega)]; exact h57
    refine pc_add (by omega) ?_; intro v31 e31
    refine pc_xl ?_; intro h32 e32
    refine pc_rA ?_; intro _ _ v34 e34
    have ev : v34 = h 170 e.toNat := by rw [e34, e32, up_n (by omega), e29, up_n (by omega)]
    have G := HA h32 (by rw [e32, e29, e31, t29])
    have f32 : h32 160 9 = 0 := by rw [e32, up_n (by omega), e29, up_n (by omega)]; exact hf
    have t32 : h32 160 57 = top + 1 := by rw [e32, up_s]; omega
    unfold qo_X13_worked at G
    have G := pi_p G f32
    rw [t32] at G
    rw [ev]
    exact wk_16 HR hR hx (by omega) f _ h32 (by omega) (by omega) G
/-- .. then itself -/
theorem wk_pop {rc : tq_X13_condition} (HR : ∀ (e : Int) (h : ms_M), 0 ≤ h 160 57 ∧ h 160 57 ≤ 10000 → Pc (rc.2.2.2.1 e h) (fun u => RKp h u.2)) {Q : Int × ms_M → Prop} {e top : Int} (ht : 0 ≤ top ∧ top < 9000) (he : 0 ≤ e ∧ e < 9000) (g57 : g 160 57 = top + 1) (gr : g 199 top.toNat = e) (T0 : ¬ g 160 9 = 0 → ∀ z : ms_M, z = up_M (up_M g 160 57 top) 174 e.toNat 0 → Q (0, z)) (T1 : g 160 9 = 0 → Pc (rc.2.2.2.1 e (up_M g 160 57 top)) (fun u => ∀ z : ms_M, z = up_M u.2 174 e.toNat u.1 → (z 160 9 = 0 → Q (u.1, z)) ∧ (¬ z 160 9 = 0 → Q (0, z)))) : ∀ k : Nat, Pc (qw_X13_worked_65 nn rc k e top g) Q := by
  have E : ∀ (k : Nat) (z : ms_M), z 160 57 = top → (z 160 9 = 0 → Q (z 174 e.toNat, z)) → (¬ z 160 9 = 0 → Q (0, z)) → Pc (qw_X13_worked_65 nn rc k e top z) Q := fun k z z7 z1 z2 => by
    cases k with
    | zero => exact pc_none
    | succ k =>
      unfold qw_X13_worked_65
      refine pc_if (fun _ => ?_) (fun y => absurd (by omega) y)
      rw [up_id z7.symm]
      refine pc_xl ?_; intro h2 e2
      rw [e2]
      refine pc_if (fun f => ?_) (fun f => pc_ret (z2 f))
      refine pc_rA ?_; intro _ _ v5 e5
      rw [e5]
      exact pc_ret (z1 f)
  intro k
  cases k with
  | zero => exact pc_none
  | succ k =>
    unfold qw_X13_worked_65
    refine pc_if (fun y => absurd y (by omega)) (fun _ => ?_)
    refine pc_sub (by omega) ?_; intro v8 e8
    refine pc_xl ?_; intro h9 e9
    rw [show v8 = top by omega] at e9
    have t9 : h9 160 57 = top := by rw [e9, up_s]
    refine pc_rA ?_; intro _ _ v12 e12
    rw [t9, e9, up_n (by omega), gr] at e12
    rw [e12]
    have f9 : h9 160 9 = g 160 9 := by rw [e9, up_n (by omega)]
    refine pc_if (fun f => ?_) (fun f => ?_)
    · have T := T1 (by rw [← f9]; exact f)
      rw [← e9] at T
      refine pc_se ?_; intro u16 e16
      have K := HR e h9 (by omega) _ e16
      have T := T _ e16
      refine pc_wA ?_; intro _ _ h17 e17
      obtain ⟨x1, x2⟩ := T h17 e17
      refine E k h17 (by rw [e17, up_n (by omega), K.1]; exact t9) (fun y => ?_) x2
      rw [show h17 174 e.toNat = u16.1 by rw [e17, up_s]]
      exact x1 y
    · refine pc_wA ?_; intro _ _ h18 e18
      refine E k h18 (by rw [e18, up_n (by omega)]; exact t9) (fun y => ?_) (fun _ => T0 (by rw [← f9]; exact f) h18 (by rw [e18, e9]))
      exact absurd (by rw [e18, up_n (by omega)] at y; exact y) f
end

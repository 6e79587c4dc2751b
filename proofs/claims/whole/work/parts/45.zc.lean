/- E of both sides: one that is led, and what fetches -/
section
variable {nn : Nat} {X : BCx} {dp i a b e t : Int} {p q q1 : Nat} {h g g2 u r v w m : ms_M}
theorem m_led (k : (m 167 e.toNat = 30 ∨ m 167 e.toNat = 32 ∨ m 167 e.toNat = 37 ∨ m 167 e.toNat = 38) ∨ (m 167 e.toNat = 31 ∧ m 176 e.toNat = -1)) : Pc (qf_X13_isLedInWords nn e m) (fun u => ¬ u = 0) := by
  unfold qf_X13_isLedInWords
  refine pc_rA ?_; intro _ _ v2 e2
  refine pc_if (fun _ => pc_ret (by decide)) (fun z1 => ?_)
  refine pc_if (fun _ => pc_ret (by decide)) (fun z2 => ?_)
  refine pc_if (fun _ => pc_ret (by decide)) (fun z3 => ?_)
  refine pc_if (fun _ => pc_ret (by decide)) (fun z4 => ?_)
  refine pc_if (fun z5 => absurd k (by omega)) (fun z5 => ?_)
  refine pc_rA ?_; intro _ _ v4 e4
  exact pc_if (fun z6 => absurd k (by omega)) (fun _ => pc_ret (by decide))
theorem r_led4 (k : r 167 e.toNat = 30 ∨ r 167 e.toNat = 32 ∨ r 167 e.toNat = 37 ∨ r 167 e.toNat = 38) : Pc (qf_X13_isLed nn e r) (fun u => ¬ u = 0) := by
  unfold qf_X13_isLed
  refine pc_rA ?_; intro _ _ v2 e2
  refine pc_if (fun _ => pc_ret (by decide)) (fun z1 => ?_)
  refine pc_if (fun _ => pc_ret (by decide)) (fun z2 => ?_)
  refine pc_if (fun _ => pc_ret (by decide)) (fun z3 => ?_)
  exact pc_if (fun _ => pc_ret (by decide)) (fun z4 => absurd k (by omega))
/-- what work leaves of the nodes -/
theorem wk_an (d : Nat) {x : Int} : Pc ((qg_X13_work nn d).1 x m) (fun z => ∀ cc y : Nat, 174 ≤ cc → cc ≤ 176 → z cc y = m cc y) := fun z ez cc y c1 c2 => (fg_X13_work nn d).1 z ez cc y (nw_of (by unfold wl_X13_work; simp only [List.mem_cons, List.not_mem_nil, or_false]; omega) (by unfold wf_X13_work; simp only [List.mem_cons, List.not_mem_nil, or_false, Prod.mk.injEq]; omega))
theorem mkc_led (kd : (bT X 167 e.toNat = 30 ∨ bT X 167 e.toNat = 32 ∨ bT X 167 e.toNat = 37 ∨ bT X 167 e.toNat = 38) ∨ (bT X 167 e.toNat = 31 ∧ v 176 e.toNat = -1)) (ne : 0 ≤ a ∧ a ≤ e ∧ e < b) (M1 : MKC nn X (bT X 170 e.toNat) a e p q1 h g v) (qq : q1 ≤ q) (R : ∀ (PB : Nat → Prop) (WL : Int → Int → Prop) (L : List (Int × Int)) (m : ms_M) (d : Nat), MKx X PB WL L g m → AN a b v m → (0 ≤ m 160 57 ∧ m 160 57 + (b - a) < 9000) → m 160 88 + 4 * (q : Int) ≤ 2000000000 + 4 * (q1 : Int) → Pc (qo_X13_workOne nn (qg_X13_work nn d) e m) (fun w => MKx X PB WL L u w ∧ (m 160 88 ≤ w 160 88 ∧ w 160 88 + 4 * (q1 : Int) ≤ m 160 88 + 4 * (q : Int)))) : MKC nn X e a b p q h u v := fun d PB WL L m M A z1 z2 => by
  cases d with
  | zero => exact pc_none
  | succ d =>
    have MT := (mk_t M).1
    have t7 := MT 167 e.toNat (by omega)
    have t0 := MT 170 e.toNat (by omega)
    have a6 := A 176 e.toNat (by omega) (by omega) (by omega) (by omega)
    refine mw_ldd (rk_work1 d) (R := fun z => MKx X PB WL L g z ∧ (z 160 57 = m 160 57 + 1 ∧ z 199 (m 160 57).toNat = e) ∧ (∀ cc x : Nat, 174 ≤ cc → cc ≤ 176 → z cc x = m cc x) ∧ (m 160 88 ≤ z 160 88 ∧ z 160 88 + 4 * (p : Int) ≤ m 160 88 + 4 * (q1 : Int))) ?_ rfl (by omega) (m_led (by rw [t7, a6]; exact kd)) ?_
    · intro z hz k2
      obtain ⟨Mz, ⟨z57, zr⟩, zA, zl⟩ := hz
      refine mw_pop (rk_work1 d) (by omega) z57 zr ?_ k2
      have Mz2 : MKx X PB WL L g (up_M z 160 57 (m 160 57)) := mk_r Mz (fun cc x y => up_n (by rcases y with y | y | y <;> first | (unfold RLm at y; omega) | omega))
      cases d with
      | zero => exact pc_none
      | succ d =>
        have X1 := R PB WL L _ d Mz2 (an_m A (fun cc x c1 c2 => by rw [up_n (by omega)]; exact zA cc x c1 c2)) (by rw [up_s]; omega) (by rw [up_n (by omega)]; omega)
        rw [up_n (by omega)] at X1
        exact pc_imp X1 (fun w y => ⟨y.1, by omega⟩)
    · intro g' eg
      rw [t0]
      have E1 : ∀ cc x : Nat, ¬ cc = 199 → ¬ (cc = 160 ∧ x = 57) → g' cc x = m cc x := fun cc x y1 y2 => by rw [eg, up_n (by omega), up_n (by omega)]
      have g57 : g' 160 57 = m 160 57 + 1 := by rw [eg, up_s]
      have gr : g' 199 (m 160 57).toNat = e := by rw [eg, up_n (by omega), up_s]
      have Mg : MKx X PB WL L h g' := mk_r M (fun cc x y => E1 cc x (by rcases y with y | y | y <;> first | (unfold RLm at y; omega) | omega) (by rcases y with y | y | y <;> first | (unfold RLm at y; omega) | omega))
      have RK := (rkg_work nn (d + 1)).1 (a1 := bT X 170 e.toNat) (h := g') (by omega)
      have W1 := M1 (d + 1) PB WL L g' Mg (an_s (v1 := v) (an_m A (fun cc x c1 c2 => E1 cc x (by omega) (by omega))) ⟨Int.le_refl _, by omega⟩ (fun _ _ _ _ _ _ => rfl)) (by omega) (by rw [E1 160 88 (by omega) (by omega)]; omega)
      refine pc_imp (pc_and W1 (pc_and RK (wk_an (d + 1)))) (fun z y => ?_)
      obtain ⟨⟨y1, y2⟩, ⟨y3, y4⟩, y5⟩ := y
      rw [E1 160 88 (by omega) (by omega)] at y2
      exact ⟨y1, ⟨by rw [y3]; exact g57, by rw [y4 _ (by omega)]; exact gr⟩, fun cc x c1 c2 => by rw [y5 cc x c1 c2]; exact E1 cc x (by omega) (by omega), y2⟩
theorem c_isNum {t : Int} : Pc (qf_X4_isNumber nn t h) (fun u => (u = 1 ∧ (t = 301 ∨ t = 302)) ∨ (u = 0 ∧ ¬ t = 301 ∧ ¬ t = 302)) := by
  unfold qf_X4_isNumber
  refine pc_if (fun z => pc_ret (.inl ⟨rfl, .inl z⟩)) (fun z => ?_)
  exact pc_if (fun z2 => pc_ret (.inr ⟨rfl, z, z2⟩)) (fun z2 => pc_ret (.inl ⟨rfl, .inr (Classical.byContradiction z2)⟩))
theorem ty_num (n8 : bn X ≤ 8) (V : VTn (bn X) t) : ty_T t ≤ 1 ↔ (t = 301 ∨ t = 302) := by
  have c := ty_c (vtn_v n8 V)
  omega
end

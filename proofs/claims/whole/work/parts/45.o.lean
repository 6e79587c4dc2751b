section
/- an E that is not led -/
section
variable {nn : Nat} {h g : ms_M}
theorem wk_one {rc : tq_X13_condition} (HR : ∀ (e : Int) (h : ms_M), 0 ≤ h 160 57 ∧ h 160 57 ≤ 10000 → Pc (rc.2.2.2.1 e h) (fun u => RKp h u.2)) {Q : Int × ms_M → Prop} {e : Int} (b : 0 ≤ h 160 57 ∧ h 160 57 ≤ 10000) (hf : h 160 9 = 0) (hl : Pc (qf_X13_isLed nn e h) (fun u => u = 0)) (T : Pc (rc.2.2.2.1 e h) (fun u => ∀ z : ms_M, z = up_M u.2 174 e.toNat u.1 → (z 160 9 = 0 → Q (u.1, z)) ∧ (¬ z 160 9 = 0 → Q (0, z)))) : Pc (qo_X13_worked nn rc e h) Q := by
  unfold qo_X13_worked
  refine pc_if (fun _ => ?_) (fun z => absurd hf z)
  cases nn with
  | zero => exact pc_none
  | succ f =>
    unfold qw_X13_worked_16
    refine pc_sv hl ?_; intro u22 q22
    refine pc_if (fun _ => ?_) (fun z => absurd q22 z)
    refine pc_se ?_; intro u16 e16
    have K := HR e h b _ e16
    have T := T _ e16
    refine pc_wA ?_; intro _ _ h17 e17
    obtain ⟨x1, x2⟩ := T h17 e17
    have t17 : h17 160 57 = h 160 57 := by rw [e17, up_n (by omega)]; exact K.1
    unfold qw_X13_worked_65
    refine pc_if (fun _ => ?_) (fun y => absurd (by omega) y)
    rw [up_id t17.symm]
    refine pc_xl ?_; intro h2 e2
    rw [e2]
    refine pc_if (fun y => ?_) (fun y => pc_ret (x2 y))
    refine pc_rA ?_; intro _ _ v5 e5
    rw [e5, show h17 174 e.toNat = u16.1 by rw [e17, up_s]]
    exact pc_ret (x1 y)
/-- the rule of each level keeps its rows -/
theorem rk_rule (d : Nat) : ∀ (e : Int) (h : ms_M), 0 ≤ h 160 57 ∧ h 160 57 ≤ 10000 → Pc ((qg_X13_condition nn d).2.2.2.1 e h) (fun u => RKp h u.2) := fun _ _ S => (rkg_condition nn d).2.2.2.1 S
theorem rk_work1 (d : Nat) : ∀ (e : Int) (h : ms_M), 0 ≤ h 160 57 ∧ h 160 57 ≤ 10000 → Pc ((qg_X13_work nn d).2.1 e h) (fun u => RKp h u) := fun _ _ S => (rkg_work nn d).2.1 S
end
end
section
/- CODE of both sides held together: stack and bytes -/
/-- the types of a value on both sides -/
def TJ (nC : Nat) (x t : Int) : Prop := x = ty_T t ∧ VTn nC t ∧ ¬ t = 303
def SKJ (nC : Nat) (h m : ms_M) : Prop := (h 34 3 = m 160 70 ∧ h 34 4 = m 160 71 ∧ 0 ≤ h 34 3 ∧ h 34 3 ≤ h 34 4) ∧ ∀ i : Nat, (i : Int) < h 34 3 → i < 20 → TJ nC (m 207 i) (h 36 i)
/-- PB: bytes of an aim that the reference still has open; nothing is said where the pool is over or the CODE is too long -/
def CBY (PB : Nat → Prop) (h m : ms_M) : Prop := (h 34 1 = m 160 68 ∧ 0 ≤ h 34 1) ∧ (¬ h 45 5 = 1 → h 34 1 ≤ 1500 → ∀ x : Nat, (x : Int) < h 34 1 → ¬ PB x → m 206 x = h 35 x % 256)
section
variable {nC : Nat} {h g m w : ms_M} {PB : Nat → Prop}
theorem skj_k (S : SKJ nC h m) (e1 : ∀ cc x : Nat, (cc = 34 ∧ (x = 3 ∨ x = 4)) ∨ cc = 36 → g cc x = h cc x) (e2 : ∀ cc x : Nat, (cc = 160 ∧ (x = 70 ∨ x = 71)) ∨ cc = 207 → w cc x = m cc x) : SKJ nC g w := by
  obtain ⟨a, b⟩ := S
  refine ⟨by rw [e1 34 3 (by omega), e1 34 4 (by omega), e2 160 70 (by omega), e2 160 71 (by omega)]; exact a, fun i hi h2 => ?_⟩
  rw [e1 34 3 (by omega)] at hi
  rw [e2 207 i (by omega), e1 36 i (by omega)]
  exact b i hi h2
/-- nothing of it but, perhaps, that the pool is over -/
theorem cby_p (S : CBY PB h m) (e1 : ∀ cc x : Nat, (cc = 34 ∧ x = 1) ∨ cc = 35 → g cc x = h cc x) (e5 : h 45 5 = 1 → g 45 5 = 1) (e2 : ∀ cc x : Nat, (cc = 160 ∧ x = 68) ∨ cc = 206 → w cc x = m cc x) : CBY PB g w := by
  obtain ⟨a, b⟩ := S
  refine ⟨by rw [e1 34 1 (by omega), e2 160 68 (by omega)]; exact a, fun o l x hx p => ?_⟩
  rw [e1 34 1 (by omega)] at hx l
  rw [e2 206 x (by omega), e1 35 x (by omega)]
  exact b (fun z => o (e5 z)) l x hx p
theorem cby_k (S : CBY PB h m) (e1 : ∀ cc x : Nat, (cc = 34 ∧ x = 1) ∨ cc = 35 ∨ (cc = 45 ∧ x = 5) → g cc x = h cc x) (e2 : ∀ cc x : Nat, (cc = 160 ∧ x = 68) ∨ cc = 206 → w cc x = m cc x) : CBY PB g w := cby_p S (fun cc x z => e1 cc x (by omega)) (fun z => by rw [e1 45 5 (by omega)]; exact z) e2
theorem sk_push {t t2 : Int} (S : SKJ nC h m) (A : CPu t h g) (B : RPs t2 m w) (e : TJ nC t2 t) : SKJ nC g w := by
  obtain ⟨⟨s1, s2, s3, s4⟩, s5⟩ := S
  obtain ⟨a1, a2, a3, a4⟩ := A
  obtain ⟨-, b1, b2, b3, b4⟩ := B
  refine ⟨⟨by omega, by rw [a2, b2, s1, s2], by omega, by rw [a2]; split <;> omega⟩, fun i hi h2 => ?_⟩
  by_cases q : (i : Int) = h 34 3
  · rw [show i = (h 34 3).toNat by omega, a3 (by omega), s1, b3]; exact e
  · rw [b4 207 i (by omega) (by omega), a4 36 i (by omega) (by omega)]
    exact s5 i (by omega) h2
theorem sk_pop {n : Int} (S : SKJ nC h m) (A : CPo n h g) (hn : 0 ≤ n ∧ n ≤ h 34 3) (e7 : w 160 70 = m 160 70 - n) (e2 : ∀ cc x : Nat, (cc = 160 ∧ x = 71) ∨ cc = 207 → w cc x = m cc x) : SKJ nC g w := by
  obtain ⟨⟨s1, s2, s3, s4⟩, s5⟩ := S
  obtain ⟨a1, a2⟩ := A
  have a3 : g 34 3 = h 34 3 - n := by rw [a1]; split <;> omega
  have a4 : g 34 4 = h 34 4 := a2 34 4 (by omega)
  refine ⟨⟨by omega, by rw [a4, e2 160 71 (by omega)]; exact s2, by omega, by omega⟩, fun i hi h2 => ?_⟩
  rw [e2 207 i (by omega), a2 36 i (by omega)]
  exact s5 i (by omega) h2
theorem cb_op {v v2 : Int} (C : CBY PB h m) (A : COp v h g) (B : RPt v2 m w) (e : ¬ h 45 5 = 1 → v2 = v) (hv : ¬ h 45 5 = 1 → in_R v) : CBY PB g w := by
  obtain ⟨⟨c1, c2⟩, c3⟩ := C
  obtain ⟨a1, a2, a3⟩ := A
  obtain ⟨b1, b2, b3⟩ := B
  have g5 := a3 45 5 (by omega) (by omega)
  refine ⟨by omega, fun o l x hx p => ?_⟩
  rw [g5] at o
  by_cases q : (x : Int) = h 34 1
  · rw [show x = (h 34 1).toNat by omega, a2 (by omega), c1, b2 (by omega), e o]
    exact by_rel (hv o)
  · rw [b3 206 x (by omega) (by omega), a3 35 x (by omega) (by omega)]
    exact c3 o (by omega) x (by omega) p
end
end
section
/- jumps of both sides held together -/
section
variable {nC : Nat} {h g m w : ms_M} {PB : Nat → Prop}
theorem cb_jump {o n l : Int} (C : CBY PB h m) (A : CJu o n h g) (B : RJu o l m w) (hv : in_R o) : CBY PB g w := by
  obtain ⟨⟨c1, c2⟩, c3⟩ := C
  obtain ⟨a1, -, ⟨a2, a3, a4⟩, a5⟩ := A
  obtain ⟨-, b1, -, -, -, ⟨b2, b3, b4⟩, b5⟩ := B
  have z0 : in_R 0 := by unfold in_R; omega
  have g5 := a5 45 5 (by omega) (by omega)
  refine ⟨by omega, fun q l x hx p => ?_⟩
  rw [g5] at q
  by_cases q0 : (x : Int) = h 34 1
  · rw [show x = (h 34 1).toNat by omega, a2 (by omega), c1, b2 (by omega)]
    exact by_rel hv
  · by_cases q1 : (x : Int) = h 34 1 + 1
    · rw [show x = (h 34 1).toNat + 1 by omega, a3 (by omega), c1, b3 (by omega)]
      exact by_rel z0
    · by_cases q2 : (x : Int) = h 34 1 + 2
      · rw [show x = (h 34 1).toNat + 2 by omega, a4 (by omega), c1, b4 (by omega)]
        exact by_rel z0
      · rw [b5 206 x (by omega) (by omega) (by omega), a5 35 x (by omega) (by omega)]
        exact c3 q (by omega) x (by omega) p
theorem sk_jump {o n : Int} (S : SKJ nC h m) (A : CJu o n h g) (hn : 0 ≤ n ∧ n ≤ h 34 3) (e7 : w 160 70 = m 160 70 - n) (e2 : ∀ cc x : Nat, (cc = 160 ∧ x = 71) ∨ cc = 207 → w cc x = m cc x) : SKJ nC g w := by
  obtain ⟨⟨s1, s2, s3, s4⟩, s5⟩ := S
  obtain ⟨-, a1, -, a2⟩ := A
  have a3 : g 34 3 = h 34 3 - n := by rw [a1]; split <;> omega
  have a4 : g 34 4 = h 34 4 := a2 34 4 (by omega) (by omega)
  refine ⟨⟨by omega, by rw [a4, e2 160 71 (by omega)]; exact s2, by omega, by omega⟩, fun i hi h2 => ?_⟩
  rw [e2 207 i (by omega), a2 36 i (by omega) (by omega)]
  exact s5 i (by omega) h2
theorem jl_jump {o l : Int} {L : List (Int × Int)} (J : JLs m L) (B : RJu o l m w) : JLs w (L ++ [(m 160 68, l)]) := by
  obtain ⟨j1, j2⟩ := J
  obtain ⟨-, -, b1, b2, b3, -, b5⟩ := B
  have lk : (L ++ [(m 160 68, l)]).length = L.length + 1 := by rw [List.length_append]; rfl
  refine ⟨by rw [lk]; omega, fun k hk => ?_⟩
  rw [lk] at hk
  by_cases q : k = L.length
  · rw [q, gp_e]
    rw [show (m 160 87).toNat = L.length by omega] at b2 b3
    exact ⟨b2, b3⟩
  · rw [gp_l L k (by omega), b5 217 k (by omega) (by omega) (by omega), b5 218 k (by omega) (by omega) (by omega)]
    exact j2 k (by omega)
theorem jl_k {L : List (Int × Int)} (J : JLs m L) (e : ∀ cc x : Nat, (cc = 160 ∧ x = 87) ∨ cc = 217 ∨ cc = 218 → w cc x = m cc x) : JLs w L :=
  ⟨by rw [e 160 87 (by omega)]; exact J.1, fun k hk => by rw [e 217 k (by omega), e 218 k (by omega)]; exact J.2 k hk⟩
end
end

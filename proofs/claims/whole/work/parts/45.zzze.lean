/- S of both sides: a variable -/
section
variable {nn : Nat} {X : BCx} {dp i a b a1 b1 a2 b2 e s bb lb lh d o en k ix x t : Int} {p q : Nat} {h g u r w m z k0 k1 k2 k3 : ms_M} {v : Int × ms_M} {PB : Nat → Prop} {WL : Int → Int → Prop} {L : List (Int × Int)}
/-- a variable comes behind the ops rather than before -/
theorem cla_swap {n : Int} (A : CLa x t u k0) (B1 : COp o k0 k1) (B2 : COp n k1 k2) (B3 : CPo 1 k2 k3) : ∃ g1 g2 g3 : ms_M, COp o u g1 ∧ COp n g1 g2 ∧ CPo 1 g2 g3 ∧ CLa x t g3 k3 := by
  obtain ⟨a1, a2, a3, a4⟩ := A
  have E0' : ∀ cc y : Nat, ¬ ((cc = 34 ∧ (y = 7 ∨ y = 8)) ∨ cc = 37 ∨ cc = 38) → k0 cc y = u cc y := fun cc y q => a4 cc y (by omega) (by omega)
  obtain ⟨rq, r1, r2⟩ : ∃ rq : ms_M → ms_M, (∀ (k : ms_M) (cc y : Nat), (cc = 34 ∧ (y = 7 ∨ y = 8)) ∨ cc = 37 ∨ cc = 38 → rq k cc y = u cc y) ∧ ∀ (k : ms_M) (cc y : Nat), ¬ ((cc = 34 ∧ (y = 7 ∨ y = 8)) ∨ cc = 37 ∨ cc = 38) → rq k cc y = k cc y := ⟨fun k cc y => if (cc = 34 ∧ (y = 7 ∨ y = 8)) ∨ cc = 37 ∨ cc = 38 then u cc y else k cc y, fun k cc y q => if_pos q, fun k cc y q => if_neg q⟩
  have l0 := E0' 34 1 (by omega)
  have l03 := E0' 34 3 (by omega)
  refine ⟨rq k1, rq k2, rq k3, ⟨?_, fun q => ?_, fun cc y q1 q2 => ?_⟩, ⟨?_, fun q => ?_, fun cc y q1 q2 => ?_⟩, ⟨?_, fun cc y q => ?_⟩, ⟨?_, ?_, fun q => ?_, fun cc y q1 q2 => ?_⟩⟩
  · rw [r2 k1 34 1 (by omega), B1.1, l0]
  · rw [r2 k1 35 _ (by omega), ← l0]; exact B1.2.1 (by omega)
  · by_cases z : (cc = 34 ∧ (y = 7 ∨ y = 8)) ∨ cc = 37 ∨ cc = 38
    · exact r1 k1 cc y z
    · rw [r2 k1 cc y z, B1.2.2 cc y q1 (by rw [l0]; exact q2)]; exact E0' cc y z
  · rw [r2 k2 34 1 (by omega), r2 k1 34 1 (by omega)]; exact B2.1
  · rw [r2 k1 34 1 (by omega)] at q ⊢
    rw [r2 k2 35 _ (by omega)]; exact B2.2.1 q
  · rw [r2 k1 34 1 (by omega)] at q2
    by_cases z : (cc = 34 ∧ (y = 7 ∨ y = 8)) ∨ cc = 37 ∨ cc = 38
    · rw [r1 k2 cc y z, r1 k1 cc y z]
    · rw [r2 k2 cc y z, r2 k1 cc y z]; exact B2.2.2 cc y q1 q2
  · rw [r2 k3 34 3 (by omega), r2 k2 34 3 (by omega)]; exact B3.1
  · by_cases z : (cc = 34 ∧ (y = 7 ∨ y = 8)) ∨ cc = 37 ∨ cc = 38
    · rw [r1 k3 cc y z, r1 k2 cc y z]
    · rw [r2 k3 cc y z, r2 k2 cc y z]; exact B3.2 cc y q
  · rw [r1 k3 34 7 (by omega), B3.2 34 7 (by omega), B2.2.2 34 7 (by omega) (by omega), B1.2.2 34 7 (by omega) (by omega)]; exact a1
  · rw [r1 k3 34 8 (by omega), r1 k3 34 7 (by omega), B3.2 34 8 (by omega), B2.2.2 34 8 (by omega) (by omega), B1.2.2 34 8 (by omega) (by omega)]; exact a2
  · rw [r1 k3 34 7 (by omega)] at q ⊢
    rw [B3.2 37 _ (by omega), B2.2.2 37 _ (by omega) (by omega), B1.2.2 37 _ (by omega) (by omega), B3.2 38 _ (by omega), B2.2.2 38 _ (by omega) (by omega), B1.2.2 38 _ (by omega) (by omega)]
    exact a3 q
  · rw [r1 k3 34 7 (by omega)] at q2
    by_cases z : cc = 37 ∨ cc = 38
    · rw [r1 k3 cc y (by omega), B3.2 cc y (by omega), B2.2.2 cc y (by omega) (by omega), B1.2.2 cc y (by omega) (by omega)]
      exact a4 cc y (by omega) (by omega)
    · rw [r2 k3 cc y (by omega)]
theorem c_bv1 (Y : CXs X) (TB : TBc (bK X) (bP X) (bc X) h) (hp : h 2 10 = (p : Int)) (pc : p < bc X) (f : h 2 11 = 0) (T : TYp (bK X) (p : Int)) : Pc (qf_X9_beginsVariable nn h) (fun u => u = 1) := by
  have c3 := Y.1.2.1
  have T1 : bK X p = 20 ∨ bK X p = 10 ∨ (bK X p = 2 ∧ (bK X (p + 1) = 2 ∨ (bK X (p + 1) = 44 ∧ bK X (p + 2) = 45))) := T
  unfold qf_X9_beginsVariable
  refine pc_sv (c_kind Y.1 TB pc hp f) ?_; intro u2 q2
  rw [hp]
  refine pc_if (fun z => ?_) (fun z => ?_)
  · refine pc_add (by omega) ?_; intro v4 e4
    refine pc_sv (c_kindAt Y.1 TB (t := p + 1) (by omega)) ?_; intro u6 q6
    refine pc_if (fun _ => pc_ret rfl) (fun z6 => ?_)
    refine pc_if (fun z => absurd (show u6 = 44 by omega) z) (fun _ => ?_)
    refine pc_add (by omega) ?_; intro v8 e8
    refine pc_sv (c_kindAt Y.1 TB (t := p + 2) (by omega)) ?_; intro u10 q10
    exact pc_if (fun z => absurd (show u10 = 45 by omega) z) (fun _ => pc_ret rfl)
  · refine pc_if (fun _ => pc_ret rfl) (fun z2 => ?_)
    exact pc_if (fun z => absurd (show u2 = 10 by omega) z) (fun _ => pc_ret rfl)
theorem c_bv0 (Y : CXs X) (TB : TBc (bK X) (bP X) (bc X) h) (hp : h 2 10 = (p : Int)) (pc : p < bc X) (f : h 2 11 = 0) (T : ¬ TYp (bK X) (p : Int)) : Pc (qf_X9_beginsVariable nn h) (fun u => u = 0) := by
  have c3 := Y.1.2.1
  have T1 : ¬ (bK X p = 20 ∨ bK X p = 10 ∨ (bK X p = 2 ∧ (bK X (p + 1) = 2 ∨ (bK X (p + 1) = 44 ∧ bK X (p + 2) = 45)))) := T
  unfold qf_X9_beginsVariable
  refine pc_sv (c_kind Y.1 TB pc hp f) ?_; intro u2 q2
  rw [hp]
  refine pc_if (fun z => ?_) (fun z => ?_)
  · refine pc_add (by omega) ?_; intro v4 e4
    refine pc_sv (c_kindAt Y.1 TB (t := p + 1) (by omega)) ?_; intro u6 q6
    refine pc_if (fun z => absurd (by omega) T1) (fun z6 => ?_)
    refine pc_if (fun _ => pc_ret rfl) (fun z7 => ?_)
    refine pc_add (by omega) ?_; intro v8 e8
    refine pc_sv (c_kindAt Y.1 TB (t := p + 2) (by omega)) ?_; intro u10 q10
    exact pc_if (fun _ => pc_ret rfl) (fun z => absurd (by omega) T1)
  · refine pc_if (fun z2 => absurd (by omega) T1) (fun z2 => ?_)
    exact pc_if (fun _ => pc_ret rfl) (fun z => absurd (by omega) T1)
end

/- E of both sides: an E that is sides; conditions -/
/-- what a condition leaves behind its E -/
def CDN (X : BCx) (x : Int) (p : Nat) (v1 : Int × ms_M) (w : ms_M) : Prop := (¬ v1.2 160 9 = 0 → FSr v1.2 w) ∧ (v1.2 160 9 = 0 → v1.1 = 3 → w 160 9 = 6 ∧ (0 ≤ bT X 168 x.toNat ∧ bT X 168 x.toNat < (bc X : Int) → w 160 10 = bP X (bT X 168 x.toNat).toNat)) ∧ (v1.2 160 9 = 0 → ∀ t : Int, VTn (bn X) t → ¬ t = 303 → v1.1 = ty_T t → (t = 302 ∧ w = v1.2) ∨ (¬ t = 302 ∧ w 160 9 = 6 ∧ w 160 10 = bP X p))
/-- .. and what is given -/
def GVN (X : BCx) (x : Int) (v1 y : Int × ms_M) : Prop := (¬ v1.2 160 9 = 0 → FSr v1.2 y.2) ∧ (v1.2 160 9 = 0 → v1.1 = 3 → y.2 160 9 = 6 ∧ (0 ≤ bT X 168 x.toNat ∧ bT X 168 x.toNat < (bc X : Int) → y.2 160 10 = bP X (bT X 168 x.toNat).toNat)) ∧ (v1.2 160 9 = 0 → ¬ v1.1 = 3 → y = v1)
section
variable {nn : Nat} {X : BCx} {dp i l a b e s k x : Int} {p q t : Nat} {h g u r w m : ms_M} {v : Int × ms_M}
theorem end_k (E : ENDk k) : st_T k = -1 ∧ ¬ k = 49 := by
  unfold ENDk at E
  rcases E with rfl | rfl | rfl | rfl | rfl | rfl <;> decide
/-- the class at the end of its signs -/
theorem c_129 {rc : tq_X10_readValue} {st bs c : Int} {f : Nat} {Z : ms_M → Prop} (ho : u 49 10 = bs) (b : 0 ≤ bs ∧ bs ≤ 10000) (H : Pc (qj_X10_readValue_156 nn rc dp st u) Z) : Pc (qw_X10_readValue_129 nn rc f dp st bs c u) Z := by
  cases f with
  | zero => exact pc_none
  | succ f =>
    unfold qw_X10_readValue_129
    refine pc_if (fun _ => H) (fun _ => ?_)
    have D : Pc (qf_X10_isSignDue nn bs 1 u) (fun y => y = 0) := by
      unfold qf_X10_isSignDue
      exact pc_if (fun _ => pc_ret rfl) (fun z => absurd (show u 49 10 ≤ bs by omega) z)
    refine pc_sv D ?_; intro u8 q8
    exact pc_if (fun _ => H) (fun z => absurd q8 z)
theorem epr_d {d2 : Int} (Q : EPr X dp p h r) (hd : dp ≤ d2) : EPr X d2 p h r := ⟨Q.1, Q.2.1, Q.2.2.1, Q.2.2.2.1, by have := Q.2.2.2.2.1; omega, Q.2.2.2.2.2⟩
/-- readValue: the sides first -/
theorem c_rv {d d2 : Nat} {Z : ms_M → Int × ms_M → Prop} {ix b1 e1 : Int} (Y : CXs X) (hd : 0 ≤ dp ∧ dp + 1 ≤ 40) (Q : EPr X dp p h r) (b57 : 0 ≤ r 160 57 ∧ r 160 57 + (b1 - a) < 9000 ∧ b1 ≤ 9000) (S : S1 nn X (dp + 1) ix 0 a b1 p q e1) (kq : st_T (bK X q) < 0) (HC : ∀ (u : ms_M) (v : Int × ms_M), EOk nn X ix a b1 p q e1 h r u v → Pc (qj_X10_readValue_156 nn (qg_X10_readValue nn d) dp (p : Int) u) (fun uF => Z uF v)) (HF : ∀ (uF : ms_M) (v : Int × ms_M), (SFj uF v.2 ∨ VDj X ix a b1 p q e1 h r uF v) → Z uF v) : Pc (qo_X10_readValue nn (qg_X10_readValue nn d) dp h) (fun uF => Pc ((qg_X13_condition nn d2).2.2.1 e1 r) (fun v => Z uF v)) := by
  obtain ⟨B, ⟨q1, q2, q3, q4⟩, f, o1, o2, o3⟩ := Q
  have Q : EPr X dp p h r := ⟨B, ⟨q1, q2, q3, q4⟩, f, o1, o2, o3⟩
  unfold qo_X10_readValue
  refine pc_if (fun _ => ?_) (fun z => absurd (show dp ≤ 42 by omega) z)
  refine pc_add (by omega) ?_; intro v47 e47
  rw [e47, q1]
  have W := S (by omega) d d2 nn h r (p : Int) (h 49 10) 0 Z (epr_d Q (by omega)) ⟨by omega, by omega, by omega, fun z => by omega⟩ b57 (by omega) (fun u v c tn K hc ht => ⟨fun z => absurd z (by omega), fun _ f => ?_⟩) HF
  · rw [show dp + 1 - 1 = dp by omega] at W
    exact W
  · rw [show dp + 1 - 1 = dp by omega]
    exact c_129 K.1.2.2.1.2.2.1 (by omega) (HC u v K)
theorem e0_es (Y : CXs X) (hd : 0 ≤ dp ∧ dp + 1 ≤ 40) (S : S1 nn X (dp + 1) i 0 a b p q e) : E0 nn X dp i a b p q e := by
  intro EN d d2 h r Q b57
  obtain ⟨s1, s2⟩ := end_k EN
  cases d with
  | zero => exact pc_none
  | succ d =>
    show Pc (qo_X10_readValue nn (qg_X10_readValue nn d) dp h) _
    refine c_rv Y hd Q b57 S (by omega) (fun u v K => ?_) (fun uF v S => .inl S)
    unfold qj_X10_readValue_156
    refine pc_sv (c_kind Y.1 (pk_b Q K.1) K.1.1.2.1 K.1.1.1 K.1.1.2.2.2.1) ?_; intro u3 q3
    exact pc_if (fun _ => pc_ret (.inr ⟨K.1, trivial, K.2.2⟩)) (fun z => absurd (show ¬ u3 = 49 by omega) z)
/-- given, told by worked -/
theorem r_given {d : Nat} {Q : Int × ms_M → Prop} (TQ : TBq (bK X) (bP X) (bc X) r) (T8 : ∀ cc y : Nat, 163 ≤ cc ∧ cc ≤ 173 → r cc y = bT X cc y) (H : Pc ((qg_X13_condition nn d).2.2.1 x r) (fun v1 => ∀ y, GVN X x v1 y → Q y)) : Pc ((qg_X13_condition nn (d + 1)).2.1 x r) Q := by
  show Pc (qo_X13_given nn (qg_X13_condition nn d) x r) Q
  unfold qo_X13_given
  refine pc_sv (pc_and H (wd_fr d)) ?_; intro v1 ⟨HV, F⟩
  have TQ1 : TBq (bK X) (bP X) (bc X) v1.2 := tbq_f TQ (fun cc y z => F cc y (by omega) (by omega) (by omega))
  refine pc_if (fun z => pc_ret (HV _ ⟨fun _ => ft_r, fun _ z2 => absurd z2 z, fun _ _ => rfl⟩)) (fun z => ?_)
  refine pc_rA ?_; intro _ _ v4 e4
  rw [F 168 _ (by omega) (by omega) (by omega), T8 168 _ (by omega)] at e4
  rw [e4]
  have z3 : v1.1 = 3 := Classical.byContradiction z
  by_cases z9 : v1.2 160 9 = 0
  · refine pc_sv (r_wrb TQ1 z9) ?_; intro u6 y
    exact pc_ret (HV _ ⟨fun z => absurd z9 z, fun _ _ => y, fun _ n => absurd z3 n⟩)
  · refine pc_sv (ft_qf_X13_wrong z9) ?_; intro u6 F6
    exact pc_ret (HV _ ⟨fun _ => F6, fun z => absurd z z9, fun z => absurd z z9⟩)
/-- a condition, told by worked -/
theorem r_cond {d : Nat} {Q : ms_M → Prop} (Y : CXs X) (TQ : TBq (bK X) (bP X) (bc X) r) (T8 : ∀ cc y : Nat, 163 ≤ cc ∧ cc ≤ 173 → r cc y = bT X cc y) (lab : bT X 169 x.toNat = (p : Int)) (pc : p < bc X) (H : Pc ((qg_X13_condition nn d).2.2.1 x r) (fun v1 => ∀ w, CDN X x p v1 w → Q w)) : Pc ((qg_X13_condition nn (d + 2)).1 x r) Q := by
  have n8 := Y.2.2.1
  show Pc (qo_X13_condition nn (qg_X13_condition nn (d + 1)) x r) Q
  unfold qo_X13_condition
  refine pc_sv (pc_and (r_given TQ T8 (pc_imp H (fun v1 HV y hy => show ∃ v1, (∀ w, CDN X x p v1 w → Q w) ∧ GVN X x v1 y from ⟨v1, HV, hy⟩))) (gv_fr (d + 1))) ?_; intro y ⟨⟨v1, HV, g1, g2, g3⟩, F⟩
  have TQ1 : TBq (bK X) (bP X) (bc X) y.2 := tbq_f TQ (fun cc y z => F cc y (by omega) (by omega) (by omega))
  by_cases z9 : v1.2 160 9 = 0
  · by_cases z3 : v1.1 = 3
    · obtain ⟨w1, w2⟩ := g2 z9 z3
      have DN : ∀ w : ms_M, FSr y.2 w → Q w := fun w F => HV w ⟨fun z => absurd z9 z, fun _ _ => ⟨F.1.trans w1, fun hb => F.2.trans (w2 hb)⟩, fun _ t2 y1 y2 y3 => absurd (y3.symm.trans z3) (fun y => y2 ((ty_3 (X := X) n8 y1).mp y))⟩
      refine pc_if (fun z => pc_ret (DN _ ft_r)) (fun z => ?_)
      refine pc_rA ?_; intro _ _ v4 e4
      refine pc_sv (ft_qf_X13_wrong (h := y.2) (by omega)) ?_; intro u6 F6
      exact pc_ret (DN _ F6)
    · rw [g3 z9 z3]
      rw [g3 z9 z3] at F TQ1
      have u1 : ∀ t2 : Int, VTn (bn X) t2 → (ty_T t2 = 1 ↔ t2 = 302) := fun t2 vt => by have := ty_c (vtn_v n8 vt); omega
      refine pc_if (fun z => pc_ret (HV _ ⟨fun z => absurd z9 z, fun _ z => absurd z z3, fun _ t2 y1 y2 y3 => .inl ⟨(u1 t2 y1).mp (by rw [← y3]; exact z), rfl⟩⟩)) (fun z => ?_)
      refine pc_rA ?_; intro _ _ v4 e4
      rw [F 169 _ (by omega) (by omega) (by omega), T8 169 _ (by omega), lab] at e4
      refine pc_sv (r_wrong TQ1 pc z9 e4) ?_; intro u6 w1
      exact pc_ret (HV _ ⟨fun z => absurd z9 z, fun _ z => absurd z z3, fun _ t2 y1 y2 y3 => .inr ⟨fun y => z (by rw [y3]; exact (u1 t2 y1).mpr y), w1⟩⟩)
  · have Fy := g1 z9
    have S : ¬ y.2 160 9 = 0 := by rw [Fy.1]; exact z9
    have DN : ∀ w : ms_M, FSr y.2 w → Q w := fun w F => HV w ⟨fun _ => ft_t Fy F, fun z => absurd z z9, fun z => absurd z z9⟩
    refine pc_if (fun z => pc_ret (DN _ ft_r)) (fun z => ?_)
    refine pc_rA ?_; intro _ _ v4 e4
    refine pc_sv (ft_qf_X13_wrong S) ?_; intro u6 F6
    exact pc_ret (DN _ F6)
end

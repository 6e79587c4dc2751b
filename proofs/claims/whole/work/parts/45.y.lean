/- E of both sides: constants and this -/
section
variable {nn : Nat} {X : BCx} {dp i a b e t : Int} {p q : Nat} {h g g2 u r v w m : ms_M}
theorem mkc_v {v1 : ms_M} (M : MKC nn X e a b p q h u v1) (E : ∀ cc x : Nat, 174 ≤ cc → cc ≤ 176 → a ≤ (x : Int) → (x : Int) < b → v cc x = v1 cc x) : MKC nn X e a b p q h u v := fun d PB WL L m M1 A z1 z2 => M d PB WL L m M1 (an_s A ⟨Int.le_refl _, Int.le_refl _⟩ E) z1 z2
/-- the class has made some CODE and gives a value -/
theorem pok_give (Q : EPr X dp p h r) (hq : q < bc X ∧ p < q) (ne : 0 ≤ a ∧ a ≤ e ∧ e < b) (A : CFe h g) (SG : SGb h g) (g10 : g 2 10 = (q : Int)) (g11 : g 2 11 = 0) (Fg : FRc g) (l1 : 0 ≤ g 34 1 ∧ g 34 1 + 20 * (p : Int) ≤ h 34 1 + 20 * (q : Int)) (g3 : 0 ≤ g 34 3 ∧ g 34 3 + 1 + (p : Int) ≤ h 34 3 + (q : Int)) (CP : CPu t g g2) (eu : u = up_M (up_M g2 49 12 t) 49 11 0) (tv : VTn (bn X) t ∧ ¬ t = 303) (R : RFe a b r v) (v9 : v 160 9 = 0) {y : Int × ms_M} (ey : y = (ty_T t, up_M v 174 e.toNat (ty_T t))) (FM : FM01 nn X i a b p q e h u (up_M v 174 e.toNat (ty_T t))) : POk nn X i a b p q e h r u y := by
  obtain ⟨c1, c2, -, c4⟩ := CP
  have U : ∀ cc x : Nat, ¬ (cc = 34 ∧ (x = 3 ∨ x = 4)) → ¬ cc = 36 → ¬ (cc = 49 ∧ (x = 11 ∨ x = 12)) → u cc x = g cc x := fun cc x z1 z2 z3 => by rw [eu, up_n (by omega), up_n (by omega)]; exact c4 cc x z1 (by omega)
  have u3 : u 34 3 = g 34 3 + 1 := by rw [eu, up_n (by omega), up_n (by omega)]; exact c1
  have u12 : u 49 12 = t := by rw [eu, up_n (by omega), up_s]
  rw [ey]
  refine ⟨⟨by rw [U 2 10 (by omega) (by omega) (by omega)]; exact g10, hq.1, hq.2, by rw [U 2 11 (by omega) (by omega) (by omega)]; exact g11, ?_⟩, ⟨?_, ?_, ?_⟩, ⟨?_, ?_, ?_⟩, ⟨?_, ?_, ?_⟩, .inl FM⟩
  · show up_M v 174 e.toNat (ty_T t) 160 9 = 0
    rw [up_n (by omega)]; exact v9
  · show ty_T t = ty_T (u 49 12)
    rw [u12]
  · rw [u12]; exact tv.1
  · show up_M v 174 e.toNat (ty_T t) 174 e.toNat = ty_T t
    rw [up_s]
  · exact fun cc x a1 a2 a3 a4 a5 a6 a7 a8 => by rw [U cc x (by omega) (by omega) (by omega)]; exact A cc x a1 a2 a3 a4 a5 a6 a7 a8
  · show RFe a b r (up_M v 174 e.toNat (ty_T t))
    exact ⟨fun cc x z1 z2 z3 => by rw [up_n (by omega)]; exact R.1 cc x z1 z2 z3, fun cc x z1 z2 z3 => by rw [up_n (by omega)]; exact R.2 cc x z1 z2 z3⟩
  · exact ⟨by rw [U 49 10 (by omega) (by omega) (by omega)]; exact SG.1, fun cc x z1 z2 z3 => by rw [U cc x (by omega) (by omega) (by omega)]; exact SG.2 cc x z1 z2 z3⟩
  · exact frc_k Fg (fun cc x z => U cc x (by omega) (by omega) (by omega))
  · rw [U 34 1 (by omega) (by omega) (by omega)]; exact l1
  · omega
/-- a leaf's making -/
theorem mkc_leaf (k : ¬ bT X 167 e.toNat = 30 ∧ ¬ bT X 167 e.toNat = 31 ∧ ¬ bT X 167 e.toNat = 32 ∧ ¬ bT X 167 e.toNat = 37 ∧ ¬ bT X 167 e.toNat = 38) (ne : 0 ≤ a ∧ a ≤ e ∧ e < b) (R : ∀ (PB : Nat → Prop) (WL : Int → Int → Prop) (L : List (Int × Int)) (m : ms_M) (d : Nat), MKx X PB WL L h m → AN a b v m → Pc (qo_X13_workOne nn (qg_X13_work nn d) e m) (fun w => MKx X PB WL L u w ∧ w 160 88 = m 160 88)) (pq : p ≤ q) : MKC nn X e a b p q h u v := fun d PB WL L m M A z1 z2 => by
  have T := (mk_t M).1 167 e.toNat (by omega)
  refine m_one (by omega) (m_nled (by rw [T]; exact k)) (fun d => ?_) d
  exact pc_imp (R PB WL L m d M A) (fun w y => ⟨y.1, by rw [y.2]; omega⟩)
/-- true, false, null -/
theorem p_yes (Y : CXs X) (Q : EPr X dp p h r) (b57 : 0 ≤ r 160 57 ∧ r 160 57 ≤ 10000) (ne : 0 ≤ a ∧ a ≤ e ∧ e < b) {k o t : Int} (kk : (bT X 167 e.toNat = 21 ∧ bK X p = 28 ∧ o = 4 ∧ t = 302) ∨ (bT X 167 e.toNat = 22 ∧ bK X p = 17 ∧ o = 3 ∧ t = 302) ∨ (bT X 167 e.toNat = 23 ∧ bK X p = 22 ∧ o = 1 ∧ t = 300)) (p1 : p + 1 < bc X) (d : Nat) : Pc (mx_sv (qf_X1_op nn o (up_M h 2 10 ((p + 1 : Nat) : Int))) fun u19 => mx_sv (qf_X10_give nn t u19) fun u21 => some u21) (fun u => Pc ((qg_X13_condition nn d).2.2.1 e r) (fun v => POk nn X 0 a b p (p + 1) e h r u v)) := by
  have Q0 := Q
  obtain ⟨B, ⟨q1, q2, q3, q4⟩, ⟨f1, f2, f3⟩, o1⟩ := Q0
  have T : ∀ cc : Nat, 163 ≤ cc ∧ cc ≤ 173 → r cc e.toNat = bT X cc e.toNat := fun cc z => B.2.2.2.2.2.1 cc e.toNat (by omega)
  have p3 := Y.1.2.1
  refine pc_sv (c_op (by rw [up_n (by omega)]; omega)) ?_; intro u19 q19
  obtain ⟨o2, o3, o4⟩ := q19
  rw [up_n (by omega)] at o2 o3 o4
  have G : ∀ cc x : Nat, ¬ (cc = 34 ∧ x = 1) → ¬ cc = 35 → ¬ (cc = 2 ∧ x = 10) → u19 cc x = h cc x := fun cc x z1 z2 z3 => by rw [o4 cc x z1 (by omega), up_n z3]
  refine pc_sv (c_give (by rw [G 34 3 (by omega) (by omega) (by omega)]; omega)) ?_; intro u21 q21
  obtain ⟨g2, CP, eu⟩ := q21
  refine pc_ret ?_
  have tt : (t = 302 ∨ t = 300) := by omega
  have vt : VTn (bn X) t ∧ ¬ t = 303 := ⟨by unfold VTn; omega, by omega⟩
  have tyt : (bT X 167 e.toNat = 23 ∧ ty_T t = 2) ∨ (¬ bT X 167 e.toNat = 23 ∧ ty_T t = 1) := by
    rcases kk with ⟨x1, x2, x3, x4⟩ | ⟨x1, x2, x3, x4⟩ | ⟨x1, x2, x3, x4⟩
    · right; exact ⟨by omega, by rw [x4]; rfl⟩
    · right; exact ⟨by omega, by rw [x4]; rfl⟩
    · left; exact ⟨x1, by rw [x4]; rfl⟩
  have nl : ¬ bT X 167 e.toNat = 30 ∧ ¬ bT X 167 e.toNat = 31 ∧ ¬ bT X 167 e.toNat = 32 ∧ ¬ bT X 167 e.toNat = 37 ∧ ¬ bT X 167 e.toNat = 38 := by omega
  refine w_one b57 q4 (r_nled (by rw [T 167 (by omega)]; exact nl)) (fun d => ?_) d
  have OK : ∀ y : Int × ms_M, y = (ty_T t, up_M r 174 e.toNat (ty_T t)) → POk nn X 0 a b p (p + 1) e h r u21 y := fun y ey => by
    refine pok_give (t := t) (g := u19) (v := r) Q ⟨p1, by omega⟩ ne ?_ ?_ ?_ ?_ ?_ ?_ ?_ CP eu vt rfe_r q4 ey ?_
    · exact fun cc x a1 a2 a3 a4 a5 a6 a7 a8 => G cc x (by omega) (by omega) (by omega)
    · exact ⟨G 49 10 (by omega) (by omega) (by omega), fun cc x z1 z2 z3 => G cc x (by omega) (by omega) (by omega)⟩
    · rw [o4 2 10 (by omega) (by omega), up_s]
    · rw [G 2 11 (by omega) (by omega) (by omega)]; exact q3
    · exact frc_k f1 (fun cc x z => G cc x (by omega) (by omega) (by omega))
    · omega
    · rw [G 34 3 (by omega) (by omega) (by omega)]; omega
    · have u11 : u21 49 11 = 0 := by rw [eu, up_s]
      have u12 : u21 49 12 = t := by rw [eu, up_n (by omega), up_s]
      have u3 : u21 34 3 = h 34 3 + 1 := by rw [eu, up_n (by omega), up_n (by omega), CP.1, G 34 3 (by omega) (by omega) (by omega)]
      refine ⟨.inr ⟨u11, by omega, by rw [u12]; exact vt.2⟩, fun _ => .inl ⟨by omega, by omega, fun z => absurd z nl.1⟩, fun _ => ⟨⟨by rw [u12, if_neg vt.2]; exact u3, top_g CP (by rw [G 34 3 (by omega) (by omega) (by omega)]; omega) eu⟩, ?_⟩⟩
      refine mkc_leaf nl ne (fun PB WL L m d M A => ?_) (by omega)
      obtain ⟨MT, -, ⟨m1, m2, m3, m4⟩, -⟩ := mk_t M
      have m7 := MT 167 e.toNat (by omega)
      have m4' : m 174 e.toNat = ty_T t := by rw [A 174 e.toNat (by omega) (by omega) (by omega) (by omega), up_s]
      have STEP : Pc (qj_X13_workOne_147 nn (qg_X13_work nn d) (ty_T t) o m) (fun w => MKx X PB WL L u21 w ∧ w 160 88 = m 160 88) := by
        unfold qj_X13_workOne_147
        refine pc_sv (r_put (by omega)) ?_; intro u49 q49
        refine pc_sv r_push ?_; intro u51 q51
        have M1 : MKx X PB WL L (up_M h 2 10 ((p + 1 : Nat) : Int)) m := mkx_c M (fun cc x z1 z2 z3 => up_n (by omega))
        have CO : COp o (up_M h 2 10 ((p + 1 : Nat) : Int)) u19 := by
          refine ⟨by rw [up_n (by omega)]; exact o2, by rw [up_n (by omega)]; exact o3, ?_⟩
          rw [up_n (by omega)]; exact o4
        have M2 : MKx X PB WL L u19 u49 := mk_op M1 CO q49 (fun _ => rfl) (by unfold in_R; omega)
        refine pc_ret ⟨mkx_give M2 CP q51 ⟨rfl, vt⟩ eu, ?_⟩
        rw [q51.2.2.2.2 160 88 (by omega) (by omega), q49.2.2 160 88 (by omega) (by omega)]
      have S115 : Pc (qj_X13_workOne_115 nn (qg_X13_work nn d) e (ty_T t) m) (fun w => MKx X PB WL L u21 w ∧ w 160 88 = m 160 88) := by
        unfold qj_X13_workOne_115
        refine pc_rA ?_; intro _ _ v53 e53
        rw [m7] at e53
        refine pc_if (fun z => ?_) (fun z => ?_)
        · refine pc_rA ?_; intro _ _ v55 e55
          rw [m7] at e55
          refine pc_if (fun z2 => ?_) (fun z2 => ?_)
          · have o1 : o = 1 := by omega
            rw [o1] at STEP; exact STEP
          · have o3 : o = 3 := by omega
            rw [o3] at STEP; exact STEP
        · have o4 : o = 4 := by omega
          rw [o4] at STEP; exact STEP
      unfold qo_X13_workOne
      refine pc_rA ?_; intro _ _ v59 e59
      rw [m4'] at e59
      refine pc_rA ?_; intro _ _ v61 e61
      rw [m7] at e61
      rw [e59]
      refine pc_if (fun z => absurd z (by omega)) (fun _ => ?_)
      refine pc_if (fun _ => S115) (fun _ => ?_)
      refine pc_if (fun _ => S115) (fun _ => ?_)
      exact pc_if (fun _ => S115) (fun z => absurd z (by omega))
  have FIN : ∀ c : Int, c = ty_T t → Pc (some (c, r)) (fun u => ∀ z : ms_M, z = up_M u.2 174 e.toNat u.1 → (z 160 9 = 0 → POk nn X 0 a b p (p + 1) e h r u21 (u.1, z)) ∧ (¬ z 160 9 = 0 → POk nn X 0 a b p (p + 1) e h r u21 (0, z))) := fun c ec => pc_ret (fun z ez => ⟨fun _ => OK _ (by rw [ez, ec]), fun y => absurd (by rw [ez, up_n (by omega)]; exact q4) y⟩)
  unfold qo_X13_rule
  refine pc_rA ?_; intro _ _ v83 e83
  rw [T 167 (by omega)] at e83
  refine pc_if (fun z => absurd z (by omega)) (fun _ => ?_)
  refine pc_if (fun z => by unfold qj_X13_rule_98; exact FIN 1 (by omega)) (fun _ => ?_)
  refine pc_if (fun z => by unfold qj_X13_rule_98; exact FIN 1 (by omega)) (fun _ => ?_)
  exact pc_if (fun z => FIN 2 (by omega)) (fun z => absurd z (by omega))
end

/- E of both sides: names and brackets as a P; given -/
section
variable {nn : Nat} {X : BCx} {dp i a b e : Int} {p q p1 q1 : Nat} {h h1 g u u1 r w m : ms_M} {v : Int × ms_M}
theorem p3_pn (Y : CXs X) (ne : 0 ≤ a ∧ a ≤ e ∧ e < b) (nd : bT X 167 e.toNat = 25 ∧ bT X 168 e.toNat = (p : Int)) (kp : bK X p = 2) (k1 : ¬ bK X (p + 1) = 40) (hq : q = p + 1) : P3 nn X dp 0 a b p q e := by
  intro d d2 h r Z Q b57 HB HC HF
  subst hq
  have Q0 := Q
  obtain ⟨B, ⟨q1, q2, q3, q4⟩, -, -⟩ := Q0
  have TB : TBc (bK X) (bP X) (bc X) h := B.1.1.1.1
  have p1 : p + 1 < bc X := jp_lt Y.1 q2 (by omega)
  unfold qo_X10_readPrimary
  refine pc_sv (c_kind Y.1 TB q2 q1 q3) ?_; intro u25 q25
  refine pc_if (fun _ => ?_) (fun z => absurd (show u25 = 2 by omega) z)
  refine p3_fin Y Q ?_ HC HF q1
  cases d with
  | zero => exact pc_none
  | succ d => exact p_name Y Q (by omega) ne nd kp k1 p1 HB d d2
/-- the making between states that differ in nothing of CODE -/
theorem mkc_w {v1 : ms_M} (M : MKC nn X e a b p1 q1 h1 u1 v1) (A : ∀ cc x : Nat, ¬ (cc = 2 ∧ (x = 10 ∨ x = 11 ∨ x = 12)) → ¬ cc = 49 → ¬ (50 ≤ cc ∧ cc ≤ 54) → h1 cc x = h cc x) (B : ∀ cc x : Nat, ¬ (cc = 2 ∧ (x = 10 ∨ x = 11 ∨ x = 12)) → ¬ cc = 49 → ¬ (50 ≤ cc ∧ cc ≤ 54) → u cc x = u1 cc x) (hp : p ≤ p1) (hq : q1 ≤ q) : MKC nn X e a b p q h u v1 := fun d PB WL L m M1 AA z1 z2 => pc_imp (M d PB WL L m (mkx_c M1 A) AA z1 (by omega)) (fun w y => ⟨mkx_c y.1 B, by have := y.2; omega⟩)
/-- the class's frame over irrelevant cells -/
theorem cfe_w (A : CFe h1 u1) (E1 : ∀ cc x : Nat, ¬ (cc = 2 ∧ x = 10) → h1 cc x = h cc x) (E2 : ∀ cc x : Nat, ¬ (cc = 2 ∧ x = 10) → ¬ (cc = 49 ∧ (x = 11 ∨ x = 15)) → u cc x = u1 cc x) : CFe h u := fun cc x a1 a2 a3 a4 a5 a6 a7 a8 => by rw [E2 cc x (by omega) (by omega), A cc x a1 a2 a3 a4 a5 a6 a7 a8]; exact E1 cc x (by omega)
theorem p3_pb {t : Nat} (Y : CXs X) (ne : 0 ≤ a ∧ a ≤ e ∧ e < b) (kk : bK X p = 40 ∧ bK X t = 41 ∧ q = t + 1) (H : E0 nn X dp i a b (p + 1) t e) : P3 nn X dp 1 a b p q e := by
  intro d d2 h r Z Q b57 HB HC HF
  obtain ⟨k1, k2, hq⟩ := kk
  subst hq
  have Q0 := Q
  obtain ⟨B, ⟨q1, q2, q3, q4⟩, ⟨f1, f2, f3⟩, o1⟩ := Q0
  have TB : TBc (bK X) (bP X) (bc X) h := B.1.1.1.1
  have c3 := Y.1.2.1
  have pc1 : p + 1 < bc X := jp_lt Y.1 q2 (by omega)
  unfold qo_X10_readPrimary
  refine pc_sv (c_kind Y.1 TB q2 q1 q3) ?_; intro u25 q25
  refine pc_if (fun z => absurd z (by omega)) (fun _ => ?_)
  refine pc_if (fun z => absurd z (by omega)) (fun _ => ?_)
  refine pc_if (fun _ => ?_) (fun z => absurd (show u25 = 40 by omega) z)
  rw [q1]
  refine pc_add (by omega) ?_; intro v34 e34
  refine pc_xl ?_; intro h35 e35
  rw [show v34 = ((p + 1 : Nat) : Int) by omega] at e35
  have E35 : ∀ cc x : Nat, ¬ (cc = 2 ∧ x = 10) → h35 cc x = h cc x := fun cc x z => by rw [e35, up_n z]
  have Q1 : EPr X dp (p + 1) h35 r := by
    refine ⟨bx_k B (fun cc x z => E35 cc x (by omega)) (fun _ _ _ => rfl), ⟨by rw [e35, up_s], pc1, by rw [E35 2 11 (by omega)]; exact q3, q4⟩, ⟨frc_k f1 (fun cc x z => E35 cc x (by omega)), ?_, ?_⟩, ?_⟩
    · rw [E35 34 1 (by omega)]; omega
    · rw [E35 34 3 (by omega)]; omega
    · rw [E35 49 10 (by omega), E35 49 18 (by omega)]; omega
  have HE := H (.inl k2) d d2 h35 r Q1 b57
  refine p2_sa (pc_imp HE (fun u37 Hu => pc_imp Hu (fun v hv => ?_)))
  have G := fsg_X10_readValue nn d
  rcases hv with hv | ⟨K, K15, KF⟩
  · have S37 : ¬ u37 2 11 = 0 := hv.elim (fun S => S.1) (fun S => vd_n S)
    refine pc_xl ?_; intro v40 e40
    refine pc_xl ?_; intro h41 e41
    refine pc_xl ?_; intro h42 e42
    have S42 : ¬ h42 2 11 = 0 := by rw [e42, up_n (by omega), e41, up_n (by omega)]; exact S37
    have F42 : FSc u37 h42 := ⟨by rw [e42, up_n (by omega), e41, up_n (by omega)], by rw [e42, up_n (by omega), e41, up_n (by omega)]⟩
    refine pc_imp (fs_qj_X10_readPrimary_107 G S42) (fun uF F => HF uF v ?_)
    exact hv.elim (fun S => .inl (sf_c (sf_c S F42) F)) (fun S => .inr (vd_i (vd_c (vd_c S F42) F) (by omega)))
  · have K0 := K
    obtain ⟨⟨x1, x2, x3, x4, x5⟩, ⟨x6, x7, x8⟩, ⟨x9, x10, x11⟩, ⟨x12, x13, x14⟩, FM⟩ := K
    have tc : t + 1 < bc X := jp_lt Y.1 x2 (by omega)
    rw [x1]
    refine pc_add (by omega) ?_; intro v40 e40
    refine pc_xl ?_; intro h41 e41
    rw [show v40 = ((t + 1 : Nat) : Int) by omega] at e41
    refine pc_xl ?_; intro h42 e42
    have E42 : ∀ cc x : Nat, ¬ (cc = 2 ∧ x = 10) → ¬ (cc = 49 ∧ x = 11) → h42 cc x = u37 cc x := fun cc x z1 z2 => by rw [e42, up_n z2, e41, up_n z1]
    have TB42 : TBc (bK X) (bP X) (bc X) h42 := tbc_k (pk_b Q1 K0) (fun cc y z => E42 cc y (by omega) (by omega))
    have p42 : h42 2 10 = ((t + 1 : Nat) : Int) := by rw [e42, up_n (by omega), e41, up_s]
    have n51 : ¬ bK X t = 51 := by omega
    have FX : FM01 nn X i a b (p + 1) t e h35 u37 v.2 := by
      have := KF n51
      rcases FM with F | F | F | F
      · exact F
      · exact absurd F.1.1 (by omega)
      · exact absurd F.1.1 (by omega)
      · exact absurd F.1.1 (by omega)
    have n303 : ¬ u37 49 12 = 303 := fun z => by
      rcases FX.1 with ⟨-, -, -, y⟩ | ⟨-, -, y⟩
      · have := (y z).1; omega
      · exact y z
    obtain ⟨⟨y1, yt⟩, y2⟩ := FX.2.2 n51
    rw [if_neg n303] at y1
    have KN : POk nn X 1 a b p (t + 1) e h r h42 v := by
      refine ⟨⟨p42, tc, by omega, by rw [E42 2 11 (by omega) (by omega)]; exact x4, x5⟩, ⟨by rw [E42 49 12 (by omega) (by omega)]; exact x6, by rw [E42 49 12 (by omega) (by omega)]; exact x7, x8⟩, ⟨cfe_w x9 E35 (fun cc x z1 z2 => E42 cc x z1 (by omega)), x10, ?_⟩, ⟨frc_k x12 (fun cc x z => E42 cc x (by omega) (by omega)), ?_, ?_⟩, .inl ⟨.inr ⟨?_, by omega, ?_⟩, fun z => absurd z (by omega), fun _ => ⟨⟨?_, by rw [E42 34 3 (by omega) (by omega), E42 49 12 (by omega) (by omega), E42 36 _ (by omega) (by omega)]; exact yt⟩, ?_⟩⟩⟩
      · refine ⟨by rw [E42 49 10 (by omega) (by omega), x11.1]; exact E35 49 10 (by omega), fun cc x z1 z2 z3 => ?_⟩
        rw [E42 cc x (by omega) (by omega), x11.2 cc x z1 z2 (by rw [E35 49 10 (by omega)]; exact z3)]
        exact E35 cc x (by omega)
      · rw [E42 34 1 (by omega) (by omega)]
        rw [E35 34 1 (by omega)] at x13
        omega
      · rw [E42 34 3 (by omega) (by omega)]
        rw [E35 34 3 (by omega)] at x14
        omega
      · rw [e42, up_s]
      · rw [E42 49 12 (by omega) (by omega)]; exact n303
      · rw [E42 34 3 (by omega) (by omega), E42 49 12 (by omega) (by omega), if_neg n303, y1, E35 34 3 (by omega)]
      · exact mkc_w y2 (fun cc x z1 z2 z3 => E35 cc x (by omega)) (fun cc x z1 z2 z3 => E42 cc x (by omega) (by omega)) (by omega) (by omega)
    unfold qj_X10_readPrimary_107
    refine pc_sv (c_kind Y.1 TB42 tc p42 KN.1.2.2.2.1) ?_; intro u20 q20
    rw [q20]
    exact HC nn 0 h42 v KN ⟨by omega, by omega⟩
theorem tbq_f {K P : Nat → Int} {c : Nat} (T : TBq K P c r) (E : ∀ cc y : Nat, 163 ≤ cc ∧ cc ≤ 166 → w cc y = r cc y) : TBq K P c w := ⟨fun i hi => by rw [E 163 i (by omega)]; exact T.1 i hi, fun i hi => by rw [E 164 i (by omega)]; exact T.2.1 i hi, fun i z1 z2 => by rw [E 166 i (by omega)]; exact T.2.2.1 i z1 z2, fun i z => by rw [E 166 i (by omega)]; exact T.2.2.2 i z⟩
/-- given: a void call is told -/
theorem j_given {x : Option ms_M} (TQ : TBq (bK X) (bP X) (bc X) r) (T8 : ∀ cc y : Nat, 163 ≤ cc ∧ cc ≤ 173 → r cc y = bT X cc y) (n8 : bn X ≤ 8) (H : ∀ d2 : Nat, Pc x (fun u => Pc ((qg_X13_condition nn d2).2.2.1 e r) (fun v => (SFj u v.2 ∨ VDj X i a b p q e h r u v) ∨ EOz nn X i a b p q e h r u v))) (na : bK X q = 46 → ¬ h 49 18 = (p : Int)) (n51 : ¬ bK X q = 51) : ∀ d2 : Nat, Pc x (fun u => Pc ((qg_X13_condition nn d2).2.1 e r) (fun v => SFj u v.2 ∨ (EOz nn X i a b p q e h r u v ∧ FM01 nn X i a b p q e h u v.2 ∧ ¬ u 49 12 = 303))) := by
  intro d2
  cases d2 with
  | zero => exact fun _ _ => pc_none
  | succ d2 =>
    refine pc_imp (H d2) (fun u Hu => ?_)
    show Pc (qo_X13_given nn (qg_X13_condition nn d2) e r) _
    unfold qo_X13_given
    refine pc_sv Hu ?_; intro u2 hv
    rcases hv with (S | S) | K
    · refine pc_if (fun _ => pc_ret (.inl S)) (fun _ => ?_)
      refine pc_rA ?_; intro _ _ v4 e4
      refine pc_sv (ft_qf_X13_wrong (sf_r S)) ?_; intro u6 F
      exact pc_ret (.inl (sf_k S fs_r F))
    · obtain ⟨⟨s1, s2, s3, s4⟩, ⟨s5, s6, s7⟩, s8⟩ := S
      refine pc_if (fun z => absurd s5 z) (fun _ => ?_)
      refine pc_rA ?_; intro _ _ v4 e4
      rw [s8.1 168 _ (by omega) (by omega) (by omega), T8 168 _ (by omega)] at e4
      have TQ2 : TBq (bK X) (bP X) (bc X) u2.2 := tbq_f TQ (fun cc y z => s8.1 cc y (by omega) (by omega) (by omega))
      refine pc_sv (r_wrong TQ2 (p := (bT X 168 e.toNat).toNat) (by omega) s6 (k := 6) (x := v4) (by omega)) ?_; intro u6 ⟨w1, w2⟩
      exact pc_ret (.inl ⟨by omega, by show u6 160 9 = _; omega, by show u6 160 10 = _; omega⟩)
    · have K0 := K
      obtain ⟨K, K15, KF⟩ := K
      have FX : FM01 nn X i a b p q e h u u2.2 := by
        have := KF n51
        rcases K.2.2.2.2 with F | F | F | F
        · exact F
        · exact absurd F.1.1 (by omega)
        · exact absurd F.1.1 (by omega)
        · exact absurd F.1.1 (by omega)
      have n303 : ¬ u 49 12 = 303 := fun z => by
        rcases FX.1 with ⟨-, -, -, y⟩ | ⟨-, -, y⟩
        · obtain ⟨y1, y2⟩ := y z
          refine na y1 ?_
          rw [← y2]
          exact (K.2.2.1.1 49 18 (by omega) (by omega) (by omega) (by omega) (by omega) (by omega) (by omega) (by omega)).symm
        · exact y z
      have n3 : ¬ u2.1 = 3 := by
        rw [K.2.1.1]
        exact fun z => n303 ((ty_3 (X := X) n8 K.2.1.2.1).mp z)
      refine pc_if (fun _ => pc_ret (.inr ⟨K0, FX, n303⟩)) (fun z => absurd n3 z)
end

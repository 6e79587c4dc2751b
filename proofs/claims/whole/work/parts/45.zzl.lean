/- calls: the ARGS of both sides, all -/
/-- ARGS with their brackets; t is the closing one -/
def A4 (nn : Nat) (X : BCx) (dp a b : Int) (p t : Nat) (k : Int) : Prop := ∀ (d d2 : Nat) (h r : ms_M) (c at_ how st e fit : Int) (x j : Nat) (Z : ms_M → Int × ms_M → Prop), EPr X dp p h r → (0 ≤ r 160 57 ∧ r 160 57 + (b - a) < 9000 ∧ b ≤ 9000) → MTf X h r x j → (fit = 0 ∨ fit = 1) → (∀ (u v : ms_M) (n2 : Nat) (rt2 : Int), AOk nn X k a b (p + 1) t n2 (up_M h 2 10 ((p + 1 : Nat) : Int)) r u v → (rt2 = 0 ∨ rt2 = 1) → Pc (qj_X10_readCall_128 nn (qg_X10_readValue nn d) c (x : Int) at_ how st (n2 : Int) rt2 u) (fun uF => Pc (qj_X13_called_110 nn (qg_X13_condition nn d2) e (j : Int) (if fit = 0 then 0 else rt2) (n2 : Int) v) (Z uF))) → (∀ (u v : ms_M) (n2 : Nat) (rt2 gd2 : Int), SFj u v → Pc (qj_X10_readCall_128 nn (qg_X10_readValue nn d) c (x : Int) at_ how st (n2 : Int) rt2 u) (fun uF => Pc (qj_X13_called_110 nn (qg_X13_condition nn d2) e (j : Int) gd2 (n2 : Int) v) (Z uF))) → Pc (qo_X10_readCall nn (qg_X10_readValue nn d) c (x : Int) at_ how st dp h) (fun uF => Pc (qw_X13_called_23 nn (qg_X13_condition nn d2) nn e (j : Int) fit 0 k r) (Z uF))
section
variable {nn : Nat} {X : BCx} {dp i l a b e s k : Int} {p q t t2 n : Nat} {h g u r w m : ms_M} {v : Int × ms_M}
theorem a5_ao {ix : Int} (Y : CXs X) (ne : 0 ≤ a ∧ a ≤ k ∧ k < b) (n41 : ¬ bK X p = 41) (H : E0 nn X dp ix a k p t (bT X 170 k.toNat)) (kt : bK X t = 41) (nx : bT X 173 k.toNat = -1) (pt : p < t) : A5 nn X dp a b p t k := by
  intro d d2 f f2 h r c at_ how st e fit x j n rt gd tn Z Q b57 MF hg ht np al HC HF
  have B := Q.1
  refine a5_step Y ne n41 H (.inl kt) pt d d2 f f2 h r c at_ how st e fit x j n rt gd tn Z Q b57 MF hg ht np al (fun f f2 u h2 v rt2 K FX n303 RK hr2 hh => ?_) HF
  have hh2 : h2 = u := by
    rcases hh with y | y
    · exact y.2
    · omega
  rw [hh2, nx]
  obtain ⟨⟨x1, x2, x3, x4, x5⟩, ⟨x6, x7, x8⟩, ⟨x9, x10, x11⟩, ⟨x12, x13, x14⟩, -⟩ := K.1
  obtain ⟨⟨FH, -⟩, FM⟩ := FX.2.2 (by omega)
  rw [if_neg n303] at FH
  have B2 : BX X u v.2 := bx_e B x9 x10
  have AO : AOk nn X k a b p t 1 h r u v.2 := by
    refine ⟨⟨x1, x2, by omega, x4, x5⟩, ⟨x9, ⟨x10.1, fun cc x z1 z2 z3 => x10.2 cc x z1 z2 (by omega)⟩, x11, RK⟩, ⟨x12, x13, by omega, by omega⟩, fun d f l1 l2 l3 l4 PB WL L m QQ M A b5 b8 hl HH => ?_⟩
    cases f with
    | zero => exact pc_none
    | succ f =>
      unfold qw_X13_workCall_19
      refine pc_if (fun z => absurd z (by omega)) (fun _ => ?_)
      refine pc_rA ?_; intro _ _ v15 e15
      rw [(mk_t M).1 170 _ (by omega)] at e15
      rw [e15]
      refine pc_sv (pc_and (FM d PB WL L m M (an_s A ⟨Int.le_refl _, by omega⟩ (fun _ _ _ _ _ _ => rfl)) (by omega) b8) (wk_k d (by omega))) ?_; intro u17 ⟨⟨M17, lb⟩, an, k57⟩
      refine pc_add (by omega) ?_; intro v18 e18
      refine pc_rA ?_; intro _ _ v20 e20
      rw [(mk_t M17).1 173 _ (by omega), nx] at e20
      rw [e18, e20]
      exact HH f u17 M17 lb an k57
  have P128 : Pc (qj_X10_readCall_128 nn (qg_X10_readValue nn d) c (x : Int) at_ how st ((n + 1 : Nat) : Int) rt2 u) (fun uF => Pc (qw_X13_called_23 nn (qg_X13_condition nn d2) f2 e (j : Int) (if fit = 0 then 0 else rt2) ((n + 1 : Nat) : Int) (-1) v.2) (Z uF)) := by
    refine pc_imp (HC u v.2 1 rt2 AO hr2) (fun uF HU => ?_)
    cases f2 with
    | zero => exact pc_none
    | succ f2 =>
      unfold qw_X13_called_23
      exact pc_if (fun _ => HU) (fun z => absurd rfl z)
  cases f with
  | zero => exact pc_none
  | succ f =>
    unfold qw_X10_readCall_22
    refine pc_if (fun _ => P128) (fun _ => ?_)
    refine pc_if (fun _ => P128) (fun _ => ?_)
    refine pc_sv (c_kind Y.1 B2.1.1.1.1 x2 x1 x4) ?_; intro u54 q54
    exact pc_if (fun _ => P128) (fun z => absurd (q54.trans kt) z)
theorem a5_am {ix : Int} (Y : CXs X) (ne : 0 ≤ a ∧ a ≤ k ∧ k < b) (n41 : ¬ bK X p = 41) (H : E0 nn X dp ix a k p t (bT X 170 k.toNat)) (kt : bK X t = 47) (HR : A5 nn X dp (k + 1) b (t + 1) t2 (bT X 173 k.toNat)) (pt : p < t ∧ t + 1 ≤ t2) : A5 nn X dp a b p t2 k := by
  intro d d2 f f2 h r c at_ how st e fit x j n rt gd tn Z Q b57 MF hg ht np al HC HF
  have B := Q.1
  have c3 := Y.1.2.1
  have Q0 := Q
  obtain ⟨-, ⟨q1, q2, q3, q4⟩, ⟨f1, f2', f3⟩, o1⟩ := Q0
  refine a5_step Y ne n41 H (.inr kt) pt.1 d d2 f f2 h r c at_ how st e fit x j n rt gd tn Z Q b57 MF hg ht np al (fun f f2 u h2 v rt2 K FX n303 RK hr2 hh => ?_) HF
  have hh2 : h2 = up_M u 2 10 ((t + 1 : Nat) : Int) := by
    rcases hh with y | y
    · omega
    · exact y.2
  obtain ⟨⟨x1, x2, x3, x4, x5⟩, ⟨x6, x7, x8⟩, ⟨x9, x10, x11⟩, ⟨x12, x13, x14⟩, -⟩ := K.1
  obtain ⟨⟨FH, -⟩, FM⟩ := FX.2.2 (by omega)
  rw [if_neg n303] at FH
  have tc1 : t + 1 < bc X := jp_lt Y.1 x2 (by omega)
  have E2 : ∀ cc x : Nat, ¬ (cc = 2 ∧ x = 10) → h2 cc x = u cc x := fun cc x z => by rw [hh2, up_n z]
  have B2 : BX X u v.2 := bx_e B x9 x10
  have a18 : h2 49 18 = h 49 18 := by rw [E2 49 18 (by omega)]; exact x9 49 18 (by omega) (by omega) (by omega) (by omega) (by omega) (by omega) (by omega) (by omega)
  have o10 : h2 49 10 = h 49 10 := by rw [E2 49 10 (by omega)]; exact x11.1
  have e21 := E2 34 1 (by omega)
  have e23 := E2 34 3 (by omega)
  have Q2 : EPr X dp (t + 1) h2 v.2 := ⟨bx_k B2 (fun cc x z => E2 cc x (by omega)) (fun _ _ _ => rfl), ⟨by rw [hh2, up_s], tc1, by rw [E2 2 11 (by omega)]; exact x4, x5⟩, ⟨frc_k x12 (fun cc x z => E2 cc x (by omega)), ⟨by omega, by omega⟩, by omega, by omega⟩, by omega, by omega, by omega⟩
  have RK57 := RK.1
  refine HR d d2 f f2 h2 v.2 c at_ how st e fit x j (n + 1) rt2 (if fit = 0 then 0 else rt2) (tn + 1) Z Q2 (by omega) (mtf_k MF (fun cc y z => by rw [E2 cc y (by omega)]; exact x9 cc y (by omega) (by omega) (by omega) (by omega) (by omega) (by omega) (by omega) (by omega)) (fun cc y z => x10.1 cc y (by omega) (by omega) (by omega))) ⟨hr2, hg.2.1, rfl⟩ (by omega) (by omega) (by omega) (fun u' v' n2 rt3 AO hr3 => ?_) (fun u' v' n2 rt3 gd3 S => ?_)
  · have AO2 : AOk nn X k a b p t2 (n2 + 1) h r u' v' := by
      obtain ⟨⟨y1, y2, y3, y4, y5⟩, ⟨y6, y7, y8, y9⟩, ⟨y10, y11, y12, y13⟩, MA⟩ := AO
      refine ⟨⟨y1, y2, by omega, y4, y5⟩, ⟨cfe_t x9 (cfe_t (g := h2) (fun cc x z1 z2 z3 z4 z5 z6 z7 z8 => E2 cc x (by omega)) y6), rfe_t x10 y7 ⟨Int.le_refl _, by omega⟩ ⟨by omega, Int.le_refl _⟩, sgb_t x11 (sgb_t (g := h2) ⟨E2 49 10 (by omega), fun cc x z1 z2 z3 => E2 cc x (by omega)⟩ y8), ⟨by rw [y9.1]; exact RK.1, fun j hj => by rw [y9.2 j (by rw [RK.1]; exact hj)]; exact RK.2 j hj⟩⟩, ⟨y10, by omega, by omega, by omega⟩, fun d f l1 l2 l3 l4 PB WL L m QQ M A b5 b8 hl HH => ?_⟩
      cases f with
      | zero => exact pc_none
      | succ f =>
        unfold qw_X13_workCall_19
        refine pc_if (fun z => absurd z (by omega)) (fun _ => ?_)
        refine pc_rA ?_; intro _ _ v15 e15
        rw [(mk_t M).1 170 _ (by omega)] at e15
        rw [e15]
        have AE : AN a k v.2 m := an_s A ⟨Int.le_refl _, by omega⟩ (fun cc x c1 c2 c4 c5 => y7.2 cc x c1 c2 (by omega))
        refine pc_sv (pc_and (FM d PB WL L m M AE (by omega) (by omega)) (wk_k d (by omega))) ?_; intro u17 ⟨⟨M17, lb⟩, an, k57⟩
        refine pc_add (by omega) ?_; intro v18 e18
        refine pc_rA ?_; intro _ _ v20 e20
        rw [(mk_t M17).1 173 _ (by omega)] at e20
        rw [e18, e20]
        have M2 : MKx X PB WL L h2 u17 := mkx_c M17 (fun cc x z1 z2 z3 => E2 cc x (by omega))
        refine MA d f l1 l2 l3 (l4 + 1) PB WL L u17 QQ M2 (an_s (an_m A an) ⟨by omega, Int.le_refl _⟩ (fun _ _ _ _ _ _ => rfl)) (by omega) (by omega) (by omega) (fun f3 w Mw lw aw kw => ?_)
        have W := HH f3 w Mw (by omega) (fun cc x c1 c2 => by rw [aw cc x c1 c2]; exact an cc x c1 c2) (by rw [kw]; exact k57)
        rw [show l4 + 1 + (n2 : Int) = l4 + ((n2 + 1 : Nat) : Int) by omega]
        exact W
    have W := HC u' v' (n2 + 1) rt3 AO2 hr3
    rw [show n + (n2 + 1) = n + 1 + n2 by omega] at W
    exact W
  · have W := HF u' v' (n2 + 1) rt3 gd3 S
    rw [show n + (n2 + 1) = n + 1 + n2 by omega] at W
    exact W
theorem a4_al (Y : CXs X) (k40 : bK X p = 40) (H : A5 nn X dp a b (p + 1) t k) : A4 nn X dp a b p t k := by
  intro d d2 h r c at_ how st e fit x j Z Q b57 MF hf HC HF
  have Q0 := Q
  obtain ⟨B, ⟨q1, q2, q3, q4⟩, ⟨f1, f2, f3⟩, o1⟩ := Q0
  have c3 := Y.1.2.1
  have p1c : p + 1 < bc X := jp_lt Y.1 q2 (by omega)
  unfold qo_X10_readCall
  rw [q1]
  refine pc_add (by omega) ?_; intro v71 e71
  refine pc_xl ?_; intro h72 e72
  rw [show v71 = ((p + 1 : Nat) : Int) by omega] at e72
  have E : ∀ cc x : Nat, ¬ (cc = 2 ∧ x = 10) → h72 cc x = h cc x := fun cc x z => by rw [e72, up_n z]
  have Q1 : EPr X dp (p + 1) h72 r := epr_in Q E (by rw [e72, up_s]) (by omega) p1c
  refine H d d2 nn nn h72 r c at_ how st e fit x j 0 1 fit 0 Z Q1 b57 (mtf_k MF (fun cc y z => E cc y (by omega)) (fun _ _ _ => rfl)) ⟨.inr rfl, hf, by rcases hf with z | z <;> rw [z] <;> rfl⟩ (by omega) (by omega) (by rw [E 49 18 (by omega)]; omega) (fun u v n2 rt2 AO hr => ?_) (fun u v n2 rt2 gd2 S => ?_)
  · rw [Nat.zero_add]
    rw [e72] at AO
    exact HC u v n2 rt2 AO hr
  · rw [Nat.zero_add]
    exact HF u v n2 rt2 gd2 S
theorem a4_an (Y : CXs X) (k40 : bK X p = 40) (k41 : bK X (p + 1) = 41) : A4 nn X dp a b p (p + 1) (-1) := by
  intro d d2 h r c at_ how st e fit x j Z Q b57 MF hf HC HF
  have Q0 := Q
  obtain ⟨B, ⟨q1, q2, q3, q4⟩, ⟨f1, f2, f3⟩, o1⟩ := Q0
  have c3 := Y.1.2.1
  have p1c : p + 1 < bc X := jp_lt Y.1 q2 (by omega)
  unfold qo_X10_readCall
  rw [q1]
  refine pc_add (by omega) ?_; intro v71 e71
  refine pc_xl ?_; intro h72 e72
  rw [show v71 = ((p + 1 : Nat) : Int) by omega] at e72
  have E : ∀ cc x : Nat, ¬ (cc = 2 ∧ x = 10) → h72 cc x = h cc x := fun cc x z => by rw [e72, up_n z]
  have Q1 : EPr X dp (p + 1) h72 r := epr_in Q E (by rw [e72, up_s]) (by omega) p1c
  have AO : AOk nn X (-1) a b (p + 1) (p + 1) 0 (up_M h 2 10 ((p + 1 : Nat) : Int)) r h72 r := by
    rw [← e72]
    refine ⟨⟨by rw [e72, up_s], p1c, Nat.le_refl _, Q1.2.1.2.2.1, q4⟩, ⟨cfe_r, rfe_r, sgb_r, rfl, fun _ _ => rfl⟩, ⟨Q1.2.2.1.1, ⟨Q1.2.2.1.2.1.1, Int.le_refl _⟩, by omega, by omega⟩, fun d f l1 l2 l3 l4 PB WL L m QQ M A b5 b8 hl HH => ?_⟩
    have W := HH f m M (by omega) (fun _ _ _ _ => rfl) rfl
    rw [show l4 + ((0 : Nat) : Int) = l4 by omega] at W
    exact W
  have RC : ∀ (uF : ms_M) (f2 : Nat), Pc (qj_X13_called_110 nn (qg_X13_condition nn d2) e (j : Int) fit 0 r) (Z uF) → Pc (qw_X13_called_23 nn (qg_X13_condition nn d2) f2 e (j : Int) fit 0 (-1) r) (Z uF) := fun uF f2 HU => by
    cases f2 with
    | zero => exact pc_none
    | succ n3 =>
      unfold qw_X13_called_23
      exact pc_if (fun _ => HU) (fun z => absurd rfl z)
  have P128 : Pc (qj_X10_readCall_128 nn (qg_X10_readValue nn d) c (x : Int) at_ how st 0 1 h72) (fun uF => Pc (qw_X13_called_23 nn (qg_X13_condition nn d2) nn e (j : Int) fit 0 (-1) r) (Z uF)) := by
    refine pc_imp (HC h72 r 0 1 AO (.inr rfl)) (fun uF HU => RC uF nn ?_)
    have e1 : (if fit = 0 then 0 else (1 : Int)) = fit := by rcases hf with z | z <;> rw [z] <;> rfl
    rw [e1] at HU
    exact HU
  have CL : ∀ f : Nat, Pc (qw_X10_readCall_22 nn (qg_X10_readValue nn d) f c (x : Int) at_ how st dp 0 1 0 h72) (fun uF => Pc (qw_X13_called_23 nn (qg_X13_condition nn d2) nn e (j : Int) fit 0 (-1) r) (Z uF)) := fun f => by
    cases f with
    | zero => exact pc_none
    | succ n3 =>
      unfold qw_X10_readCall_22
      refine pc_if (fun _ => P128) (fun _ => ?_)
      refine pc_if (fun _ => P128) (fun _ => ?_)
      refine pc_sv (c_kind Y.1 Q1.1.1.1.1.1 p1c Q1.2.1.1 Q1.2.1.2.2.1) ?_; intro u54 q54
      exact pc_if (fun _ => P128) (fun z => absurd (q54.trans k41) z)
  exact CL nn
end

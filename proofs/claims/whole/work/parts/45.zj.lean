/- E of both sides: new rows -/
section
variable {nn : Nat} {X : BCx} {dp i a b e : Int} {p q p1 q1 : Nat} {h h1 g g1 g2 u u1 r w m : ms_M} {v : Int × ms_M}
theorem p3_pm (Y : CXs X) (ne : 0 ≤ a ∧ a ≤ e ∧ e < b) (nd : bT X 167 e.toNat = 27 ∧ bT X 168 e.toNat = ((p + 1 : Nat) : Int)) (kk : bK X p = 21 ∧ bK X (p + 1) = 2 ∧ bK X (p + 2) = 40 ∧ bK X (p + 3) = 41) (hq : q = p + 4) : P3 nn X dp 0 a b p q e := by
  intro d d2 h r Z Q b57 HB HC HF
  subst hq
  have Q0 := Q
  obtain ⟨B, ⟨q1, q2, q3, q4⟩, -, -⟩ := Q0
  have TB : TBc (bK X) (bP X) (bc X) h := B.1.1.1.1
  unfold qo_X10_readPrimary
  refine pc_sv (c_kind Y.1 TB q2 q1 q3) ?_; intro u25 q25
  refine pc_if (fun z => absurd z (by omega)) (fun _ => ?_)
  refine pc_if (fun _ => ?_) (fun z => absurd (show u25 = 21 by omega) z)
  refine p3_fin Y Q ?_ HC HF q1
  cases d with
  | zero => exact pc_none
  | succ d => exact p_made Y Q (by omega) ne nd kk d d2
/-- the making of one that is not led -/
theorem mkc_one {v : ms_M} (k : ¬ bT X 167 e.toNat = 30 ∧ ¬ bT X 167 e.toNat = 31 ∧ ¬ bT X 167 e.toNat = 32 ∧ ¬ bT X 167 e.toNat = 37 ∧ ¬ bT X 167 e.toNat = 38) (ne : 0 ≤ a ∧ a ≤ e ∧ e < b) (R : ∀ (PB : Nat → Prop) (WL : Int → Int → Prop) (L : List (Int × Int)) (m : ms_M) (d : Nat), MKx X PB WL L h m → AN a b v m → (0 ≤ m 160 57 ∧ m 160 57 + (b - a) < 9000) → m 160 88 + 4 * (q : Int) ≤ 2000000000 + 4 * (p : Int) → Pc (qo_X13_workOne nn (qg_X13_work nn d) e m) (fun w => MKx X PB WL L u w ∧ (m 160 88 ≤ w 160 88 ∧ w 160 88 + 4 * (p : Int) ≤ m 160 88 + 4 * (q : Int)))) : MKC nn X e a b p q h u v := fun d PB WL L m M A z1 z2 => by
  have T := (mk_t M).1 167 e.toNat (by omega)
  exact m_one (by omega) (m_nled (by rw [T]; exact k)) (fun d => R PB WL L m d M A z1 z2) d
theorem m_turnG {PB : Nat → Prop} {WL : Int → Int → Prop} {L : List (Int × Int)} {t t2 k : Int} (M : MKx X PB WL L h m) (A : CPo k h g) (B : CPu t g g2) (hk : 0 ≤ k ∧ k ≤ h 34 3) (b3 : h 34 3 ≤ 1000000) (e : TJ (bn X) t2 t) (n3 : ¬ t2 = 3) (eu : u = up_M (up_M g2 49 12 t) 49 11 0) : Pc (qf_X13_turn nn k t2 m) (fun w => MKx X PB WL L u w ∧ w 160 88 = m 160 88) := by
  obtain ⟨-, -, ⟨m1, m2, m3, m4⟩, -⟩ := mk_t M
  unfold qf_X13_turn
  refine pc_sub (by omega) ?_; intro v2 e2
  refine pc_xl ?_; intro h3 e3
  refine pc_if (fun z => absurd z n3) (fun _ => ?_)
  refine pc_sv r_push ?_; intro u5 q5
  have M1 : MKx X PB WL L g h3 := mk_pop M A hk (by rw [e3, e2])
  exact pc_ret ⟨mkx_give M1 B q5 e eu, by rw [q5.2.2.2.2 160 88 (by omega) (by omega), e3, up_n (by omega)]⟩
/-- an E within: ahead of it -/
theorem epr_in {t : Nat} (Q : EPr X dp p h r) (E : ∀ cc x : Nat, ¬ (cc = 2 ∧ x = 10) → h1 cc x = h cc x) (h10 : h1 2 10 = (t : Int)) (pt : p ≤ t) (tc : t < bc X) : EPr X dp t h1 r := by
  obtain ⟨B, ⟨q1, q2, q3, q4⟩, ⟨f1, f2, f3⟩, o1⟩ := Q
  refine ⟨bx_k B (fun cc x z => E cc x (by omega)) (fun _ _ _ => rfl), ⟨h10, tc, by rw [E 2 11 (by omega)]; exact q3, q4⟩, ⟨frc_k f1 (fun cc x z => E cc x (by omega)), ?_, ?_⟩, ?_⟩
  · rw [E 34 1 (by omega)]; omega
  · rw [E 34 3 (by omega)]; omega
  · rw [E 49 10 (by omega), E 49 18 (by omega)]; omega
/-- behind the E of new: ints (l3 = 1) or a class's rows -/
theorem p_arr {t : Nat} {cl l3 tk : Int} {ix : Int} (Y : CXs X) (Q : EPr X dp p h r) (b57 : 0 ≤ r 160 57 ∧ r 160 57 + (b - a) < 9000 ∧ b ≤ 9000) (ne : 0 ≤ a ∧ a ≤ e ∧ e < b) (kk : bK X t = 45 ∧ p + 3 < t) (nk : (bT X 167 e.toNat = 28 ∧ l3 = 1 ∧ cl = 0) ∨ (bT X 167 e.toNat = 29 ∧ l3 = 0 ∧ 0 ≤ cl ∧ cl < 8 + (bn X : Int))) (p2c : p + 2 < bc X) (H : E0 nn X dp ix (e + 1) b (p + 3) t (bT X 170 e.toNat)) (E1 : ∀ cc x : Nat, ¬ (cc = 2 ∧ x = 10) → h1 cc x = h cc x) (p10 : h1 2 10 = ((p + 3 : Nat) : Int)) (d : Nat) (WRK : ∀ (RES : Int × ms_M → Prop) , (∀ d2 : Nat, Pc (mx_sv ((qg_X13_condition nn d2).2.1 (bT X 170 e.toNat) r) fun u67 => if u67.1 = 0 then (some ((if l3 = 1 then 4 else ty_T (100 + cl)), u67.2)) else (mx_sv (qf_X13_wrong nn 6 ((p + 2 : Nat) : Int) u67.2) fun u71 => some ((if l3 = 1 then 4 else ty_T (100 + cl)), u71))) (fun u => ∀ z : ms_M, z = up_M u.2 174 e.toNat u.1 → (z 160 9 = 0 → RES (u.1, z)) ∧ (¬ z 160 9 = 0 → RES (0, z)))) → ∀ d2 : Nat, Pc ((qg_X13_condition nn d2).2.2.1 e r) RES) (d2 : Nat) {l2 : Int} (hl2 : l2 = ((p + 1 : Nat) : Int)) : Pc (mx_sv ((qg_X10_readValue nn d).1 dp h1) fun u29 => xl (oq_add (u29 2 10) 1) fun v32 => xl (up_M u29 2 10 v32) fun h33 => if ¬ (h33 49 12) = 301 then (qj_X10_readNew_147 nn (qg_X10_readValue nn d) l2 l3 cl 0 h33) else (qj_X10_readNew_147 nn (qg_X10_readValue nn d) l2 l3 cl 1 h33)) (fun u => Pc ((qg_X13_condition nn d2).2.2.1 e r) (fun v => (SFj u v.2 ∨ VDj X 0 a b p (t + 1) e h r u v) ∨ POk nn X 0 a b p (t + 1) e h r u v)) := by
  have Q0 := Q
  obtain ⟨B, ⟨q1, q2, q3, q4⟩, ⟨f1, f2, f3⟩, o1⟩ := Q0
  have BK := Y.1
  have n8 := Y.2.2.1
  have c3 := BK.2.1
  have HH := B.1
  have TQ : TBq (bK X) (bP X) (bc X) r := HH.1.2.2.1
  have tc0 : t < bc X := tb_lt BK (by omega)
  have p3c : p + 3 < bc X := by omega
  have Q1 : EPr X dp (p + 3) h1 r := epr_in Q E1 p10 (by omega) p3c
  have b57' : 0 ≤ r 160 57 ∧ r 160 57 + (b - (e + 1)) < 9000 ∧ b ≤ 9000 := by omega
  have GV := j_given (nn := nn) (X := X) (x := (qg_X10_readValue nn d).1 dp h1) TQ (fun cc y z => B.2.2.2.2.2.1 cc y (by omega)) n8 (fun d2 => H (.inr (.inl kk.1)) d d2 h1 r Q1 b57') (fun z => absurd z (by omega)) (by omega)
  have G := fsg_X10_readValue nn d
  have nl : ¬ bT X 167 e.toNat = 30 ∧ ¬ bT X 167 e.toNat = 31 ∧ ¬ bT X 167 e.toNat = 32 ∧ ¬ bT X 167 e.toNat = 37 ∧ ¬ bT X 167 e.toNat = 38 := by omega
  refine p2_sa ?_
  intro u29 e29
  -- behind a FAULT
  have TF : ¬ u29 2 11 = 0 → Pc (xl (oq_add (u29 2 10) 1) fun v32 => xl (up_M u29 2 10 v32) fun h33 => if ¬ (h33 49 12) = 301 then (qj_X10_readNew_147 nn (qg_X10_readValue nn d) l2 l3 cl 0 h33) else (qj_X10_readNew_147 nn (qg_X10_readValue nn d) l2 l3 cl 1 h33)) (fun u => FSc u29 u) := fun S => by
    refine pc_xl ?_; intro v32 e32
    refine pc_xl ?_; intro h33 e33
    have F33 : FSc u29 h33 := ⟨by rw [e33, up_n (by omega)], by rw [e33, up_n (by omega)]⟩
    have S33 : ¬ h33 2 11 = 0 := by rw [F33.1]; exact S
    exact pc_if (fun _ => pc_imp (fs_qj_X10_readNew_147 G S33) (fun u F => fs_t F33 F)) (fun _ => pc_imp (fs_qj_X10_readNew_147 G S33) (fun u F => fs_t F33 F))
  have tyv : VTn (bn X) (if l3 = 1 then 200 else 100 + cl) ∧ ¬ (if l3 = 1 then 200 else 100 + cl) = 303 ∧ ty_T (if l3 = 1 then 200 else 100 + cl) = (if l3 = 1 then 4 else ty_T (100 + cl)) ∧ ¬ (if l3 = 1 then (4 : Int) else ty_T (100 + cl)) = 3 := by
    rcases nk with ⟨-, y, -⟩ | ⟨-, y, y2, y3⟩
    · rw [if_pos y, if_pos y]; exact ⟨by unfold VTn; omega, by decide, by decide, by decide⟩
    · rw [if_neg (by omega), if_neg (by omega)]
      have vv : VTn (bn X) (100 + cl) := by unfold VTn; omega
      have c := ty_c (vtn_v n8 vv)
      exact ⟨vv, by omega, rfl, by omega⟩
  generalize hty : (if l3 = 1 then (200 : Int) else 100 + cl) = ty at tyv
  generalize htt : (if l3 = 1 then (4 : Int) else ty_T (100 + cl)) = tt at tyv WRK
  obtain ⟨tv1, tv2, tv3, tv4⟩ := tyv
  refine WRK _ (fun d3 => ?_) d2
  refine pc_sv (GV d3 u29 e29) ?_; intro v1 hv
  have WF : ∀ z1 : ms_M, ¬ z1 160 9 = 0 → Pc (mx_sv (qf_X13_wrong nn 6 ((p + 2 : Nat) : Int) z1) fun u71 => some (tt, u71)) (fun u => FSr z1 u.2) := fun z1 S => by
    refine pc_sv (ft_qf_X13_wrong S) ?_; intro u71 F
    exact pc_ret F
  rcases hv with S | ⟨⟨K, K15, KF⟩, FX, n303⟩
  · have SR := sf_r S
    have DONE : ∀ y : Int × ms_M, FSr v1.2 y.2 → ∀ z : ms_M, z = up_M y.2 174 e.toNat y.1 → Pc (xl (oq_add (u29 2 10) 1) fun v32 => xl (up_M u29 2 10 v32) fun h33 => if ¬ (h33 49 12) = 301 then (qj_X10_readNew_147 nn (qg_X10_readValue nn d) l2 l3 cl 0 h33) else (qj_X10_readNew_147 nn (qg_X10_readValue nn d) l2 l3 cl 1 h33)) (fun u => SFj u z) := fun y F z ez => pc_imp (TF S.1) (fun u F2 => sf_k S F2 ⟨by rw [ez, up_n (by omega)]; exact F.1, by rw [ez, up_n (by omega)]; exact F.2⟩)
    refine pc_if (fun _ => pc_ret (fun z ez => ?_)) (fun _ => pc_imp (WF v1.2 SR) (fun y F => fun z ez => ?_))
    · exact ⟨fun y => pc_imp (DONE (tt, v1.2) ft_r z ez) (fun u q => .inl (.inl q)), fun _ => pc_imp (DONE (tt, v1.2) ft_r z ez) (fun u q => .inl (.inl q))⟩
    · exact ⟨fun _ => pc_imp (DONE y F z ez) (fun u q => .inl (.inl q)), fun _ => pc_imp (DONE y F z ez) (fun u q => .inl (.inl q))⟩
  · obtain ⟨⟨x1, x2, x3, x4, x5⟩, ⟨x6, x7, x8⟩, ⟨x9, x10, x11⟩, ⟨x12, x13, x14⟩, -⟩ := K
    have tc : t + 1 < bc X := jp_lt BK x2 (by omega)
    have t0 : ty_T (u29 49 12) = 0 ↔ u29 49 12 = 301 := by
      have c := ty_c (vtn_v n8 x7)
      omega
    have BX1 : BX X u29 v1.2 := bx_e Q1.1 x9 x10
    have HT : TBq (bK X) (bP X) (bc X) v1.2 := BX1.1.1.2.2.1
    refine pc_if (fun z0 => ?_) (fun z0 => ?_)
    · -- an int
      have i301 : u29 49 12 = 301 := t0.mp (by rw [← x6]; exact z0)
      obtain ⟨⟨y1, -⟩, y2⟩ := FX.2.2 (by omega)
      rw [if_neg n303, E1 34 3 (by omega)] at y1
      rw [E1 34 1 (by omega)] at x13
      refine pc_ret (fun zz (ez : zz = up_M v1.2 174 e.toNat tt) => ⟨fun _ => ?_, fun y => absurd (by rw [ez, up_n (by omega)]; exact x5) y⟩)
      rw [x1]
      refine pc_add (by omega) ?_; intro v32 e32
      refine pc_xl ?_; intro h33 e33
      rw [show v32 = ((t + 1 : Nat) : Int) by omega] at e33
      have E33 : ∀ cc x : Nat, ¬ (cc = 2 ∧ x = 10) → h33 cc x = u29 cc x := fun cc x z => by rw [e33, up_n z]
      refine pc_if (fun z => absurd (show h33 49 12 = 301 by rw [E33 49 12 (by omega)]; exact i301) z) (fun _ => ?_)
      -- the end: op o k, pop 1, give
      have END : ∀ (g2 : ms_M) (u2 : ms_M), (∀ cc x : Nat, ¬ (cc = 34 ∧ x = 1) → ¬ cc = 35 → ¬ (cc = 45 ∧ (x = 4 ∨ x = 5)) → ¬ (cc = 46 ∨ cc = 47) → g2 cc x = h33 cc x) → g2 34 1 = h33 34 1 + 2 → (∀ (PB : Nat → Prop) (WL : Int → Int → Prop) (L : List (Int × Int)) (m1 : ms_M) (Kf : ms_M → Option ms_M) (QQ : ms_M → Prop) (dd : Nat), MKx X PB WL L h33 m1 → m1 174 e.toNat = tt → (∀ w : ms_M, MKx X PB WL L g2 w → w 160 88 = m1 160 88 → Pc (qf_X13_turn nn 1 tt w) QQ) → Pc (if l3 = 1 then (mx_sv (qf_X13_put nn 188 m1) fun u140 => mx_sv (qf_X13_put nn 10 u140) fun u142 => mx_sv (qf_X13_turn nn 1 tt u142) fun u144 => some u144) else (mx_sv (qf_X13_put nn 189 m1) fun u150 => xl (oq_sub tt 1) fun v151 => mx_sv (qf_X13_classConstant nn v151 u150) fun u153 => mx_sv (qf_X13_put nn u153.1 u153.2) fun u155 => mx_sv (qf_X13_turn nn 1 tt u155) fun u157 => some u157)) QQ) → Pc (mx_sv (qf_X1_pop nn 1 g2) fun u5 => if l3 = 0 then (xl (oq_add 100 cl) fun v6 => mx_sv (qf_X10_give nn v6 u5) fun u8 => some u8) else (mx_sv (qf_X10_give nn 200 u5) fun u10 => some u10)) (fun u => (SFj u zz ∨ VDj X 0 a b p (t + 1) e h r u (tt, zz)) ∨ POk nn X 0 a b p (t + 1) e h r u (tt, zz)) := fun g2 _ G2 l2' MM => by
        have h3 : g2 34 3 = h 34 3 + 1 := by rw [G2 34 3 (by omega) (by omega) (by omega) (by omega), E33 34 3 (by omega)]; exact y1
        refine pc_sv (c_pop (by omega) (by omega)) ?_; intro u5 A3
        have h5 : u5 34 3 = h 34 3 := by rw [A3.1, h3]; split <;> omega
        have GIV : Pc (mx_sv (qf_X10_give nn ty u5) fun u8 => some u8) (fun u => (SFj u zz ∨ VDj X 0 a b p (t + 1) e h r u (tt, zz)) ∨ POk nn X 0 a b p (t + 1) e h r u (tt, zz)) := ?_
        · refine pc_if (fun z => ?_) (fun z => ?_)
          · refine pc_add (by omega) ?_; intro v6 e6
            rw [if_neg (by omega)] at hty
            rw [show v6 = ty by omega]; exact GIV
          · rw [if_pos (by omega)] at hty
            rw [hty]; exact GIV
        refine pc_sv (c_give (by omega)) ?_; intro u8 ⟨g8, CP, eu⟩
        have G5 : ∀ cc x : Nat, ¬ (cc = 34 ∧ (x = 1 ∨ x = 3)) → ¬ cc = 35 → ¬ (cc = 45 ∧ (x = 4 ∨ x = 5)) → ¬ (cc = 46 ∨ cc = 47) → ¬ (cc = 2 ∧ x = 10) → u5 cc x = u29 cc x := fun cc x z1 z2 z3 z4 z5 => by rw [A3.2 cc x (by omega), G2 cc x (by omega) z2 z3 z4]; exact E33 cc x z5
        have l5 : u5 34 1 = u29 34 1 + 2 := by rw [A3.2 34 1 (by omega), l2', E33 34 1 (by omega)]
        have t11 : u8 49 11 = 0 := by rw [eu, up_s]
        have t12 : u8 49 12 = ty := by rw [eu, up_n (by omega), up_s]
        have t3 : u8 34 3 = h 34 3 + 1 := by rw [eu, up_n (by omega), up_n (by omega), CP.1, h5]
        refine pc_ret (.inr ?_)
        refine pok_give (t := ty) (g := u5) (v := v1.2) Q ⟨tc, by omega⟩ ne ?_ ?_ ?_ ?_ ?_ ?_ ?_ CP eu ⟨tv1, tv2⟩ ?_ x5 (by rw [ez, tv3]) ?_
        · exact cfe_t (cfe_w x9 E1 (fun cc x _ _ => rfl)) (fun cc x a1 a2 a3 a4 a5 a6 a7 a8 => G5 cc x (by omega) (by omega) (by omega) (by omega) (by omega))
        · refine ⟨by rw [G5 49 10 (by omega) (by omega) (by omega) (by omega) (by omega), x11.1]; exact E1 49 10 (by omega), fun cc x z1 z2 z3 => ?_⟩
          rw [G5 cc x (by omega) (by omega) (by omega) (by omega) (by omega), x11.2 cc x z1 z2 (by rw [E1 49 10 (by omega)]; exact z3)]
          exact E1 cc x (by omega)
        · rw [A3.2 2 10 (by omega), G2 2 10 (by omega) (by omega) (by omega) (by omega), e33, up_s]
        · rw [G5 2 11 (by omega) (by omega) (by omega) (by omega) (by omega)]; exact x4
        · exact frc_k x12 (fun cc x z => G5 cc x (by omega) (by omega) (by omega) (by omega) (by omega))
        · omega
        · omega
        · exact ⟨x10.1, fun cc x z1 z2 z3 => x10.2 cc x z1 z2 (by omega)⟩
        · refine ⟨.inr ⟨t11, by omega, by rw [t12]; exact tv2⟩, fun _ => .inl ⟨by omega, by omega, fun z => absurd z nl.1⟩, fun _ => ⟨⟨by rw [t12, if_neg tv2]; exact t3, top_g CP (by omega) eu⟩, ?_⟩⟩
          refine mkc_one nl ne (fun PB WL L m d M A z1 z2 => ?_)
          obtain ⟨MT, -, -, -⟩ := mk_t M
          have a4 : m 174 e.toNat = tt := by rw [A 174 e.toNat (by omega) (by omega) (by omega) (by omega), up_s, tv3]
          have M1 : MKx X PB WL L h1 m := mkx_c M (fun cc x z1 z2 z3 => E1 cc x (by omega))
          have CH := y2 d PB WL L m M1 (an_s A ⟨by omega, Int.le_refl _⟩ (fun cc x c1 c2 c4 c5 => up_n (by omega))) (by omega) (by omega)
          have FINAL : ∀ w1 : ms_M, MKx X PB WL L u29 w1 → (m 160 88 ≤ w1 160 88 ∧ w1 160 88 + 4 * ((p + 3 : Nat) : Int) ≤ m 160 88 + 4 * (t : Int)) → (∀ cc x : Nat, 174 ≤ cc → cc ≤ 176 → w1 cc x = m cc x) → Pc (if l3 = 1 then (mx_sv (qf_X13_put nn 188 w1) fun u140 => mx_sv (qf_X13_put nn 10 u140) fun u142 => mx_sv (qf_X13_turn nn 1 tt u142) fun u144 => some u144) else (mx_sv (qf_X13_put nn 189 w1) fun u150 => xl (oq_sub tt 1) fun v151 => mx_sv (qf_X13_classConstant nn v151 u150) fun u153 => mx_sv (qf_X13_put nn u153.1 u153.2) fun u155 => mx_sv (qf_X13_turn nn 1 tt u155) fun u157 => some u157)) (fun w => MKx X PB WL L u8 w ∧ (m 160 88 ≤ w 160 88 ∧ w 160 88 + 4 * (p : Int) ≤ m 160 88 + 4 * ((t + 1 : Nat) : Int))) := fun w1 Mw lw aw => by
            refine MM PB WL L w1 (fun w => some w) _ 0 (mkx_c Mw (fun cc x z1 z2 z3 => E33 cc x (by omega))) (by rw [aw 174 _ (by omega) (by omega)]; exact a4) (fun w Mw2 lw2 => ?_)
            refine pc_imp (m_turnG Mw2 A3 CP (by omega) (by omega) ⟨tv3.symm, tv1, tv2⟩ tv4 eu) (fun w3 y3 => ⟨y3.1, by rw [y3.2, lw2]; omega⟩)
          unfold qo_X13_workOne
          refine pc_rA ?_; intro _ _ v59 e59
          rw [a4] at e59
          refine pc_rA ?_; intro _ _ v61 e61
          rw [MT 167 e.toNat (by omega)] at e61
          rw [e59]
          refine pc_if (fun z => absurd z (by omega)) (fun _ => ?_)
          refine pc_if (fun z => absurd z (by omega)) (fun _ => ?_)
          refine pc_if (fun z => absurd z (by omega)) (fun _ => ?_)
          refine pc_if (fun z => absurd z (by omega)) (fun _ => ?_)
          refine pc_if (fun z => absurd z (by omega)) (fun _ => ?_)
          refine pc_if (fun z => absurd z (by omega)) (fun _ => ?_)
          refine pc_if (fun z => absurd z (by omega)) (fun _ => ?_)
          refine pc_if (fun z => absurd z (by omega)) (fun _ => ?_)
          refine pc_if (fun z8 => ?_) (fun z8 => ?_)
          · refine pc_rA ?_; intro _ _ v136 e136
            rw [MT 170 e.toNat (by omega)] at e136
            rw [e136]
            refine pc_sv (pc_and CH (wk_an d)) ?_; intro u138 ⟨⟨c1, c2⟩, c4⟩
            have R := FINAL u138 c1 c2 c4
            rw [if_pos (show l3 = 1 by omega)] at R
            exact R
          · refine pc_if (fun z9 => ?_) (fun z9 => absurd z9 (by omega))
            refine pc_rA ?_; intro _ _ v146 e146
            rw [MT 170 e.toNat (by omega)] at e146
            rw [e146]
            refine pc_sv (pc_and CH (wk_an d)) ?_; intro u148 ⟨⟨c1, c2⟩, c4⟩
            have R := FINAL u148 c1 c2 c4
            rw [if_neg (show ¬ l3 = 1 by omega)] at R
            exact R
      unfold qj_X10_readNew_147
      rw [hl2]
      refine pc_add (by omega) ?_; intro v16 e16
      have WT : Pc (qf_X10_wantType nn 1 v16 h33) (fun y => y = h33) := by
        unfold qf_X10_wantType
        exact pc_if (fun _ => pc_ret rfl) (fun z => absurd (by decide) z)
      refine pc_sv WT ?_; intro u18 q18
      rw [q18]
      have l33 := E33 34 1 (by omega)
      refine pc_if (fun z3 => ?_) (fun z3 => ?_)
      · -- a class's rows
        have k4 : 0 ≤ cl ∧ cl < 8 + (bn X : Int) := by omega
        unfold qj_X10_readNew_170
        refine pc_if (fun _ => ?_) (fun z => absurd z3 z)
        refine pc_sv (pc_and c_clf (fun u eu => eu)) ?_; intro u14 ⟨G14, e14⟩
        unfold qj_X10_readNew_188
        have l14 := G14 34 1 (by omega) (by omega) (by omega)
        refine pc_sv (c_op2 (by omega)) ?_; intro u2 ⟨g1, A1, A2⟩
        refine END u2 u2 (fun cc x z1 z2 z5 z4 => by rw [A2.2.2 cc x (by omega) (by omega), A1.2.2 cc x (by omega) (by omega)]; exact G14 cc x z5 (by omega) (by omega)) (by rw [A2.1, A1.1]; omega) (fun PB WL L m1 Kf QQ dd Mm a1 TT => ?_)
        rw [if_neg (by omega)] at htt ⊢
        have tyc := ty_c (t := cl) (.inr (.inr (.inr (.inr (.inr (.inl (by omega)))))))
        have tyr := ty_c (t := 100 + cl) (.inr (.inr (.inr (.inr (.inr (.inr (by omega)))))))
        obtain ⟨-, -, ⟨m1', m2, m3, m4⟩, -⟩ := mk_t Mm
        refine pc_sv (r_put (by omega)) ?_; intro u150 b1
        obtain ⟨p1, p2, p3, p4⟩ := mk_plp Mm b1
        refine pc_sub (by omega) ?_; intro v151 e151
        rw [show v151 = ty_T cl by omega]
        refine pc_sv (j_classC Y p4 p3 p1 p2 (.inl k4) u14 e14) ?_; intro u153 ⟨PC, SP⟩
        refine pc_sv (r_put (by rw [PC.2.2.2.2.1 160 68 (by omega) (by omega), b1.1]; omega)) ?_; intro u155 b2
        refine pc_sv (TT u155 (mk_opc Mm b1 PC SP A1 A2 b2 (by unfold in_R; omega)) (by rw [b2.2.2 160 88 (by omega) (by omega), PC.2.2.2.2.1 160 88 (by omega) (by omega), b1.2.2 160 88 (by omega) (by omega)])) ?_; intro u157 y
        exact pc_ret y
      · unfold qj_X10_readNew_170
        refine pc_if (fun z => absurd z z3) (fun _ => ?_)
        unfold qj_X10_readNew_188
        refine pc_sv (c_op2 (by omega)) ?_; intro u2 ⟨g1, A1, A2⟩
        refine END u2 u2 (fun cc x z1 z2 z5 z4 => by rw [A2.2.2 cc x (by omega) (by omega), A1.2.2 cc x (by omega) (by omega)]) (by rw [A2.1, A1.1]; omega) (fun PB WL L m1 Kf QQ dd Mm a1 TT => ?_)
        rw [if_pos (by omega)]
        obtain ⟨-, -, ⟨m1', m2, m3, m4⟩, -⟩ := mk_t Mm
        refine pc_sv (r_put (by omega)) ?_; intro u140 b1
        refine pc_sv (r_put (by rw [b1.1]; omega)) ?_; intro u142 b2
        refine pc_sv (TT u142 (mk_op (mk_op Mm A1 b1 (fun _ => rfl) (by unfold in_R; omega)) A2 b2 (fun _ => rfl) (by unfold in_R; omega)) (by rw [b2.2.2 160 88 (by omega) (by omega), b1.2.2 160 88 (by omega) (by omega)])) ?_; intro u144 y
        exact pc_ret y
    · -- not an int
      have ni : ¬ u29 49 12 = 301 := fun z => z0 (by rw [x6]; exact t0.mpr z)
      refine pc_sv (r_wrong HT (p := p + 2) p2c x5 rfl) ?_; intro u71 ⟨w1, w2⟩
      refine pc_ret (fun zz (ez : zz = up_M u71 174 e.toNat tt) => ?_)
      have y9 : zz 160 9 = 6 := by rw [ez, up_n (by omega)]; exact w1
      have y10 : zz 160 10 = bP X (p + 2) := by rw [ez, up_n (by omega)]; exact w2
      refine ⟨fun y => absurd y (by omega), fun _ => ?_⟩
      rw [x1]
      refine pc_add (by omega) ?_; intro v32 e32
      refine pc_xl ?_; intro h33 e33
      have E33 : ∀ cc x : Nat, ¬ (cc = 2 ∧ x = 10) → h33 cc x = u29 cc x := fun cc x z => by rw [e33, up_n z]
      refine pc_if (fun _ => ?_) (fun z => absurd (show ¬ h33 49 12 = 301 by rw [E33 49 12 (by omega)]; exact ni) z)
      unfold qj_X10_readNew_147
      rw [hl2]
      refine pc_add (by omega) ?_; intro v16 e16
      have TB33 : TBc (bK X) (bP X) (bc X) h33 := tbc_k BX1.1.1.1.1 (fun cc y z => E33 cc y (by omega))
      have WT : Pc (qf_X10_wantType nn 0 v16 h33) (fun y => y 2 11 = 6 ∧ y 2 12 = bP X (p + 2)) := by
        unfold qf_X10_wantType
        refine pc_if (fun z => absurd rfl z) (fun _ => ?_)
        refine pc_sv (c_tell TB33 (by rw [E33 2 11 (by omega)]; exact x4) p2c (by omega)) ?_; intro u3 ⟨t1, _⟩
        exact pc_ret t1
      refine pc_sv WT ?_; intro u18 ⟨s1, s2⟩
      have S18 : ¬ u18 2 11 = 0 := by omega
      have FF : ∀ u : ms_M, FSc u18 u → (SFj u zz ∨ VDj X 0 a b p (t + 1) e h r u (0, zz)) ∨ POk nn X 0 a b p (t + 1) e h r u (0, zz) := fun u F => .inl (.inl ⟨by rw [F.1]; exact S18, by rw [F.1, y9, s1], by rw [F.2, y10, s2]⟩)
      exact pc_if (fun _ => pc_imp (fs_qj_X10_readNew_170 G S18) (fun u F => FF u F)) (fun _ => pc_imp (fs_qj_X10_readNew_170 G S18) (fun u F => FF u F))
end

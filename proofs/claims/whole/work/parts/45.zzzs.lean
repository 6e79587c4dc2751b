section
/- S of both sides: what is given a value, whole -/
section
variable {nn : Nat} {X : BCx} {dp i a b a1 b1 a2 b2 e e1 e2 s bb lb lh d o en k ix iy y0 : Int} {p q t uu : Nat} {h g u r w m z h13 h35 u16 u38 g1 g2 g3 : ms_M} {v v1 v2 : Int × ms_M} {PB : Nat → Prop} {WL : Int → Int → Prop} {L : List (Int × Int)}
/-- it fits: the class closes it, and the making does the same -/
theorem te_ok (Y : CXs X) (Wb : BRw X) (Q : SPq X d p bb h r) (ne : 0 ≤ a ∧ a ≤ s ∧ s < b) (yb : s < y0 ∧ y0 ≤ b) (nb : b ≤ 8999) (nd : bT X 167 s.toNat = 12) (ee1 : bT X 170 s.toNat = e1) (ee2 : bT X 171 s.toNat = e2) (r1 : s + 1 ≤ e1 ∧ e1 < y0) (e13 : h13 = up_M h 49 18 (p : Int)) (K1 : EOz nn X ix (s + 1) y0 p t e1 h13 r u16 v1) (SE1 : SEq h13 r u16 v1.2) (e35 : h35 = up_M u16 2 10 ((t + 1 : Nat) : Int)) (K2 : EOz nn X iy y0 b (t + 1) uu e2 h35 v1.2 u38 v2) (n3 : ¬ u38 49 12 = 303) (F2 : FM01 nn X iy y0 b (t + 1) uu e2 h35 u38 v2.2) (ku : bK X uu = 46) (SE2 : SEq h35 v1.2 u38 v2.2) (pt : p < t ∧ t + 1 < uu) (uc : uu + 1 < bc X) (n2 : ¬ u16 49 11 < 2) : Pc (mx_sv (qf_X0_closeGiving nn (u16 49 11) (u16 49 12) (u16 49 13) (u16 49 14) u38) fun u6 => qj_X0_readPlain_156 nn u6) (fun x => SOk nn X s a b p (uu + 1) bb h r x (1, v2.2)) := by
  have Q0 := Q
  obtain ⟨⟨B, ⟨q1, q2, q3, q4⟩, ⟨f1, f2, f3⟩, o1⟩, ⟨h3, h10, r57, h7⟩, ⟨LP, l54, br⟩, -⟩ := Q0
  obtain ⟨⟨x1, x2, x3, x4, x5⟩, ⟨x6, x7, x8⟩, ⟨x9, x10, x11⟩, ⟨x12, x13, x14⟩, FMV⟩ := K1.1
  obtain ⟨⟨k1, k2, k3, k4, k5⟩, ⟨k6, k7, k8⟩, ⟨k9, k10, k11⟩, ⟨k12, k13, k14⟩, -⟩ := K2.1
  obtain ⟨⟨y1, -⟩, y2⟩ := F2.2.2 (by omega)
  rw [if_neg n3] at y1
  have n8 := Y.2.2.1
  have c3 := Y.1.2.1
  have E13 : ∀ cc x : Nat, ¬ (cc = 49 ∧ x = 18) → h13 cc x = h cc x := fun cc x q => by rw [e13, up_n q]
  have E35 : ∀ cc x : Nat, ¬ (cc = 2 ∧ x = 10) → h35 cc x = u16 cc x := fun cc x q => by rw [e35, up_n q]
  have a1' := E13 34 1 (by omega)
  have a3' := E13 34 3 (by omega)
  have b1' := E35 34 1 (by omega)
  have b3' := E35 34 3 (by omega)
  have t4 : v1.2 174 e1.toNat = ty_T (u16 49 12) := by rw [x8, x6]
  -- the end of the class
  have END : ∀ (g : ms_M), (∀ cc x : Nat, ¬ ((cc = 34 ∧ (x = 1 ∨ x = 3)) ∨ (cc = 35 ∧ u38 34 1 ≤ (x : Int)) ∨ (cc = 45 ∧ (x = 4 ∨ x = 5)) ∨ cc = 46 ∨ cc = 47) → g cc x = u38 cc x) → (u38 34 1 ≤ g 34 1 ∧ g 34 1 ≤ u38 34 1 + 3) → g 34 3 = 0 → (∀ (z : ms_M), z = up_M g 2 10 ((uu + 1 : Nat) : Int) → ∀ (PB : Nat → Prop) (WL : Int → Int → Prop) (L : List (Int × Int)) (m : ms_M), MKx X PB WL L h13 m → AN (s + 1) y0 v1.2 m → AN y0 b v2.2 m → m 160 57 = 0 → m 160 88 + 4 * (uu : Int) ≤ 2000000000 + 4 * (p : Int) → Pc (qf_X13_assign nn e1 e2 m) (fun w => MKx X PB WL L z w ∧ (m 160 88 ≤ w 160 88 ∧ w 160 88 + 4 * (p : Int) ≤ m 160 88 + 4 * (uu : Int)) ∧ MWf m w)) → Pc (qj_X0_readPlain_156 nn g) (fun x => SOk nn X s a b p (uu + 1) bb h r x (1, v2.2)) := fun g Gf g1 g3 MP => by
    have g10 : g 2 10 = (uu : Int) := by rw [Gf 2 10 (by omega)]; exact k1
    unfold qj_X0_readPlain_156
    refine pc_add (by omega) ?_; intro v3 e3
    refine pc_xl ?_; intro h4 e4
    rw [show v3 = ((uu + 1 : Nat) : Int) by omega] at e4
    refine pc_ret (sl_as Y Wb Q ne yb nb nd ee1 ee2 e13 K1 SE1 e35 K2 SE2 uc (by rw [e4, up_s]) (fun cc x q => by rw [e4, up_n (by omega)]; exact Gf cc x (by omega)) (by rw [e4, up_n (by omega)]; exact g1) (by rw [e4, up_n (by omega)]; exact g3) (MP h4 e4))
  unfold qf_X0_closeGiving
  rcases FMV with F | F | F | F
  · exact absurd F.1 (by omega)
  · have F0 := F
    obtain ⟨⟨f1', f2', f3'⟩, ⟨f4, f5, f6, f7, f8⟩, EQ⟩ := F
    have l3 : u16 34 3 = h13 34 3 := EQ 34 3 (.inr (by omega))
    refine pc_sv (P := fun u => ∃ g1 g2, COp (if u16 49 12 = 301 ∨ u16 49 12 = 302 then 54 else 58) u38 g1 ∧ COp (u16 49 14) g1 g2 ∧ CPo 1 g2 u) ?_ ?_
    · refine pc_if (fun _ => ?_) (fun z => absurd f1' z)
      exact pc_sv (c_store (by omega) (by omega)) (fun u y => pc_ret y)
    · intro g ⟨g1, g2, A1, A2, A3⟩
      have l2 : g2 34 3 = u38 34 3 := by rw [A2.2.2 34 3 (by omega) (by omega)]; exact A1.2.2 34 3 (by omega) (by omega)
      have lg : g 34 1 = u38 34 1 + 2 := by rw [A3.2 34 1 (by omega), A2.1, A1.1]; omega
      have lm := A1.1
      refine END g (fun cc x q => by rw [A3.2 cc x (by omega), A2.2.2 cc x (by omega) (by omega)]; exact A1.2.2 cc x (by omega) (by omega)) (by omega) (by rw [A3.1, l2]; split <;> omega) (fun z ez PB WL L m M AM1 AM2 m57 m88 => ?_)
      exact m_as2 n8 (by omega) F0 t4 x7 e35 y2 A1 A2 A3 ez (by omega) (by omega) pt.1 M AM1 AM2 m57 m88
  · have F0 := F
    obtain ⟨⟨f1', f2', f3', f4'⟩, ⟨MX, l3, -⟩, -⟩ := F
    refine pc_sv (P := fun u => ∃ (u14 : Int × ms_M) (g1 g2 : ms_M), qf_X6_fieldOf nn (u16 49 13) (u16 49 14) u38 = some u14 ∧ COp 181 u14.2 g1 ∧ COp u14.1 g1 g2 ∧ CPo 2 g2 u ∧ (∀ cc y : Nat, ¬ (cc = 45 ∧ (y = 4 ∨ y = 5)) → ¬ cc = 46 → ¬ cc = 47 → u14.2 cc y = u38 cc y)) ?_ ?_
    · refine pc_if (fun z => absurd z (by omega)) (fun _ => ?_)
      refine pc_if (fun _ => ?_) (fun z => absurd f1' z)
      refine pc_se ?_; intro u14 e14
      have G14 : ∀ cc y : Nat, ¬ (cc = 45 ∧ (y = 4 ∨ y = 5)) → ¬ cc = 46 → ¬ cc = 47 → u14.2 cc y = u38 cc y := fun cc y z1 z2 z3 => ff_X6_fieldOf nn u14 e14 cc y (nw_of (by unfold wl_X6_fieldOf; simp only [List.mem_cons, List.not_mem_nil, or_false]; omega) (by unfold wf_X6_fieldOf; simp only [List.mem_cons, List.not_mem_nil, or_false, Prod.mk.injEq]; omega))
      refine pc_sv (c_op2 (by rw [G14 34 1 (by omega) (by omega) (by omega)]; omega)) ?_; intro u16' ⟨g1, A1, A2⟩
      refine pc_sv (c_pop (by omega) (by rw [A2.2.2 34 3 (by omega) (by omega), A1.2.2 34 3 (by omega) (by omega), G14 34 3 (by omega) (by omega) (by omega)]; omega)) ?_; intro u19 A3
      exact pc_ret ⟨u14, g1, u16', e14, A1, A2, A3, G14⟩
    · intro g ⟨u14, g1, g2, e14, A1, A2, A3, G14⟩
      have l2 : g2 34 3 = u38 34 3 := by rw [A2.2.2 34 3 (by omega) (by omega), A1.2.2 34 3 (by omega) (by omega)]; exact G14 34 3 (by omega) (by omega) (by omega)
      have l14 := G14 34 1 (by omega) (by omega) (by omega)
      have lg : g 34 1 = u38 34 1 + 2 := by rw [A3.2 34 1 (by omega), A2.1, A1.1]; omega
      have lm := A1.1
      refine END g (fun cc x q => by rw [A3.2 cc x (by omega), A2.2.2 cc x (by omega) (by omega), A1.2.2 cc x (by omega) (by omega)]; exact G14 cc x (by omega) (by omega) (by omega)) (by omega) (by rw [A3.1, l2]; split <;> omega) (fun z ez PB WL L m M AM1 AM2 m57 m88 => ?_)
      exact m_as3 Y (by omega) F0 e35 y2 e14 A1 A2 A3 ez (by omega) (by omega) pt M AM1 AM2 m57 m88
  · have F0 := F
    obtain ⟨⟨f1', f2', f3', f4'⟩, ⟨l3, -⟩, -⟩ := F
    have T90 : ∀ o : Int, Pc (qj_X0_closeGiving_90 nn o u38) (fun u => ∃ g1, COp o u38 g1 ∧ CPo 3 g1 u) := fun o => by
      unfold qj_X0_closeGiving_90
      refine pc_sv (c_op (by omega)) ?_; intro g1 A1
      refine pc_sv (c_pop (by omega) (by rw [A1.2.2 34 3 (by omega) (by omega)]; omega)) ?_; intro g3 A3
      exact pc_ret ⟨g1, A1, A3⟩
    refine pc_sv (P := fun u => ∃ g1, COp (if u16 49 12 = 301 then 79 else 83) u38 g1 ∧ CPo 3 g1 u) ?_ ?_
    · refine pc_if (fun z => absurd z (by omega)) (fun _ => ?_)
      refine pc_if (fun z => absurd z (by omega)) (fun _ => ?_)
      refine pc_if (fun z => ?_) (fun z => ?_)
      · rw [if_neg z]; exact T90 83
      · rw [if_pos (Classical.byContradiction z)]; exact T90 79
    · intro g ⟨g2, A1, A3⟩
      have l2 : g2 34 3 = u38 34 3 := A1.2.2 34 3 (by omega) (by omega)
      have lg : g 34 1 = u38 34 1 + 1 := by rw [A3.2 34 1 (by omega)]; exact A1.1
      refine END g (fun cc x q => by rw [A3.2 cc x (by omega)]; exact A1.2.2 cc x (by omega) (by omega)) (by omega) (by rw [A3.1, l2]; split <;> omega) (fun z ez PB WL L m M AM1 AM2 m57 m88 => ?_)
      exact m_as4 n8 (by omega) F0 t4 x7 e35 y2 A1 A3 ez (by omega) (by omega) pt M AM1 AM2 m57 m88
theorem s6_te (Y : CXs X) (Wb : BRw X) (ne : 0 ≤ a ∧ a ≤ s ∧ s < b) (yb : s < y0 ∧ y0 ≤ b) (nb : b ≤ 8999) (hd : 0 ≤ d ∧ d ≤ 40) (nd : bT X 167 s.toNat = 12 ∧ bT X 168 s.toNat = (t : Int)) (pl : PLp (bK X) (p : Int)) (r1 : s + 1 ≤ bT X 170 s.toNat ∧ bT X 170 s.toNat < y0) (H : E0 nn X (d + 1) ix (s + 1) y0 p t (bT X 170 s.toNat)) (L1 : bT X 177 (bT X 170 s.toNat).toNat = ix) (kt : bK X t = 51) (H2 : E0 nn X (d + 1) iy y0 b (t + 1) uu (bT X 171 s.toNat)) (ku : bK X uu = 46) (pt : p < t ∧ t + 1 < uu) : S6 nn X d a b p (uu + 1) s := by
  intro dc dr h r bb Q U
  have Q0 := Q
  obtain ⟨Qe, ⟨h3, h10, r57, h7⟩, -, -⟩ := Q0
  have Qe0 := Qe
  obtain ⟨B, ⟨q1, q2, q3, q4⟩, ⟨f1, f2, f3⟩, o1⟩ := Qe0
  have T : ∀ cc y : Nat, ((163 ≤ cc ∧ cc ≤ 173) ∨ cc = 177) → r cc y = bT X cc y := B.2.2.2.2.2.1
  have c3 := Y.1.2.1
  have n8 := Y.2.2.1
  have tc : t < bc X := tb_lt Y.1 (by omega)
  have t1c : t + 1 < bc X := jp_lt Y.1 tc (by omega)
  have uc : uu < bc X := tb_lt Y.1 (by omega)
  have u1c : uu + 1 < bc X := jp_lt Y.1 uc (by omega)
  obtain ⟨pl0, pl1⟩ := pl
  rw [Int.toNat_natCast] at pl1
  generalize ee : bT X 170 s.toNat = e1 at r1 H L1
  generalize ee2 : bT X 171 s.toNat = e2 at H2
  cases dc with
  | zero => exact fun _ z => nomatch z
  | succ dc =>
    refine sjc_d Y B.1.1.1.1 q1 q2 q3 (by omega) (by omega) ?_
    unfold qj_X0_readStatement_217
    refine pc_sv (c_bv0 Y B.1.1.1.1 q1 q2 q3 pl0) ?_; intro u3 q3'
    refine pc_if (fun _ => ?_) (fun z => absurd q3' z)
    refine pc_add (by omega) ?_; intro v4 e4
    rw [e4]
    refine pc_sv (P := fun x => Pc ((qg_X13_ruled nn dr) s r) (fun y => SFj x.2 y.2 ∨ SOk nn X s a b p (uu + 1) bb h r x y)) ?_ (fun x Hx => pc_ck (fun _ => pc_ret Hx))
    unfold qf_X0_readPlain
    rw [q1]
    refine pc_xl ?_; intro h13 e13
    have E13 : ∀ cc x : Nat, ¬ (cc = 49 ∧ x = 18) → h13 cc x = h cc x := fun cc x z => by rw [e13, up_n z]
    have h18 : h13 49 18 = (p : Int) := by rw [e13, up_s]
    have Q13 : EPr X (d + 1) p h13 r := ⟨bx_k B (fun cc x z => E13 cc x (by omega)) (fun _ _ _ => rfl), ⟨by rw [E13 2 10 (by omega)]; exact q1, q2, by rw [E13 2 11 (by omega)]; exact q3, q4⟩, ⟨frc_k f1 (fun cc x z => E13 cc x (by omega)), by rw [E13 34 1 (by omega)]; exact f2, by rw [E13 34 3 (by omega)]; exact f3⟩, by rw [E13 49 10 (by omega)]; omega, by rw [E13 49 10 (by omega)]; omega, by omega⟩
    refine pc_sv (se_g Y H (.inr (.inr (.inr (.inr (.inr kt))))) Q13 r57 (by omega) (fun z => by omega) (by omega)) ?_; intro u16 H16
    intro x ex
    cases dr with
    | zero => exact fun _ z => nomatch z
    | succ dr =>
      have mt := T 167 s.toNat (by omega)
      refine sju_d q4 (by omega) ?_
      refine pc_rA ?_; intro _ _ v160 e160
      rw [T 170 _ (by omega), ee] at e160
      rw [e160]
      -- the rules behind a FAULT
      have R954 : ∀ (z : ms_M), SFj x.2 z → Pc (qj_X13_ruled_954 nn (qg_X13_ruled nn dr) s z) (fun y => SFj x.2 y.2 ∨ SOk nn X s a b p (uu + 1) bb h r x y) := fun z S => by
        unfold qj_X13_ruled_954
        refine pc_rA ?_; intro _ _ v2 _
        exact rw_sf S _ (fun y hy => .inl hy)
      have RFS : ∀ (v1 v2 : Int × ms_M), SFj x.2 v2.2 → Pc (rd_A 9000 170 s v2.2 fun v168 => mx_sv (qf_X13_canTake nn v168 v2.2) fun u170 => if u170 = 0 then (qj_X13_ruled_954 nn (qg_X13_ruled nn dr) s v2.2) else (mx_sv (qf_X13_fits nn v2.1 v1.1 v2.2) fun u172 => if ¬ u172 = 0 then (some (1, v2.2)) else (qj_X13_ruled_954 nn (qg_X13_ruled nn dr) s v2.2))) (fun y => SFj x.2 y.2 ∨ SOk nn X s a b p (uu + 1) bb h r x y) := fun v1 v2 S => by
        refine pc_rA ?_; intro _ _ v168 _
        refine pc_se ?_; intro u170 _
        refine pc_if (fun _ => R954 _ S) (fun _ => ?_)
        refine pc_se ?_; intro u172 _
        exact pc_if (fun _ => pc_ret (.inl S)) (fun _ => R954 _ S)
      -- the class behind its second E
      have FX2 : ∀ u38 : ms_M, ¬ u38 2 11 = 0 → Pc (if (u16 49 11) < 2 then (qj_X0_readPlain_126 nn (u16 2 10) (u16 49 11) (u16 49 12) (u16 49 13) (u16 49 14) u38) else (mx_sv (qf_X4_fits nn 12 (u38 49 12) (u16 49 12) u38) fun u43 => if ¬ u43 = 0 then (qj_X0_readPlain_136 nn (u16 49 11) (u16 49 12) (u16 49 13) (u16 49 14) u38) else (qj_X0_readPlain_126 nn (u16 2 10) (u16 49 11) (u16 49 12) (u16 49 13) (u16 49 14) u38))) (fun x => FSc u38 x.2) := fun u38 S => by
        refine pc_if (fun _ => fs_qj_X0_readPlain_126 S) (fun _ => ?_)
        refine pc_se ?_; intro u43 _
        exact pc_if (fun _ => fs_qj_X0_readPlain_136 S) (fun _ => fs_qj_X0_readPlain_126 S)
      refine pc_sv H16 ?_; intro v1 hv
      rcases hv with S | ⟨⟨K, n3, -⟩, SE⟩
      · have FX : Pc (mx_sv (qf_X9_kind nn u16) fun u19 => if ¬ u19 = 51 then (mx_sv (qf_X0_closeAlone nn (p : Int) u16) fun u21 => qj_X0_readPlain_156 nn u21) else (xl (oq_add (u16 2 10) 1) fun v34 => xl (up_M u16 2 10 v34) fun h35 => mx_sv (qf_X10_readWhole nn (d + 1) h35) fun u38 => if (u16 49 11) < 2 then (qj_X0_readPlain_126 nn (u16 2 10) (u16 49 11) (u16 49 12) (u16 49 13) (u16 49 14) u38) else (mx_sv (qf_X4_fits nn 12 (u38 49 12) (u16 49 12) u38) fun u43 => if ¬ u43 = 0 then (qj_X0_readPlain_136 nn (u16 49 11) (u16 49 12) (u16 49 13) (u16 49 14) u38) else (qj_X0_readPlain_126 nn (u16 2 10) (u16 49 11) (u16 49 12) (u16 49 13) (u16 49 14) u38)))) (fun x => FSc u16 x.2) := by
          refine pc_se ?_; intro u19 _
          refine pc_if (fun _ => ?_) (fun _ => ?_)
          · refine pc_sv (fs_qf_X0_closeAlone S.1) ?_; intro u21 F
            exact pc_imp (fs_qj_X0_readPlain_156 (fs_n S.1 F)) (fun _ q => fs_t F q)
          · refine pc_xl ?_; intro v34 _
            refine pc_xl ?_; intro h35 e35
            have F35 : FSc u16 h35 := ⟨by rw [e35, up_n (by omega)], by rw [e35, up_n (by omega)]⟩
            refine pc_sv (fs_qf_X10_readWhole (fs_n S.1 F35)) ?_; intro u38 F38'
            have F38 := fs_t F35 F38'
            exact pc_imp (FX2 u38 (fs_n S.1 F38)) (fun _ q => fs_t F38 q)
        have S2 := sf_c S (FX x ex)
        refine pc_rA ?_; intro _ _ v164 _
        refine pc_sv (ft_qf_X13_given (sf_r S2)) ?_; intro v2 F
        exact RFS v1 v2 ⟨S2.1, by rw [F.1]; exact S2.2.1, by rw [F.2]; exact S2.2.2⟩
      · have K0 := K
        obtain ⟨⟨x1, x2, x3, x4, x5⟩, ⟨x6, x7, x8⟩, ⟨x9, x10, x11⟩, ⟨x12, x13, x14⟩, FMV⟩ := K.1
        have Bu : BX X u16 v1.2 := bx_e Q13.1 x9 x10
        have a1' := E13 34 1 (by omega)
        have a3' := E13 34 3 (by omega)
        generalize e35 : up_M u16 2 10 ((t + 1 : Nat) : Int) = h35
        have E35 : ∀ cc x : Nat, ¬ (cc = 2 ∧ x = 10) → h35 cc x = u16 cc x := fun cc x q => by rw [← e35, up_n q]
        have C1 : Pc (mx_sv (qf_X9_kind nn u16) fun u19 => if ¬ u19 = 51 then (mx_sv (qf_X0_closeAlone nn (p : Int) u16) fun u21 => qj_X0_readPlain_156 nn u21) else (xl (oq_add (u16 2 10) 1) fun v34 => xl (up_M u16 2 10 v34) fun h35 => mx_sv (qf_X10_readWhole nn (d + 1) h35) fun u38 => if (u16 49 11) < 2 then (qj_X0_readPlain_126 nn (u16 2 10) (u16 49 11) (u16 49 12) (u16 49 13) (u16 49 14) u38) else (mx_sv (qf_X4_fits nn 12 (u38 49 12) (u16 49 12) u38) fun u43 => if ¬ u43 = 0 then (qj_X0_readPlain_136 nn (u16 49 11) (u16 49 12) (u16 49 13) (u16 49 14) u38) else (qj_X0_readPlain_126 nn (u16 2 10) (u16 49 11) (u16 49 12) (u16 49 13) (u16 49 14) u38)))) (fun x => ∃ u38 : ms_M, qf_X10_readWhole nn (d + 1) h35 = some u38 ∧ (if (u16 49 11) < 2 then (qj_X0_readPlain_126 nn (u16 2 10) (u16 49 11) (u16 49 12) (u16 49 13) (u16 49 14) u38) else (mx_sv (qf_X4_fits nn 12 (u38 49 12) (u16 49 12) u38) fun u43 => if ¬ u43 = 0 then (qj_X0_readPlain_136 nn (u16 49 11) (u16 49 12) (u16 49 13) (u16 49 14) u38) else (qj_X0_readPlain_126 nn (u16 2 10) (u16 49 11) (u16 49 12) (u16 49 13) (u16 49 14) u38))) = some x) := by
          refine pc_sv (c_kind Y.1 Bu.1.1.1.1 x2 x1 x4) ?_; intro u19 q19
          refine pc_if (fun z => absurd (show u19 = 51 by omega) z) (fun _ => ?_)
          refine pc_add (by omega) ?_; intro v34 e34
          refine pc_xl ?_; intro h35' e35'
          rw [show v34 = ((t + 1 : Nat) : Int) by omega, e35] at e35'
          rw [e35']
          refine pc_se ?_; intro u38 e38
          exact fun x ex => ⟨u38, e38, ex⟩
        obtain ⟨u38, e38, ex2⟩ := C1 x ex
        have v57 : v1.2 160 57 = 0 := by rw [SE.2]; exact r57
        have Q35 : EPr X (d + 1) (t + 1) h35 v1.2 := ⟨bx_k Bu (fun cc x z => E35 cc x (by omega)) (fun _ _ _ => rfl), ⟨by rw [← e35, up_s], t1c, by rw [E35 2 11 (by omega)]; exact x4, x5⟩, ⟨frc_k x12 (fun cc x z => E35 cc x (by omega)), by rw [E35 34 1 (by omega)]; omega, by rw [E35 34 3 (by omega)]; omega⟩, by rw [E35 49 10 (by omega), x11.1, E13 49 10 (by omega)]; omega, by rw [E35 49 10 (by omega), x11.1, E13 49 10 (by omega)]; omega, by rw [E35 49 18 (by omega), x9 49 18 (by omega) (by omega) (by omega) (by omega) (by omega) (by omega) (by omega) (by omega)]; omega⟩
        have W2 := se_g Y H2 (.inr (.inr (.inl ku))) Q35 v57 (by omega) (fun _ => by rw [E35 49 18 (by omega), x9 49 18 (by omega) (by omega) (by omega) (by omega) (by omega) (by omega) (by omega) (by omega)]; omega) (by omega) u38 e38
        have Tv1 : ∀ cc y : Nat, ((163 ≤ cc ∧ cc ≤ 173) ∨ cc = 177) → v1.2 cc y = bT X cc y := Bu.2.2.2.2.2.1
        refine pc_rA ?_; intro _ _ v164 e164
        rw [Tv1 171 _ (by omega), ee2] at e164
        rw [e164]
        refine pc_sv W2 ?_; intro v2 hv2
        rcases hv2 with S | ⟨⟨K2, n32, F2⟩, SE2⟩
        · exact RFS v1 v2 (sf_c S (FX2 u38 S.1 x ex2))
        · have K20 := K2
          obtain ⟨⟨k1, k2, k3, k4, k5⟩, ⟨k6, k7, k8⟩, ⟨k9, k10, k11⟩, ⟨k12, k13, k14⟩, -⟩ := K2.1
          have B38 : BX X u38 v2.2 := bx_e Q35.1 k9 k10
          have Tv2 : ∀ cc y : Nat, ((163 ≤ cc ∧ cc ≤ 173) ∨ cc = 177) → v2.2 cc y = bT X cc y := B38.2.2.2.2.2.1
          have e8 : v2.2 180 = bB X 180 := funext (fun y => B38.2.2.2.2.2.2.1 180 y (by omega))
          have v5 : v2.2 175 e1.toNat = v1.2 175 e1.toNat := k10.2 175 _ (by omega) (by omega) (by omega)
          -- TYPE at the sign
          have C126 : Pc (qj_X0_readPlain_126 nn (u16 2 10) (u16 49 11) (u16 49 12) (u16 49 13) (u16 49 14) u38) (fun x => x.2 2 11 = 6 ∧ x.2 2 12 = bP X t) := by
            unfold qj_X0_readPlain_126
            refine pc_sv (c_tell B38.1.1.1.1 k4 tc x1) ?_; intro u9 ⟨s1, _⟩
            exact pc_imp (fs_qj_X0_readPlain_136 (by omega)) (fun x F => ⟨by rw [F.1]; exact s1.1, by rw [F.2]; exact s1.2⟩)
          have NO : (x.2 2 11 = 6 ∧ x.2 2 12 = bP X t) → Pc (qj_X13_ruled_954 nn (qg_X13_ruled nn dr) s v2.2) (fun y => SFj x.2 y.2 ∨ SOk nn X s a b p (uu + 1) bb h r x y) := fun CC => by
            unfold qj_X13_ruled_954
            refine pc_rA ?_; intro _ _ v2' e2'
            rw [Tv2 168 _ (by omega), nd.2] at e2'
            refine pc_sv (r_wrong B38.1.1.2.2.1 tc k5 e2') ?_; intro u4 w1
            exact pc_ret (.inl (sf_mk (c := 6) (pl := bP X t) (by decide) CC.1 CC.2 w1.1 w1.2))
          refine pc_rA ?_; intro _ _ v168 e168
          rw [Tv2 170 _ (by omega), ee] at e168
          rw [e168]
          refine pc_sv (r_take Tv2 k5) ?_; intro u170 q170
          rw [L1, v5] at q170
          by_cases lt2 : u16 49 11 < 2
          · have CC := C126 x (by rw [← ex2, if_pos lt2])
            have nt : u170 = 0 := by
              rcases FMV with F | F | F | F
              · have F1 := F.2.1
                rcases q170 with ⟨_, y1, y2⟩ | y
                · have := F1 y1
                  omega
                · exact y.1
              · exact absurd F.1.1 (by omega)
              · exact absurd F.1.1 (by omega)
              · exact absurd F.1.1 (by omega)
            exact pc_if (fun _ => NO CC) (fun z => absurd nt z)
          · rw [if_neg lt2] at ex2
            have yt : ¬ u170 = 0 := by
              have OKt : ix = 0 ∧ (bT X 167 e1.toNat = 25 ∨ bT X 167 e1.toNat = 32 ∨ (bT X 167 e1.toNat = 30 ∧ ¬ v1.2 175 e1.toNat = -1)) := by
                rcases FMV with F | F | F | F
                · exact absurd F.1 (by omega)
                · exact ⟨F.1.2.1, .inl F.1.2.2⟩
                · refine ⟨F.1.2.1, ?_⟩
                  have j0 : ¬ v1.2 175 e1.toNat = -1 := by
                    obtain ⟨ji, kk, -, -, ej, -⟩ := F.2.1.1
                    omega
                  rcases F.2.2 with y | y
                  · exact .inl y.1
                  · exact .inr (.inr ⟨y.1, j0⟩)
                · exact ⟨F.1.2.1, .inr (.inl F.1.2.2.1)⟩
              exact yn_1 q170 OKt
            refine pc_if (fun z => absurd z yt) (fun _ => ?_)
            rw [k6, x6]
            refine pc_sv (r_fit Y e8 k7 x7) ?_; intro u172 q172
            by_cases ft : FTS (bB X 180) (u38 49 12) (u16 49 12)
            · have CC : Pc (mx_sv (qf_X4_fits nn 12 (u38 49 12) (u16 49 12) u38) fun u43 => if ¬ u43 = 0 then (qj_X0_readPlain_136 nn (u16 49 11) (u16 49 12) (u16 49 13) (u16 49 14) u38) else (qj_X0_readPlain_126 nn (u16 2 10) (u16 49 11) (u16 49 12) (u16 49 13) (u16 49 14) u38)) (fun x => SOk nn X s a b p (uu + 1) bb h r x (1, v2.2)) := by
                refine pc_sv (c_fit Y B38 k7 x7) ?_; intro u43 q43
                refine pc_if (fun _ => ?_) (fun z => absurd (yn_1 q43 ft) z)
                unfold qj_X0_readPlain_136
                exact te_ok Y Wb Q ne yb nb nd.1 ee ee2 r1 e13 K0 SE e35.symm K20 n32 (F2 (by omega)) ku SE2 pt u1c lt2
              exact pc_if (fun _ => pc_ret (.inr (CC x ex2))) (fun z => absurd (yn_1 q172 ft) z)
            · have CC : Pc (mx_sv (qf_X4_fits nn 12 (u38 49 12) (u16 49 12) u38) fun u43 => if ¬ u43 = 0 then (qj_X0_readPlain_136 nn (u16 49 11) (u16 49 12) (u16 49 13) (u16 49 14) u38) else (qj_X0_readPlain_126 nn (u16 2 10) (u16 49 11) (u16 49 12) (u16 49 13) (u16 49 14) u38)) (fun x => x.2 2 11 = 6 ∧ x.2 2 12 = bP X t) := by
                refine pc_sv (c_fit Y B38 k7 x7) ?_; intro u43 q43
                exact pc_if (fun z => absurd (yn_0 q43 ft) z) (fun _ => C126)
              exact pc_if (fun z => absurd (yn_0 q172 ft) z) (fun _ => NO (CC x ex2))
end
end
section
/- while: the tree of 'true', the rules of it -/
section
variable {K : Nat → Int} {T : ms_M}
theorem lk_true {s : Nat} {d i l a b p q e : Int} (H : LKn d K T s i l a b p q e) : s ≤ 3 → 0 ≤ p → K p.toNat = 28 → K (p + 1).toNat = 41 → q = p + 1 ∧ i = 0 ∧ T 167 e.toNat = 21 ∧ (a ≤ e ∧ e < b) := by
  refine lk_ind (fun d s i l a b p q e => s ≤ 3 → 0 ≤ p → K p.toNat = 28 → K (p + 1).toNat = 41 → q = p + 1 ∧ i = 0 ∧ T 167 e.toNat = 21 ∧ (a ≤ e ∧ e < b)) ?_ ?_ ?_ ?_ ?_ ?_ ?_ ?_ ?_ ?_ ?_ ?_ ?_ ?_ ?_ ?_ ?_ ?_ ?_ ?_ ?_ ?_ ?_ ?_ ?_ ?_ ?_ ?_ ?_ ?_ ?_ ?_ ?_ ?_ ?_ ?_ ?_ ?_ H
  · intro d i a b p q e h0 h1
    exact fun _ h1' h2' h3' => h0.2 (by decide) h1' h2' h3'
  · intro d ix iy iz t u y a b p q e h0 h1 h2 h3 h4 h5 h6 h7 h8 h9 h10
    intro _ hp k1 k2
    have c := (h3.2 (by decide) hp k1 k2).1
    rw [← c] at k2
    omega
  · intro d i l a b p q e h0
    exact fun _ h1' h2' h3' => h0.2 (by decide) h1' h2' h3'
  · intro d ix iy l s t a b p q e h0 h1 h2 h3 h4 h5 h6
    intro _ hp k1 k2
    have c := (h3.2 (by decide) hp k1 k2).1
    rw [← c] at k2
    have y := h2.1
    rw [k2] at y
    have y2 : st_T 41 = -1 := by decide
    omega
  · intro d ix l t a b p q e h0 h1 h2 h3 h4
    intro _ hp k1 k2
    have c := (h3.2 (by decide) hp k1 k2).1
    rw [← c] at k2
    omega
  · intro d ix a b p q e h0 h1 h2 h3
    exact fun _ hp k1 k2 => by omega
  · intro d ix a b p q e h0 h1 h2 h3
    exact fun _ hp k1 k2 => absurd h1.1.1 (by omega)
  · intro d i a b p q e h0 h1
    exact fun _ h1' h2' h3' => h0.2 (by decide) h1' h2' h3'
  · intro d a b p q e h0 h1 h2
    exact fun _ hp k1 k2 => ⟨h1.2.2, rfl, by omega, h0.2⟩
  · intro d a b p q e h0 h1 h2 h3
    exact fun _ hp k1 k2 => by omega
  · intro d a b p q e h0 h1 h2 h3 h4
    exact fun _ hp k1 k2 => by omega
  · intro d i t a b p q e h0 h1
    exact fun _ hp k1 k2 => by omega
  · intro d ix t a b p q e h0 h1 h2 h3 h4 h5
    exact fun _ hp k1 k2 => by omega
  · intro d a b p q e h0 h1 h2 h3
    exact fun _ hp k1 k2 => by omega
  · intro d ix t a b p q e h0 h1 h2 h3 h4 h5
    exact fun _ hp k1 k2 => by omega
  · intro d ix t a b p q e h0 h1 h2 h3 h4
    intro _ hp k1 k2
    have c := (h3.2 (by decide) hp k1 k2).1
    rw [← c] at k2
    omega
  · intro d ix t a b p q e h0 h1 h2 h3 h4 h5
    intro _ hp k1 k2
    have c := (h3.2 (by decide) hp k1 k2).1
    rw [← c] at k2
    omega
  · intro d ix iy t u a b p q e h0 h1 h2 h3 h4 h5 h6
    intro _ hp k1 k2
    have c := (h3.2 (by decide) hp k1 k2).1
    rw [← c] at k2
    omega
  · intro d a b p q h0
    exact fun z => absurd z (by decide)
  · intro d a b p q e h0 h1
    exact fun z => absurd z (by decide)
  · intro d ix t a b p q e h0 h1 h2 h3
    exact fun z => absurd z (by decide)
  · intro d ix t a b p q e h0 h1 h2 h3 h4
    exact fun z => absurd z (by decide)
  · intro d a b p q e h0
    exact fun z => absurd z (by decide)
  · intro d ix t u bs rw a b p q e h0 h1 h2 h3 h4 h5
    exact fun z => absurd z (by decide)
  · intro d ix t y a b p q e h0 h1 h2 h3 h4 h5 h6 h7
    exact fun z => absurd z (by decide)
  · intro d ix t u y z a b p q e h0 h1 h2 h3 h4 h5 h6 h7 h8
    exact fun z => absurd z (by decide)
  · intro d ix t y a b p q e h0 h1 h2 h3 h4 h5 h6 h7 h8
    exact fun z => absurd z (by decide)
  · intro d a b p q e h0 h1 h2 h3
    exact fun z => absurd z (by decide)
  · intro d a b p q e h0 h1 h2 h3
    exact fun z => absurd z (by decide)
  · intro d ix t a b p q e h0 h1 h2 h3 h4 h5
    exact fun z => absurd z (by decide)
  · intro d ix t a b p q e h0 h1 h2 h3 h4 h5
    exact fun z => absurd z (by decide)
  · intro d ix t a b p q e h0 h1 h2 h3 h4 h5
    exact fun z => absurd z (by decide)
  · intro d t y a b p q e h0 h1 h2 h3 h4 h5 h6
    exact fun z => absurd z (by decide)
  · intro d ix t a b p q e h0 h1 h2 h3 h4 h5
    exact fun z => absurd z (by decide)
  · intro d ix iy t u y a b p q e h0 h1 h2 h3 h4 h5 h6 h7 h8 h9
    exact fun z => absurd z (by decide)
  · intro d a b p h0 h1
    exact fun z => absurd z (by decide)
  · intro d t y a b p q e h0 h1 h2 h3
    exact fun z => absurd z (by decide)
  · intro d t a b p q e h0 h1 h2 h3 h4
    exact fun z => absurd z (by decide)
end
section
variable {nn : Nat} {X : BCx} {dp i a b e s bb lb lh d : Int} {p q t : Nat} {h g u r w m v z : ms_M} {A9 : Int}
/-- the rules of 'true' as a condition -/
theorem r_true (r57 : r 160 57 = 0) (q4 : r 160 9 = 0) (k : r 167 e.toNat = 21) : Pc (qf_X13_condition nn e r) (fun v => v = up_M r 174 e.toNat 1) := by
  have W : ∀ d : Nat, Pc ((qg_X13_condition nn d).2.2.1 e r) (fun y => y = (1, up_M r 174 e.toNat 1)) := fun d => by
    refine w_one (by omega) q4 (r_nled (by omega)) (fun d => ?_) d
    have FIN : Pc (some ((1 : Int), r)) (fun u => ∀ z : ms_M, z = up_M u.2 174 e.toNat u.1 → (z 160 9 = 0 → ((u.1, z) : Int × ms_M) = (1, up_M r 174 e.toNat 1)) ∧ (¬ z 160 9 = 0 → (((0 : Int), z) : Int × ms_M) = (1, up_M r 174 e.toNat 1))) := pc_ret (fun z ez => ⟨fun _ => by rw [ez], fun y => absurd (by rw [ez, up_n (by omega)]; exact q4) y⟩)
    unfold qo_X13_rule
    refine pc_rA ?_; intro _ _ v83 e83
    refine pc_if (fun z => absurd z (by omega)) (fun _ => ?_)
    refine pc_if (fun z => by unfold qj_X13_rule_98; exact FIN) (fun z => ?_)
    exact absurd (show v83 = 21 by omega) z
  unfold qf_X13_condition
  show Pc (qo_X13_condition nn (qg_X13_condition nn 1599) e r) _
  unfold qo_X13_condition
  refine pc_sv (P := fun y => y = (1, up_M r 174 e.toNat 1)) ?_ ?_
  · show Pc (qo_X13_given nn (qg_X13_condition nn 1598) e r) _
    unfold qo_X13_given
    refine pc_sv (W 1598) ?_; intro u2 e2
    rw [e2]
    exact pc_if (fun _ => pc_ret rfl) (fun z => absurd (show ¬ (1 : Int) = 3 by decide) z)
  · intro u2 e2
    rw [e2]
    exact pc_if (fun _ => pc_ret rfl) (fun z => absurd rfl z)
/-- into a loop -/
theorem lp_in (Q : SPq X d p bb h r) (eg : g = up_M (up_M h 33 9 A9) 33 10 (h 34 7)) (hA : 0 ≤ A9 ∧ A9 ≤ h 34 1) (ev : v = up_M (up_M r 160 54 (r 160 54 + 1)) 198 (r 160 54 + 1).toNat 0) : SPq X (d + 1) p (h 33 12) g v := by
  obtain ⟨⟨B, ⟨q1, q2, q3, q4⟩, ⟨f1, f2, f3⟩, o1⟩, ⟨h3, h10, r57, h7⟩, ⟨LP, l54, br⟩, ⟨vR, nR⟩, b51, rR⟩ := Q
  have G : ∀ cc x : Nat, ¬ (cc = 33 ∧ (x = 9 ∨ x = 10)) → g cc x = h cc x := fun cc x q => by rw [eg, up_n (by omega), up_n (by omega)]
  have V : ∀ cc x : Nat, ¬ (cc = 160 ∧ x = 54) → ¬ cc = 198 → v cc x = r cc x := fun cc x c1 c2 => by rw [ev, up_n (by omega), up_n (by omega)]
  have g9 : g 33 9 = A9 := by rw [eg, up_n (by omega), up_s]
  have g10 : g 33 10 = h 34 7 := by rw [eg, up_s]
  have v54 : v 160 54 = r 160 54 + 1 := by rw [ev, up_n (by omega), up_s]
  have v98 : v 198 (r 160 54 + 1).toNat = 0 := by rw [ev, up_s]
  have sg := B.2.1.1
  have e12 := G 33 12 (by omega)
  have e1 := G 34 1 (by omega)
  have e7 := G 34 7 (by omega)
  have e8 := G 33 8 (by omega)
  have w51 := V 160 51 (by omega) (by omega)
  refine ⟨⟨bx_k B (fun cc x z => G cc x (by omega)) (fun cc x z => V cc x (by omega) (by omega)), ⟨by rw [G 2 10 (by omega)]; exact q1, q2, by rw [G 2 11 (by omega)]; exact q3, by rw [V 160 9 (by omega) (by omega)]; exact q4⟩, ⟨frc_k f1 (fun cc x z => G cc x (by omega)), by rw [e1]; exact f2, by rw [G 34 3 (by omega)]; exact f3⟩, by rw [G 49 10 (by omega)]; omega, by rw [G 49 10 (by omega)]; omega, by rw [G 49 18 (by omega)]; exact o1.2.2⟩, ⟨by rw [G 34 3 (by omega)]; exact h3, by rw [G 49 10 (by omega)]; exact h10, by rw [V 160 57 (by omega) (by omega)]; exact r57, by rw [e7]; exact h7⟩, ⟨⟨⟨by have := LP.1; omega, by omega⟩, .inr ⟨by omega, by omega, by omega, .inl ⟨by rw [v54]; exact v98, e12⟩⟩⟩, by omega, by omega⟩, ⟨by rw [e8]; exact vR, by rw [e8]; exact nR⟩, by rw [w51]; exact b51, by rw [w51, V 187 _ (by omega) (by omega), e8]; exact rR⟩
end
end
section
/- while: the breaks of the class -/
section
variable {nn : Nat} {X : BCx} {dp i a b e s bb lb lh d : Int} {p q t : Nat} {h g u r w m v z : ms_M}
/-- the places of the breaks as a list -/
theorem brl_ex {c0 c1 : Int} (c : 0 ≤ c0 ∧ c0 ≤ c1) : ∃ js : List Int, BRl h c0 c1 js ∧ ∀ j ∈ js, ∃ x : Nat, c0 ≤ (x : Int) ∧ (x : Int) < c1 ∧ j = h 44 x := by
  refine ⟨(List.range (c1 - c0).toNat).map (fun i => h 44 (c0.toNat + i)), ⟨by rw [List.length_map, List.length_range]; omega, fun i hi => ?_⟩, fun j hj => ?_⟩
  · rw [List.length_map, List.length_range] at hi
    simp [hi]
  · obtain ⟨i, hi, ej⟩ := List.mem_map.mp hj
    have hi := List.mem_range.mp hi
    exact ⟨c0.toNat + i, by omega, by omega, ej.symm⟩
/-- several aims: what stays -/
theorem chs_o {n0 : Int} (n00 : 0 ≤ n0) : ∀ (js : List Int) (g z : ms_M), FRc g → (∀ j ∈ js, n0 ≤ j) → CHs js g z → FRc z ∧ ∀ cc x : Nat, ¬ (cc = 35 ∧ n0 ≤ (x : Int)) → ¬ (40 ≤ cc ∧ cc ≤ 42) → ¬ (cc = 34 ∧ (x = 14 ∨ x = 15)) → z cc x = g cc x := by
  intro js
  induction js with
  | nil =>
    intro g z Fc _ H
    have H : z = g := H
    rw [H]
    exact ⟨Fc, fun _ _ _ _ _ => rfl⟩
  | cons j js ih =>
    intro g z Fc hj H
    obtain ⟨g1, A, H2⟩ := H
    obtain ⟨Fz, E⟩ := ih g1 z (cah_fr Fc A).1 (fun j2 h2 => hj j2 (List.mem_cons_of_mem _ h2)) H2
    obtain ⟨E1, -⟩ := cah_o Fc (.inl (hj j (List.mem_cons_self ..))) n00 A
    exact ⟨Fz, fun cc x q1 q2 q3 => (E cc x q1 q2 q3).trans (E1 cc x q1 q2 q3)⟩
theorem c_breaks {rc : tq_X0_readBlock} {l2 l3 l4 l8 : Int} : ∀ (js : List Int) (k : Nat) (l9 : Int) (h : ms_M), FRc h → (0 ≤ h 34 1 ∧ h 34 1 ≤ 1000000) → 0 ≤ h 34 7 → 0 ≤ h 34 3 → 0 ≤ l9 → h 33 12 ≤ 500 → BRl h l9 (h 33 12) js → (∀ j ∈ js, 0 ≤ j ∧ j ≤ 1000000) → Pc (qw_X0_readWhile_148 nn rc k l2 l3 l4 l8 l9 h) (fun x => ∃ u, CHs js h u ∧ x = (l8, up_M (up_M (up_M u 33 12 l4) 33 9 l2) 33 10 l3)) := by
  intro js
  induction js with
  | nil =>
    intro k l9 h Fc h1 h7 h3 h9 h5 B _
    cases k with
    | zero => exact fun _ z => nomatch z
    | succ k =>
      have l0 : ((0 : Nat) : Int) = h 33 12 - l9 := B.1
      unfold qw_X0_readWhile_148
      refine pc_if (fun _ => ?_) (fun z => absurd (show h 33 12 ≤ l9 by omega) z)
      unfold qj_X0_readWhile_187
      refine pc_xl ?_; intro a1 e1
      refine pc_xl ?_; intro a2 e2
      refine pc_xl ?_; intro a3 e3
      exact pc_ck (fun _ => pc_ret ⟨h, rfl, by rw [e3, e2, e1]⟩)
  | cons j js ih =>
    intro k l9 h Fc h1 h7 h3 h9 h5 B hj
    cases k with
    | zero => exact fun _ z => nomatch z
    | succ k =>
      have l0 : ((js.length + 1 : Nat) : Int) = h 33 12 - l9 := B.1
      have b0 : h 44 (l9.toNat + 0) = j := B.2 0 (by show 0 < js.length + 1; omega)
      have hj0 := hj j (List.mem_cons_self ..)
      unfold qw_X0_readWhile_148
      refine pc_if (fun z => absurd z (by omega)) (fun _ => ?_)
      refine pc_if (fun z => absurd z (by omega)) (fun _ => ?_)
      refine pc_rA ?_; intro _ _ v10 e10
      rw [show v10 = j from e10.trans b0]
      refine pc_sv (c_aimHere (by omega) h1 h7 h3 Fc) ?_; intro g A
      obtain ⟨E, -⟩ := cah_o (n0 := 0) Fc (.inl hj0.1) (by omega) A
      have e12 := E 33 12 (by omega) (by omega) (by omega)
      have e1 := E 34 1 (by omega) (by omega) (by omega)
      refine pc_add (by omega) ?_; intro v13 e13
      refine pc_imp (ih k v13 g (cah_fr Fc A).1 (by omega) (by rw [E 34 7 (by omega) (by omega) (by omega)]; exact h7) (by rw [E 34 3 (by omega) (by omega) (by omega)]; exact h3) (by omega) (by omega) ⟨by omega, fun i hi => ?_⟩ (fun j2 h2 => hj j2 (List.mem_cons_of_mem _ h2))) (fun x y => ?_)
      · rw [E 44 _ (by omega) (by omega) (by omega)]
        have y := B.2 (i + 1) (by show i + 1 < js.length + 1; omega)
        rw [show v13.toNat + i = l9.toNat + (i + 1) by omega, y]
        all_goals rfl
      · obtain ⟨u, C, ex⟩ := y
        exact ⟨u, ⟨g, A, C⟩, ex⟩
/-- is it while (true) -/
theorem c_iswt (Y : CXs X) (TB : TBc (bK X) (bP X) (bc X) h) (q1 : h 2 10 = (p : Int)) (pc : p < bc X) (k1 : bK X (p + 1) = 40) : Pc (qf_X9_isWhileTrue nn h) (fun u => (u = 1 ∧ bK X (p + 2) = 28 ∧ bK X (p + 3) = 41) ∨ (u = 0 ∧ ¬ (bK X (p + 2) = 28 ∧ bK X (p + 3) = 41))) := by
  have c3 := Y.1.2.1
  unfold qf_X9_isWhileTrue
  refine pc_add (by omega) ?_; intro v2 e2
  refine pc_sv (c_kindAt Y.1 TB (t := p + 1) (by omega)) ?_; intro u4 q4
  refine pc_if (fun z => absurd (show u4 = 40 by omega) z) (fun _ => ?_)
  refine pc_add (by omega) ?_; intro v6 e6
  refine pc_sv (c_kindAt Y.1 TB (t := p + 2) (by omega)) ?_; intro u8 q8
  refine pc_if (fun z => pc_ret (.inr ⟨rfl, by omega⟩)) (fun z => ?_)
  refine pc_add (by omega) ?_; intro v10 e10
  refine pc_sv (c_kindAt Y.1 TB (t := p + 3) (by omega)) ?_; intro u12 q12
  exact pc_if (fun z => pc_ret (.inr ⟨rfl, by omega⟩)) (fun z => pc_ret (.inl ⟨rfl, by omega⟩))
end
end
section
/- while: out of the loop, class and rules -/
section
variable {nn : Nat} {X : BCx} {dp i a b e s bb lb lh d A y0 hb : Int} {p q t t2 : Nat} {h g g26 gB z0 u r w m v vB h214 z : ms_M}
theorem lp_out (Q : SPq X d p bb h r) (Wb : BRw X) (ne : 0 ≤ a ∧ a ≤ s ∧ s < b) (yb : s < y0 ∧ y0 ≤ b) (KL : SKl X (s + 1) y0 p t2 bb h r g v) (g7 : g 34 7 = h 34 7) (g12 : g 33 12 = h 33 12) (v50 : v 160 50 = r 160 50) (eA : A = h 34 1) (e26 : g26 = up_M (up_M g 33 9 A) 33 10 (g 34 7)) (e214 : h214 = up_M (up_M v 160 54 (v 160 54 + 1)) 198 (v 160 54 + 1).toNat 0) (SK : SKl X y0 b t2 q (g 33 12) g26 h214 gB vB) (pq : p < t2) (gl : g 34 1 + 20 * (p : Int) + 20 ≤ h 34 1 + 20 * (t2 : Int)) (EC : ∀ cc x : Nat, ¬ (cc = 34 ∧ (x = 1 ∨ x = 3 ∨ x = 7 ∨ x = 14 ∨ x = 15)) → ¬ (cc = 35 ∧ A ≤ (x : Int)) → ¬ (40 ≤ cc ∧ cc ≤ 42) → z0 cc x = gB cc x) (z7 : z0 34 7 = g26 34 7) (z1 : gB 34 1 ≤ z0 34 1 ∧ z0 34 1 ≤ gB 34 1 + 3) (z3 : z0 34 3 = 0) (Fz : FRc z0) (ez : z = up_M (up_M (up_M z0 33 12 (h 33 12)) 33 9 (h 33 9)) 33 10 (h 33 10)) (ew : w = up_M (up_M (up_M vB 160 50 (r 160 50)) 176 s.toNat hb) 160 54 (vB 160 54 - 1)) : SKk X a b p q bb h r z w := by
  obtain ⟨⟨B, -, -, -⟩, -, ⟨LP, l54, br⟩, -⟩ := Q
  obtain ⟨⟨k1, k2, k3, k4, k5⟩, ⟨k6, k7, k8⟩, ⟨k9, k10, k11, k12, k13⟩, k14, k15, k16⟩ := KL
  obtain ⟨⟨m1, m2, m3, m4, m5⟩, ⟨m6, m7, m8⟩, ⟨m9, m10, m11, m12, m13⟩, m14, m15, m16⟩ := SK
  have bm := brw_l Wb (p := p) (q := q) (by omega) m2
  have s1 := B.2.1.1
  obtain ⟨b1, ⟨b2, b3, b4, b5⟩, b6, b7, b8, b9⟩ := k7
  obtain ⟨a1, ⟨a2, a3, a4, a5⟩, a6, a7, a8, a9⟩ := m7
  obtain ⟨c1, c2, ⟨c3, c4, c5⟩, c6, c7⟩ := k8
  obtain ⟨d1, d2, ⟨d3, d4, d5⟩, d6, d7⟩ := m8
  have G : ∀ cc x : Nat, ¬ (cc = 33 ∧ (x = 9 ∨ x = 10)) → g26 cc x = g cc x := fun cc x q => by rw [e26, up_n (by omega), up_n (by omega)]
  have V : ∀ cc x : Nat, ¬ (cc = 160 ∧ x = 54) → ¬ (cc = 198 ∧ x = (v 160 54 + 1).toNat) → h214 cc x = v cc x := fun cc x q1 q2 => by rw [e214, up_n q2, up_n q1]
  have v54 : h214 160 54 = v 160 54 + 1 := by rw [e214, up_n (by omega), up_s]
  have ZZ : ∀ cc x : Nat, ¬ (cc = 33 ∧ (x = 9 ∨ x = 10 ∨ x = 12)) → z cc x = z0 cc x := fun cc x q => by rw [ez, up_n (by omega), up_n (by omega), up_n (by omega)]
  have W : ∀ cc x : Nat, ¬ (cc = 160 ∧ (x = 50 ∨ x = 54)) → ¬ (cc = 176 ∧ x = s.toNat) → w cc x = vB cc x := fun cc x q1 q2 => by rw [ew, up_n (by omega), up_n (by omega), up_n (by omega)]
  have w50 : w 160 50 = r 160 50 := by rw [ew, up_n (by omega), up_n (by omega), up_s]
  have w54 : w 160 54 = v 160 54 := by rw [ew, up_s]; omega
  have z9 : z 33 9 = h 33 9 := by rw [ez, up_n (by omega), up_s]
  have z10 : z 33 10 = h 33 10 := by rw [ez, up_s]
  have z12 : z 33 12 = h 33 12 := by rw [ez, up_n (by omega), up_n (by omega), up_s]
  have G1 := G 34 1 (by omega)
  have G7 := G 34 7 (by omega)
  have G12 := G 33 12 (by omega)
  have V50 := V 160 50 (by omega) (by omega)
  have Z1 := ZZ 34 1 (by omega)
  have Z7 := ZZ 34 7 (by omega)
  have BZ : BX X z w := by
    have B1 : BX X (up_M gB 34 7 (h 34 7)) (up_M vB 160 50 (r 160 50)) := bx_sight m6 rfl rfl (by omega) (by omega) (by omega)
    refine bx_k B1 (fun cc x q => ?_) (fun cc x q => ?_)
    · by_cases y : cc = 34 ∧ x = 7
      · rw [y.1, y.2, up_s]; omega
      · rw [up_n y, ZZ cc x (by omega)]; exact EC cc x (by omega) (by omega) (by omega)
    · rw [ew, up_n (by omega), up_n (by omega)]
  refine ⟨⟨by rw [ZZ 2 10 (by omega), EC 2 10 (by omega) (by omega) (by omega)]; exact m1, m2, by omega, by rw [ZZ 2 11 (by omega), EC 2 11 (by omega) (by omega) (by omega)]; exact m4, by rw [W 160 9 (by omega) (by omega)]; exact m5⟩, ⟨BZ, ?_, ?_⟩, ⟨frc_k Fz (fun cc x q => ZZ cc x (by omega)), by omega, by rw [ZZ 34 3 (by omega)]; exact z3, by rw [ZZ 49 10 (by omega), EC 49 10 (by omega) (by omega) (by omega)]; exact m12, by rw [ZZ 49 18 (by omega), EC 49 18 (by omega) (by omega) (by omega)]; exact m13⟩, by omega, by omega, ?_⟩
  · refine ⟨fun cc x q => ?_, ⟨z9, z10, by omega, by omega⟩, fun x hx => ?_, ⟨fun x hx => ?_, fun x q1 q2 => absurd q2 (by omega)⟩, by omega, fun x hx => ?_⟩
    · rw [ZZ cc x (by omega), EC cc x (by omega) (by omega) (by omega), a1 cc x q, G cc x (by omega)]; exact b1 cc x q
    · have y1 := a6 x (by omega)
      have y2 := b6 x hx
      exact ⟨by rw [ZZ 37 x (by omega), EC 37 x (by omega) (by omega) (by omega), y1.1, G 37 x (by omega)]; exact y2.1, by rw [ZZ 38 x (by omega), EC 38 x (by omega) (by omega) (by omega), y1.2, G 38 x (by omega)]; exact y2.2⟩
    · rw [ZZ 44 x (by omega), EC 44 x (by omega) (by omega) (by omega), a7.1 x (by omega), G 44 x (by omega)]; exact b7.1 x hx
    · rw [ZZ 35 x (by omega), EC 35 x (by omega) (by omega) (by omega), a9 x (by omega), G 35 x (by omega)]; exact b9 x hx
  · refine ⟨fun cc x q => ?_, fun cc x q1 q2 q3 => ?_, ⟨by omega, by rw [W 160 57 (by omega) (by omega), d4, V 160 57 (by omega) (by omega)]; exact c4, by omega⟩, fun x hx => ?_, fun x hx => ?_⟩
    · rw [W cc x (by omega) (by omega), d1 cc x q, V cc x (by omega) (by omega)]; exact c1 cc x q
    · rw [W cc x (by omega) (by omega), d2 cc x q1 q2 (by omega), V cc x (by omega) (by omega)]; exact c2 cc x q1 q2 (by omega)
    · have y1 := d6 x (by omega)
      have y2 := c6 x hx
      exact ⟨by rw [W 196 x (by omega) (by omega), y1.1, V 196 x (by omega) (by omega)]; exact y2.1, by rw [W 197 x (by omega) (by omega), y1.2, V 197 x (by omega) (by omega)]; exact y2.2⟩
    · rw [W 198 x (by omega) (by omega), d7 x (by omega), V 198 x (by omega) (by omega)]; exact c7 x hx
  · refine lpx_k k16 (by omega) (by omega) (by omega) (by omega) (by omega) w54 ?_
    rw [W 198 _ (by omega) (by omega), d7 _ (by omega), V 198 _ (by omega) (by omega)]
end
end
section
/- while: the class behind the S of a loop -/
/-- the class behind the S: back, the condition's aim, the breaks' aims -/
def CWt (A l4 l5 l7 en4 : Int) (h6 gC gD z0 : ms_M) (js : List Int) : Prop := ((en4 = 0 ∧ gC = h6) ∨ (¬ en4 = 0 ∧ CJb A (h6 34 7) h6 gC)) ∧ ((¬ l5 = 0 ∧ gD = gC) ∨ (l5 = 0 ∧ CAH l7 gC gD)) ∧ (BRl gD l4 (gD 33 12) js ∧ CHs js gD z0)
section
variable {nn : Nat} {X : BCx} {dp i a b e s bb lb lh d A y0 hb l1 l2 l3 l4 l5 l6 l7 en4 : Int} {p q t t2 : Nat} {h h6 g u r w m v z : ms_M}
theorem c_whT {rc : tq_X0_readBlock} (F6 : FRc h6) (b1 : 0 ≤ A ∧ A ≤ h6 34 1 ∧ h6 34 1 ≤ 900000) (b3 : h6 34 3 = 0) (b7 : 0 ≤ h6 34 7) (b4 : 0 ≤ l4 ∧ l4 ≤ h6 33 12 ∧ h6 33 12 ≤ 500) (bk : ∀ x : Nat, l4 ≤ (x : Int) → (x : Int) < h6 33 12 → A ≤ h6 44 x ∧ h6 44 x + 3 ≤ h6 34 1) (bl : l5 = 0 → A ≤ l7 ∧ l7 ≤ 1000000) : Pc (if en4 = 0 then (qj_X0_readWhile_109 nn rc l2 l3 l4 l5 l7 h6) else (mx_sv (qf_X1_jumpBack nn A (h6 34 7) h6) fun u33 => qj_X0_readWhile_109 nn rc l2 l3 l4 l5 l7 u33)) (fun x => ∃ (gC gD z0 : ms_M) (js : List Int) (en : Int), CWt A l4 l5 l7 en4 h6 gC gD z0 js ∧ x = (en, up_M (up_M (up_M z0 33 12 l4) 33 9 l2) 33 10 l3) ∧ ((en = 0 ∧ ¬ l5 = 0 ∧ h6 33 12 = l4) ∨ (en = 1 ∧ (l5 = 0 ∨ ¬ h6 33 12 = l4))) ∧ (∀ cc x : Nat, ¬ (cc = 34 ∧ (x = 1 ∨ x = 3 ∨ x = 14 ∨ x = 15)) → ¬ (cc = 35 ∧ A ≤ (x : Int)) → ¬ (40 ≤ cc ∧ cc ≤ 42) → z0 cc x = h6 cc x) ∧ (h6 34 1 ≤ z0 34 1 ∧ z0 34 1 ≤ h6 34 1 + 3) ∧ z0 34 3 = 0 ∧ FRc z0) := by
  -- behind the jump back
  have T : ∀ gC : ms_M, ((en4 = 0 ∧ gC = h6) ∨ (¬ en4 = 0 ∧ CJb A (h6 34 7) h6 gC)) → FRc gC → (∀ cc x : Nat, ¬ (cc = 34 ∧ (x = 1 ∨ x = 3 ∨ x = 14 ∨ x = 15)) → ¬ (cc = 35 ∧ A ≤ (x : Int)) → ¬ (40 ≤ cc ∧ cc ≤ 42) → gC cc x = h6 cc x) → (h6 34 1 ≤ gC 34 1 ∧ gC 34 1 ≤ h6 34 1 + 3) → gC 34 3 = 0 → Pc (qj_X0_readWhile_109 nn rc l2 l3 l4 l5 l7 gC) (fun x => ∃ (gC gD z0 : ms_M) (js : List Int) (en : Int), CWt A l4 l5 l7 en4 h6 gC gD z0 js ∧ x = (en, up_M (up_M (up_M z0 33 12 l4) 33 9 l2) 33 10 l3) ∧ ((en = 0 ∧ ¬ l5 = 0 ∧ h6 33 12 = l4) ∨ (en = 1 ∧ (l5 = 0 ∨ ¬ h6 33 12 = l4))) ∧ (∀ cc x : Nat, ¬ (cc = 34 ∧ (x = 1 ∨ x = 3 ∨ x = 14 ∨ x = 15)) → ¬ (cc = 35 ∧ A ≤ (x : Int)) → ¬ (40 ≤ cc ∧ cc ≤ 42) → z0 cc x = h6 cc x) ∧ (h6 34 1 ≤ z0 34 1 ∧ z0 34 1 ≤ h6 34 1 + 3) ∧ z0 34 3 = 0 ∧ FRc z0) := fun gC hC FC EC c1 c3 => by
    have c12 := EC 33 12 (by omega) (by omega) (by omega)
    have c7 := EC 34 7 (by omega) (by omega) (by omega)
    -- the breaks
    have T148 : ∀ (gD : ms_M) (en : Int), ((¬ l5 = 0 ∧ gD = gC) ∨ (l5 = 0 ∧ CAH l7 gC gD)) → FRc gD → (∀ cc x : Nat, ¬ (cc = 34 ∧ (x = 14 ∨ x = 15)) → ¬ (cc = 35 ∧ A ≤ (x : Int)) → ¬ (40 ≤ cc ∧ cc ≤ 42) → gD cc x = gC cc x) → ((en = 0 ∧ ¬ l5 = 0 ∧ h6 33 12 = l4) ∨ (en = 1 ∧ (l5 = 0 ∨ ¬ h6 33 12 = l4))) → Pc (qw_X0_readWhile_148 nn rc nn l2 l3 l4 en l4 gD) (fun x => ∃ (gC gD z0 : ms_M) (js : List Int) (en : Int), CWt A l4 l5 l7 en4 h6 gC gD z0 js ∧ x = (en, up_M (up_M (up_M z0 33 12 l4) 33 9 l2) 33 10 l3) ∧ ((en = 0 ∧ ¬ l5 = 0 ∧ h6 33 12 = l4) ∨ (en = 1 ∧ (l5 = 0 ∨ ¬ h6 33 12 = l4))) ∧ (∀ cc x : Nat, ¬ (cc = 34 ∧ (x = 1 ∨ x = 3 ∨ x = 14 ∨ x = 15)) → ¬ (cc = 35 ∧ A ≤ (x : Int)) → ¬ (40 ≤ cc ∧ cc ≤ 42) → z0 cc x = h6 cc x) ∧ (h6 34 1 ≤ z0 34 1 ∧ z0 34 1 ≤ h6 34 1 + 3) ∧ z0 34 3 = 0 ∧ FRc z0) := fun gD en hD FD ED hen => by
      have d12 := ED 33 12 (by omega) (by omega) (by omega)
      have d1 := ED 34 1 (by omega) (by omega) (by omega)
      have d3 := ED 34 3 (by omega) (by omega) (by omega)
      have d7 := ED 34 7 (by omega) (by omega) (by omega)
      obtain ⟨js, BJ, hj⟩ := brl_ex (h := gD) (c0 := l4) (c1 := gD 33 12) (by omega)
      have hj2 : ∀ j ∈ js, A ≤ j ∧ j + 3 ≤ h6 34 1 := fun j hm => by
        obtain ⟨x, x1, x2, ej⟩ := hj j hm
        rw [ej, ED 44 x (by omega) (by omega) (by omega), EC 44 x (by omega) (by omega) (by omega)]
        exact bk x x1 (by omega)
      refine pc_imp (c_breaks (l2 := l2) (l3 := l3) (l4 := l4) (l8 := en) js nn l4 gD FD (by omega) (by omega) (by omega) b4.1 (by omega) BJ (fun j hm => by have := hj2 j hm; omega)) (fun x y => ?_)
      obtain ⟨z0, CH, ex⟩ := y
      obtain ⟨Fz, EZ⟩ := chs_o b1.1 js gD z0 FD (fun j hm => (hj2 j hm).1) CH
      have y1 := EZ 34 1 (by omega) (by omega) (by omega)
      exact ⟨gC, gD, z0, js, en, ⟨hC, hD, BJ, CH⟩, ex, hen, fun cc x q1 q2 q3 => by rw [EZ cc x q2 q3 (by omega), ED cc x (by omega) q2 q3]; exact EC cc x q1 q2 q3, by omega, by rw [EZ 34 3 (by omega) (by omega) (by omega)]; omega, Fz⟩
    have T128 : ∀ en : Int, ((en = 0 ∧ ¬ l5 = 0 ∧ h6 33 12 = l4) ∨ (en = 1 ∧ (l5 = 0 ∨ ¬ h6 33 12 = l4))) → Pc (qj_X0_readWhile_128 nn rc l2 l3 l4 l5 l7 en gC) (fun x => ∃ (gC gD z0 : ms_M) (js : List Int) (en : Int), CWt A l4 l5 l7 en4 h6 gC gD z0 js ∧ x = (en, up_M (up_M (up_M z0 33 12 l4) 33 9 l2) 33 10 l3) ∧ ((en = 0 ∧ ¬ l5 = 0 ∧ h6 33 12 = l4) ∨ (en = 1 ∧ (l5 = 0 ∨ ¬ h6 33 12 = l4))) ∧ (∀ cc x : Nat, ¬ (cc = 34 ∧ (x = 1 ∨ x = 3 ∨ x = 14 ∨ x = 15)) → ¬ (cc = 35 ∧ A ≤ (x : Int)) → ¬ (40 ≤ cc ∧ cc ≤ 42) → z0 cc x = h6 cc x) ∧ (h6 34 1 ≤ z0 34 1 ∧ z0 34 1 ≤ h6 34 1 + 3) ∧ z0 34 3 = 0 ∧ FRc z0) := fun en hen => by
      unfold qj_X0_readWhile_128
      refine pc_if (fun z => T148 gC en (.inl ⟨z, rfl⟩) FC (fun _ _ _ _ _ => rfl) hen) (fun z => ?_)
      have l50 : l5 = 0 := Classical.byContradiction z
      have bl2 := bl l50
      refine pc_sv (c_aimHere (by omega) (by omega) (by omega) (by omega) FC) ?_; intro gD CA
      obtain ⟨E, -⟩ := cah_o FC (.inl bl2.1) b1.1 CA
      exact T148 gD en (.inr ⟨l50, CA⟩) (cah_fr FC CA).1 (fun cc x q1 q2 q3 => E cc x q2 q3 q1) hen
    unfold qj_X0_readWhile_109 qj_X0_readWhile_123
    refine pc_if (fun z => T128 1 (.inr ⟨rfl, .inl z⟩)) (fun z => ?_)
    exact pc_if (fun y => T128 0 (.inl ⟨rfl, z, by omega⟩)) (fun y => T128 1 (.inr ⟨rfl, .inr (by omega)⟩))
  refine pc_if (fun z => T h6 (.inl ⟨z, rfl⟩) F6 (fun _ _ _ _ _ => rfl) (by omega) b3) (fun z => ?_)
  refine pc_sv (c_jback (by omega) (by omega) (by omega) b7 F6) ?_; intro gC J
  obtain ⟨FC, j1, j3, EJ, -⟩ := cjb_f F6 (by omega) J
  exact T gC (.inr ⟨z, J⟩) FC (fun cc x q1 q2 q3 => EJ cc x (by omega) (by omega) q3) (by omega) (by rw [j3 (by omega)]; exact b3)
end
end
section
/- while: class and rules, whole -/
/-- the condition of a while: none, or one with its jump -/
def WCn (nn : Nat) (X : BCx) (s e1 y0 ix : Int) (p t : Nat) (l7 : Int) (h r g v : ms_M) : Prop := (bT X 175 s.toNat = 1 ∧ g = up_M h 2 10 ((t + 1 : Nat) : Int) ∧ v = up_M r 174 e1.toNat 1) ∨ (bT X 175 s.toNat = 0 ∧ ∃ u, (EOz nn X ix (s + 1) y0 (p + 2) t e1 (up_M h 2 10 ((p + 2 : Nat) : Int)) r u (1, v) ∧ u 49 12 = 302 ∧ FM01 nn X ix (s + 1) y0 (p + 2) t e1 (up_M h 2 10 ((p + 2 : Nat) : Int)) u v) ∧ SEq h r u v ∧ l7 = u 34 1 ∧ CJu 153 1 (up_M u 2 10 ((t + 1 : Nat) : Int)) g)
/-- all of a while that the making wants -/
def WHr (nn : Nat) (X : BCx) (s e1 e2 y0 b ix : Int) (p t q : Nat) (bb en : Int) (h r z w : ms_M) : Prop := ∃ (g v g26 h214 h6 gC gD z0 : ms_M) (x4 y4 : Int × ms_M) (l5 l7 hb : Int) (js : List Int), WCn nn X s e1 y0 ix p t l7 h r g v ∧ (SKl X (s + 1) y0 p (t + 1) bb h r g v ∧ g 34 7 = h 34 7 ∧ g 33 12 = h 33 12 ∧ v 160 50 = r 160 50 ∧ g 34 1 + 20 * (p : Int) + 20 ≤ h 34 1 + 20 * ((t + 1 : Nat) : Int)) ∧ (g26 = up_M (up_M g 33 9 (h 34 1)) 33 10 (g 34 7) ∧ h214 = up_M (up_M v 160 54 (v 160 54 + 1)) 198 (v 160 54 + 1).toNat 0) ∧ SOk nn X e2 y0 b (t + 1) q (g 33 12) g26 h214 x4 y4 ∧ h6 = up_M x4.2 34 7 (g26 34 7) ∧ ((l5 = 0 ∧ bT X 175 s.toNat = 0) ∨ (l5 = 1 ∧ bT X 175 s.toNat = 1)) ∧ CWt (h 34 1) (h 33 12) l5 l7 x4.1 h6 gC gD z0 js ∧ (z = up_M (up_M (up_M z0 33 12 (h 33 12)) 33 9 (h 33 9)) 33 10 (h 33 10) ∧ w = up_M (up_M (up_M y4.2 160 50 (r 160 50)) 176 s.toNat hb) 160 54 (y4.2 160 54 - 1) ∧ w 175 s.toNat = bT X 175 s.toNat) ∧ ((hb = 0 ∧ x4.2 33 12 = g 33 12) ∨ (hb = 1 ∧ ¬ x4.2 33 12 = g 33 12)) ∧ ((en = 0 ∧ ¬ l5 = 0 ∧ hb = 0) ∨ (en = 1 ∧ (l5 = 0 ∨ hb = 1)))
section
variable {nn : Nat} {X : BCx} {dp i a b a1 b1 a2 b2 e e1 e2 s bb lb lh d o en k ix y0 : Int} {p q t uu : Nat} {h g u r w m z : ms_M}
theorem tw_cr (Y : CXs X) (Wb : BRw X) (ne : 0 ≤ a ∧ a ≤ s ∧ s < b) (yb : s < y0 ∧ y0 ≤ b) (nb : b ≤ 8999) (hd : 0 ≤ d ∧ d + 1 ≤ 40) (nd : bT X 167 s.toNat = 4) (kk : bK X p = 31 ∧ bK X (p + 1) = 40) (ee1 : bT X 170 s.toNat = e1) (ee2 : bT X 171 s.toNat = e2) (wt : (bT X 175 s.toNat = 1 ∧ bK X (p + 2) = 28 ∧ bK X (p + 3) = 41 ∧ t = p + 3 ∧ bT X 167 e1.toNat = 21) ∨ (bT X 175 s.toNat = 0 ∧ ¬ (bK X (p + 2) = 28 ∧ bK X (p + 3) = 41))) (rg : s + 1 ≤ e1 ∧ e1 < y0) (H : E0 nn X (d + 1) ix (s + 1) y0 (p + 2) t e1) (bg : bT X 169 e1.toNat = ((p + 2 : Nat) : Int)) (kt : bK X t = 41) (H6 : S6 nn X (d + 1) y0 b (t + 1) q e2) (pt : p + 2 < t) (HM : ∀ (h r z w : ms_M) (bb en : Int), SPq X d p bb h r → WHr nn X s e1 e2 y0 b ix p t q bb en h r z w → SKk X a b p q bb h r z w → MGS X (fun d m => (qg_X13_make nn d).1 s m) a b p q h r z w en) : S6 nn X d a b p q s := by
  intro dc dr h r bb Q U
  have Q0 := Q
  obtain ⟨Qe, ⟨h3, h10, r57, h7⟩, ⟨LP, l54, br⟩, -⟩ := Q0
  have Qe0 := Qe
  obtain ⟨B, ⟨q1, q2, q3, q4⟩, ⟨f1, f2, f3⟩, o1⟩ := Qe0
  have T : ∀ cc y : Nat, ((163 ≤ cc ∧ cc ≤ 173) ∨ cc = 177) → r cc y = bT X cc y := B.2.2.2.2.2.1
  have c3 := Y.1.2.1
  have tc : t < bc X := tb_lt Y.1 (by omega)
  have t1c : t + 1 < bc X := jp_lt Y.1 tc (by omega)
  have us := U s.toNat (by omega) (by omega)
  have sg := B.2.1.1
  cases dc with
  | zero => exact fun _ z => nomatch z
  | succ dc =>
    refine sjc_31 Y B.1.1.1.1 q1 q2 q3 (by omega) kk.1 ?_
    refine pc_add (by omega) ?_; intro v39 e39
    rw [e39]
    refine pc_sv (P := fun x => Pc ((qg_X13_ruled nn dr) s r) (fun y => SFj x.2 y.2 ∨ SOk nn X s a b p q bb h r x y)) ?_ (fun x Hx => pc_ck (fun _ => pc_ret Hx))
    cases dc with
    | zero => exact fun _ z => nomatch z
    | succ dc =>
      show Pc (qo_X0_readWhile nn (qg_X0_readBlock nn dc) (d + 1) h) _
      have G := fsg_X0_readBlock nn dc
      -- behind the condition, both sides
      have BODY : ∀ (l5 l7 : Int) (g v : ms_M) (dr2 : Nat), WCn nn X s e1 y0 ix p t l7 h r g v → ((l5 = 0 ∧ bT X 175 s.toNat = 0) ∨ (l5 = 1 ∧ bT X 175 s.toNat = 1)) → SKl X (s + 1) y0 p (t + 1) bb h r g v → g 34 7 = h 34 7 → g 33 12 = h 33 12 → v 160 50 = r 160 50 → g 34 1 + 20 * (p : Int) + 20 ≤ h 34 1 + 20 * ((t + 1 : Nat) : Int) → (l5 = 0 → h 34 1 ≤ l7 ∧ l7 ≤ 1000000) → (∀ x : Nat, y0 ≤ (x : Int) → (x : Int) < b → v 175 x = r 175 x ∧ v 176 x = r 176 x) → Pc (qj_X0_readWhile_68 nn (qg_X0_readBlock nn dc) (d + 1) (h 33 9) (h 33 10) (h 33 12) l5 (h 34 1) l7 g) (fun x => Pc (xl (oq_add (v 160 54) 1) fun v210 => xl (up_M v 160 54 v210) fun h211 => wr_Z 3000 198 (h211 160 54) 0 h211 fun h214 => rd_A 9000 171 s h214 fun v216 => mx_sv ((qg_X13_ruled nn dr2) v216 h214) fun u218 => qj_X13_ruled_377 nn (qg_X13_ruled nn dr2) s (r 160 50) u218.2) (fun y => SFj x.2 y.2 ∨ SOk nn X s a b p q bb h r x y)) := fun l5 l7 g v dr2 CN hl5 KL g7 g12 v50 gl bl UV => by
        have SPg := spq_n Q KL
        have v54 : v 160 54 = r 160 54 := KL.2.1.2.2.2.2.1.1
        have Gr : FSrG_X13_ruled (qg_X13_ruled nn dr2) := ftg_X13_ruled nn dr2
        have Tv : ∀ cc y : Nat, ((163 ≤ cc ∧ cc ≤ 173) ∨ cc = 177) → v cc y = bT X cc y := KL.2.1.1.2.2.2.2.2.1
        unfold qj_X0_readWhile_68
        refine pc_xl ?_; intro h23 e23
        refine pc_xl ?_; intro h26 e26
        have e26' : h26 = up_M (up_M g 33 9 (h 34 1)) 33 10 (g 34 7) := by rw [e26, e23, up_n (by omega)]
        have gh : h 34 1 ≤ g 34 1 := KL.2.1.2.1.2.2.2.2.1
        intro x ex
        refine pc_add (by omega) ?_; intro v210 e210
        refine pc_xl ?_; intro h211 e211
        have l211 : h211 160 54 = v 160 54 + 1 := by rw [e211, up_s]; omega
        rw [l211]
        refine pc_wZ ?_; intro _ _ h214 e214
        rw [e211, e210] at e214
        have SPb := lp_in SPg e26' ⟨f2.1, gh⟩ e214
        have V : ∀ cc x : Nat, ¬ (cc = 160 ∧ x = 54) → ¬ cc = 198 → h214 cc x = v cc x := fun cc x q1 q2 => by rw [e214, up_n (by omega), up_n (by omega)]
        refine pc_rA ?_; intro _ _ v216 e216
        rw [V 171 _ (by omega) (by omega), Tv 171 _ (by omega), ee2] at e216
        rw [e216]
        have Ub : UNr X y0 b h214 := fun x c1 c2 => by
          have y1 := UV x c1 c2
          have y2 := U x (by omega) c2
          exact ⟨by rw [V 175 x (by omega) (by omega), y1.1]; exact y2.1, by rw [V 176 x (by omega) (by omega), y1.2]; exact y2.2⟩
        cases dc with
        | zero => exact absurd ex (fun z => nomatch z)
        | succ dc =>
          have C1 : Pc (mx_sv ((qg_X0_readBlock nn (dc + 1)).2.1 (d + 1) h26) fun u28 => if u28.1 = 0 then (qj_X0_readWhile_109 nn (qg_X0_readBlock nn (dc + 1)) (h 33 9) (h 33 10) (h 33 12) l5 l7 u28.2) else (mx_sv (qf_X1_jumpBack nn (h 34 1) (u28.2 34 7) u28.2) fun u33 => qj_X0_readWhile_109 nn (qg_X0_readBlock nn (dc + 1)) (h 33 9) (h 33 10) (h 33 12) l5 l7 u33)) (fun x => ∃ (x4 : Int × ms_M) (h6 : ms_M), (qg_X0_readBlock nn dc).2.2.1 (d + 1) h26 = some x4 ∧ h6 = up_M x4.2 34 7 (h26 34 7) ∧ (if x4.1 = 0 then (qj_X0_readWhile_109 nn (qg_X0_readBlock nn (dc + 1)) (h 33 9) (h 33 10) (h 33 12) l5 l7 h6) else (mx_sv (qf_X1_jumpBack nn (h 34 1) (h6 34 7) h6) fun u33 => qj_X0_readWhile_109 nn (qg_X0_readBlock nn (dc + 1)) (h 33 9) (h 33 10) (h 33 12) l5 l7 u33)) = some x) := by
            refine pc_sv (P := fun u28 => ∃ x4 : Int × ms_M, (qg_X0_readBlock nn dc).2.2.1 (d + 1) h26 = some x4 ∧ u28 = (x4.1, up_M x4.2 34 7 (h26 34 7))) ?_ ?_
            · show Pc (qo_X0_readPart nn (qg_X0_readBlock nn dc) (d + 1) h26) _
              unfold qo_X0_readPart
              refine pc_se ?_; intro u4 e4
              refine pc_xl ?_; intro h6 e6
              exact pc_ck (fun _ => pc_ret ⟨u4, e4, by rw [e6]⟩)
            · intro u28 ⟨x4, e4, e28⟩
              rw [e28]
              exact fun x ex => ⟨x4, _, e4, rfl, ex⟩
          obtain ⟨x4, h6, e4, e6, ex2⟩ := C1 x ex
          refine pc_sv (H6 dc dr2 h26 h214 (g 33 12) SPb Ub x4 e4) ?_; intro y4 hy
          rcases hy with S | SO
          · have F6 : FSc x4.2 h6 := ⟨by rw [e6, up_n (by omega)], by rw [e6, up_n (by omega)]⟩
            have FT : Pc (if x4.1 = 0 then (qj_X0_readWhile_109 nn (qg_X0_readBlock nn (dc + 1)) (h 33 9) (h 33 10) (h 33 12) l5 l7 h6) else (mx_sv (qf_X1_jumpBack nn (h 34 1) (h6 34 7) h6) fun u33 => qj_X0_readWhile_109 nn (qg_X0_readBlock nn (dc + 1)) (h 33 9) (h 33 10) (h 33 12) l5 l7 u33)) (fun x => FSc h6 x.2) := by
              refine pc_if (fun _ => fs_qj_X0_readWhile_109 G (fs_n S.1 F6)) (fun _ => ?_)
              refine pc_sv (fs_qf_X1_jumpBack (fs_n S.1 F6)) ?_; intro u33 F33
              exact pc_imp (fs_qj_X0_readWhile_109 G (fs_n S.1 (fs_t F6 F33))) (fun _ q => fs_t F33 q)
            have S2 := sf_c S (fs_t F6 (FT x ex2))
            exact pc_imp (ft_qj_X13_ruled_377 Gr (sf_r S2)) (fun y F => .inl ⟨S2.1, by rw [F.1]; exact S2.2.1, by rw [F.2]; exact S2.2.2⟩)
          · obtain ⟨⟨en1, en2⟩, SK, MG⟩ := SO
            have SO : SOk nn X e2 y0 b (t + 1) q (g 33 12) h26 h214 x4 y4 := ⟨⟨en1, en2⟩, SK, MG⟩
            have E6 : ∀ cc x : Nat, ¬ (cc = 34 ∧ x = 7) → h6 cc x = x4.2 cc x := fun cc x q => by rw [e6, up_n q]
            have G26 : ∀ cc x : Nat, ¬ (cc = 33 ∧ (x = 9 ∨ x = 10)) → h26 cc x = g cc x := fun cc x q => by rw [e26', up_n (by omega), up_n (by omega)]
            have z7 : h6 34 7 = h26 34 7 := by rw [e6, up_s]
            have w1 := G26 34 1 (by omega)
            have w7 := G26 34 7 (by omega)
            have w12 := G26 33 12 (by omega)
            have C7 := SK.2.1.2.1
            have i1 := E6 34 1 (by omega)
            have i12 := E6 33 12 (by omega)
            have kl1 := SK.2.2.1.2.1
            have bq := Wb.2.2 q SK.1.2.1
            have bp1 := KL.2.2.2.2.1
            have bp2 := SK.2.2.2.2.1
            have c8 := C7.2.2.2.2.1
            have c12 := C7.2.1.2.2.1
            have qc := SK.1.2.1
            have LPb := LP.1
            have CW := c_whT (nn := nn) (A := h 34 1) (l2 := h 33 9) (l3 := h 33 10) (l4 := h 33 12) (l5 := l5) (l7 := l7) (en4 := x4.1) (rc := qg_X0_readBlock nn (dc + 1)) (h6 := h6) (frc_k SK.2.2.1.1 (fun cc x q => E6 cc x (by omega))) (by omega) (by rw [E6 34 3 (by omega)]; exact SK.2.2.1.2.2.1) (by omega) (by omega) (fun x c1 c2 => by
              have y := C7.2.2.2.1.2 x (by omega) (by omega)
              rw [E6 44 x (by omega)]; omega) bl x ex2
            obtain ⟨gC, gD, z0, js, en, CT, ex3, hen, EC, z1, z3, Fz⟩ := CW
            -- the rules
            have LPe := SK.2.2.2.2.2.2
            have vB54 : y4.2 160 54 = v 160 54 + 1 := by rw [SK.2.1.2.2.2.2.1.1, e214, up_n (by omega), up_s]
            have s5 : y4.2 175 s.toNat = bT X 175 s.toNat := by
              rw [SK.2.1.2.2.2.1 175 _ (by omega) (by omega) (by omega), V 175 _ (by omega) (by omega), KL.2.1.2.2.2.1 175 _ (by omega) (by omega) (by omega)]; exact us.1
            have hbk : (y4.2 198 (y4.2 160 54).toNat = 0 ∧ x4.2 33 12 = g 33 12) ∨ (y4.2 198 (y4.2 160 54).toNat = 1 ∧ ¬ x4.2 33 12 = g 33 12) := by
              rcases LPe with y | y
              · exact absurd y.1 (by omega)
              · rcases y.2.2.2 with y | y
                · exact .inl y
                · exact .inr ⟨y.1, by omega⟩
            have FIN : ∀ hb : Int, ((hb = 0 ∧ x4.2 33 12 = g 33 12) ∨ (hb = 1 ∧ ¬ x4.2 33 12 = g 33 12)) → ((en = 0 ∧ ¬ l5 = 0 ∧ hb = 0) ∨ (en = 1 ∧ (l5 = 0 ∨ hb = 1))) → SFj x.2 (up_M (up_M (up_M y4.2 160 50 (r 160 50)) 176 s.toNat hb) 160 54 (y4.2 160 54 - 1)) ∨ SOk nn X s a b p q bb h r x (en, up_M (up_M (up_M y4.2 160 50 (r 160 50)) 176 s.toNat hb) 160 54 (y4.2 160 54 - 1)) := fun hb h1 h2 => by
              rw [ex3]
              have K := lp_out (hb := hb) Q Wb ne yb KL g7 g12 v50 rfl e26' e214 (skl_k SK) (by omega) gl (fun cc x c1 c2 c4 => by rw [EC cc x (by omega) c2 c4]; exact E6 cc x (by omega)) (by rw [EC 34 7 (by omega) (by omega) (by omega)]; exact z7) (by omega) z3 Fz rfl rfl
              exact .inr ⟨⟨rfl, by omega⟩, K, HM h r _ _ bb en Q ⟨g, v, h26, h214, h6, gC, gD, z0, x4, y4, l5, l7, hb, js, CN, ⟨KL, g7, g12, v50, gl⟩, ⟨e26', e214⟩, SO, e6, hl5, CT, ⟨rfl, rfl, by show up_M (up_M (up_M y4.2 160 50 (r 160 50)) 176 s.toNat hb) 160 54 (y4.2 160 54 - 1) 175 s.toNat = _; rw [up_n (by omega), up_n (by omega), up_n (by omega)]; exact s5⟩, h1, h2⟩ K⟩
            unfold qj_X13_ruled_377 qj_X13_ruled_403
            refine pc_xl ?_; intro h105 e105
            have W105 : ∀ cc x : Nat, ¬ (cc = 160 ∧ x = 50) → h105 cc x = y4.2 cc x := fun cc x q => by rw [e105, up_n q]
            have T431 : ∀ s0 hb : Int, s0 = en → ((hb = 0 ∧ x4.2 33 12 = g 33 12) ∨ (hb = 1 ∧ ¬ x4.2 33 12 = g 33 12)) → ((en = 0 ∧ ¬ l5 = 0 ∧ hb = 0) ∨ (en = 1 ∧ (l5 = 0 ∨ hb = 1))) → Pc (qj_X13_ruled_431 nn (qg_X13_ruled nn dr2) s0 hb s h105) (fun y => SFj x.2 y.2 ∨ SOk nn X s a b p q bb h r x y) := fun s0 hb es h1 h2 => by
              unfold qj_X13_ruled_431
              refine pc_wA ?_; intro _ _ h95 e95
              have l95 : h95 160 54 = y4.2 160 54 := by rw [e95, up_n (by omega)]; exact W105 160 54 (by omega)
              refine pc_sub (by omega) ?_; intro v97 e97
              refine pc_xl ?_; intro h98 e98
              refine pc_ck (fun _ => pc_ret ?_)
              rw [es, e98, e97, l95, e95, e105]
              exact FIN hb h1 h2
            have T408 : ∀ s0 : Int, ((s0 = 0 ∧ ¬ l5 = 0 ∧ x4.2 33 12 = g 33 12) ∨ (s0 = 1 ∧ (l5 = 0 ∨ ¬ x4.2 33 12 = g 33 12))) → Pc (qj_X13_ruled_408 nn (qg_X13_ruled nn dr2) s s0 h105) (fun y => SFj x.2 y.2 ∨ SOk nn X s a b p q bb h r x y) := fun s0 h0 => by
              have es : s0 = en := by omega
              unfold qj_X13_ruled_408
              refine pc_rA ?_; intro _ _ v103 e103
              rw [W105 160 54 (by omega), W105 198 _ (by omega)] at e103
              refine pc_if (fun z => T431 s0 0 es (by omega) (by omega)) (fun z => T431 s0 1 es (by omega) (by omega))
            refine pc_rA ?_; intro _ _ v107 e107
            rw [W105 175 _ (by omega), s5] at e107
            refine pc_if (fun z => T408 1 (by omega)) (fun z => ?_)
            refine pc_rA ?_; intro _ _ v110 e110
            rw [W105 160 54 (by omega), W105 198 _ (by omega)] at e110
            exact pc_if (fun z => T408 0 (by omega)) (fun z => T408 1 (by omega))
      unfold qo_X0_readWhile
      refine pc_sv (c_iswt Y B.1.1.1.1 q1 q2 kk.2) ?_; intro u40 q40
      rw [q1]
      refine pc_if (fun z40 => ?_) (fun z40 => ?_)
      · -- a condition
        have w0 : bT X 175 s.toNat = 0 := by omega
        refine pc_sv (se_c Y H kt (epr_d Qe (by omega)) r57 (by omega) (by omega) (by omega) pt bg) ?_; intro u45 H45
        intro x ex
        cases dr with
        | zero => exact fun _ z => nomatch z
        | succ dr =>
          have Gr : FSrG_X13_ruled (qg_X13_ruled nn dr) := ftg_X13_ruled nn dr
          refine sju_4 q4 ((T 167 _ (by omega)).trans nd) ?_
          refine pc_rA ?_; intro _ _ v206 e206
          rw [T 170 _ (by omega), ee1] at e206
          rw [e206]
          refine pc_sv H45 ?_; intro v hv
          rcases hv with S | ⟨u, ⟨K, u12, FX⟩, SE, n14, J⟩
          · have S2 := sf_c S (fs_qj_X0_readWhile_68 G S.1 x ex)
            refine pc_xl ?_; intro v210 _
            refine pc_xl ?_; intro h211 e211
            refine pc_wZ ?_; intro _ _ h214 e214
            refine pc_rA ?_; intro _ _ v216 _
            have S3 : SFj x.2 h214 := ⟨S2.1, by rw [e214, up_n (by omega), e211, up_n (by omega)]; exact S2.2.1, by rw [e214, up_n (by omega), e211, up_n (by omega)]; exact S2.2.2⟩
            refine pc_sv (Gr (sf_r S3)) ?_; intro u218 F
            have S4 : SFj x.2 u218.2 := ⟨S3.1, by rw [F.1]; exact S3.2.1, by rw [F.2]; exact S3.2.2⟩
            exact pc_imp (ft_qj_X13_ruled_377 Gr (sf_r S4)) (fun y F => .inl ⟨S4.1, by rw [F.1]; exact S4.2.1, by rw [F.2]; exact S4.2.2⟩)
          · obtain ⟨KL, g1, hu, g7, g12, v50⟩ := cd_sk (a1 := s + 1) (b1 := y0) Q Wb t1c pt K (by omega) u12 FX SE J
            have x13 := K.1.2.2.2.1.2.1
            rw [show up_M h 2 10 ((p + 2 : Nat) : Int) 34 1 = h 34 1 from up_n (by omega)] at x13
            exact BODY u40 u45.1 u45.2 v dr (.inr ⟨w0, u, ⟨K, u12, FX⟩, SE, n14, J⟩) (.inl ⟨z40, w0⟩) KL g7 g12 v50 (by omega) (fun _ => by omega) (fun x c1 c2 => ⟨KL.2.1.2.2.2.1 175 x (by omega) (by omega) (by omega), KL.2.1.2.2.2.1 176 x (by omega) (by omega) (by omega)⟩) x ex
      · -- while (true)
        have w1 : bT X 175 s.toNat = 1 ∧ t = p + 3 ∧ bT X 167 e1.toNat = 21 := by omega
        refine pc_add (by omega) ?_; intro v48 e48
        refine pc_xl ?_; intro h49 e49
        rw [show v48 = ((t + 1 : Nat) : Int) by omega] at e49
        have E49 : ∀ cc x : Nat, ¬ (cc = 2 ∧ x = 10) → h49 cc x = h cc x := fun cc x q => by rw [e49, up_n q]
        intro x ex
        cases dr with
        | zero => exact fun _ z => nomatch z
        | succ dr =>
          refine sju_4 q4 ((T 167 _ (by omega)).trans nd) ?_
          refine pc_rA ?_; intro _ _ v206 e206
          rw [T 170 _ (by omega), ee1] at e206
          rw [e206]
          refine pc_sv (r_true r57 q4 ((T 167 _ (by omega)).trans w1.2.2)) ?_; intro v ev
          have EV : ∀ cc x : Nat, ¬ (cc = 174 ∧ x = e1.toNat) → v cc x = r cc x := fun cc x q => by rw [ev, up_n q]
          have bm := brw_l Wb (p := p) (q := t + 1) (by omega) t1c
          have i1 := E49 34 1 (by omega)
          have i7 := E49 34 7 (by omega)
          have i12 := E49 33 12 (by omega)
          have KL : SKl X (s + 1) y0 p (t + 1) bb h r h49 v := by
            refine ⟨⟨by rw [e49, up_s], t1c, by omega, by rw [E49 2 11 (by omega)]; exact q3, by rw [EV 160 9 (by omega)]; exact q4⟩, ⟨bx_k B (fun cc x z => E49 cc x (by omega)) (fun cc x z => EV cc x (by omega)), cfs_o (fun cc x q => E49 cc x (by omega)) (by omega), ?_⟩, ⟨frc_k f1 (fun cc x z => E49 cc x (by omega)), by omega, by rw [E49 34 3 (by omega)]; exact h3, by rw [E49 49 10 (by omega)]; exact h10, by rw [E49 49 18 (by omega)]; omega⟩, by omega, by omega, lpx_k LP (E49 33 9 (by omega)) (E49 33 10 (by omega)) i12 (by omega) (by omega) (EV 160 54 (by omega)) (EV 198 _ (by omega))⟩
            exact ⟨fun cc x q => EV cc x (by omega), fun cc x c1 c2 c4 => EV cc x (by omega), ⟨EV 160 54 (by omega), EV 160 57 (by omega), by rw [EV 160 50 (by omega)]; exact Int.le_refl _⟩, fun x _ => ⟨EV 196 x (by omega), EV 197 x (by omega)⟩, fun x _ => EV 198 x (by omega)⟩
          exact BODY u40 (-1) h49 v dr (.inl ⟨w1.1, e49, ev⟩) (.inr ⟨by omega, w1.1⟩) KL i7 i12 (EV 160 50 (by omega)) (by omega) (fun z => absurd z z40) (fun x c1 c2 => ⟨EV 175 x (by omega), EV 176 x (by omega)⟩) x ex
end
end
section
/- while: small things for the making -/
section
variable {nn : Nat} {X : BCx} {A n lb lh c0 c1 : Int} {h g u m w : ms_M} {PB PB2 : Nat → Prop} {WL : Int → Int → Prop} {L Z : List (Int × Int)}
/-- more bytes may differ -/
theorem mkx_pb (M : MKx X PB WL L h m) (S : ∀ y, PB y → PB2 y) : MKx X PB2 WL L h m := ⟨⟨⟨M.1.1.1, fun c1 c2 x hx np => M.1.1.2 c1 c2 x hx (fun y => np (S x y))⟩, M.1.2⟩, M.2⟩
/-- the class's list of breaks is one only -/
theorem brl_u {J1 J2 : List Int} (B1 : BRl u c0 c1 J1) (B2 : BRl u c0 c1 J2) : J1 = J2 := by
  have e : J1.length = J2.length := by have := B1.1; have := B2.1; omega
  refine List.ext_getElem e (fun i h1 h2 => ?_)
  have y1 := B1.2 i h1
  have y2 := B2.2 i h2
  rw [y1] at y2
  simpa [h1, h2] using y2
theorem brl_k {J : List Int} (B : BRl u c0 c1 J) (E : ∀ x : Nat, w 44 x = u 44 x) : BRl w c0 c1 J := ⟨B.1, fun i hi => by rw [E]; exact B.2 i hi⟩
/-- no continue -/
theorem pbz_0 (H : ¬ hs_L lb Z) : PBz PB lb Z = PB := funext fun y => propext ⟨fun q => q.elim id (fun ⟨j, q, _⟩ => absurd ((hs_mem Z).mpr ⟨j, q⟩) H), .inl⟩
theorem wlz_0 (H : ¬ hs_L lb Z) : WLz WL A n lb Z = WL := funext fun x => funext fun y => propext ⟨fun q => q.elim id (fun ⟨⟨j, q⟩, _⟩ => absurd ((hs_mem Z).mpr ⟨j, q⟩) H), .inl⟩
/-- the begin of a loop stands: jumps back have their aims, L as it was but for them -/
theorem mkx_begin (M : MKx X (PBz PB lb Z) (WLz WL A n lb Z) L h m) (sub : ∀ j, (j, lb) ∈ L ↔ (j, lb) ∈ Z) (AM : ∀ j, (j, lb) ∈ Z → AMd h j A) (hA : 0 ≤ A ∧ A ≤ 1000000) (bl : h 34 1 ≤ 990000) (nW : ∀ k, ¬ WL A k) (en : n = m 160 50 + (bF X : Int)) (e70 : m 160 70 = 0) : Pc (qf_X13_stands nn lb A m) (fun w => MKx X PB WL (fl_L lb L) h w ∧ MFe m w ∧ w 160 88 = m 160 88) := by
  by_cases hz : hs_L lb Z
  · have hL : hs_L lb L := by
      obtain ⟨j, hj⟩ := (hs_mem Z).mp hz
      exact (hs_mem L).mpr ⟨j, (sub j).mpr hj⟩
    refine pc_imp (mk_begin (WM := WL) M hL (fun j hj => AM j ((sub j).mp hj)) hA bl (n' := n) ?_ ?_ ?_ ?_ en e70) (fun w W => ⟨mkx_pb W.1 (fun y q => ?_), W.2⟩)
    · exact .inr ⟨(hs_mem Z).mp hz, rfl, rfl⟩
    · intro k q
      rcases q with q | q
      · exact absurd q (nW k)
      · exact q.2.2
    · intro q k nq
      exact ⟨.inl, fun y => y.elim id (fun y => absurd y.2.1 nq)⟩
    · exact fun k q => absurd q (nW k)
    · rcases q.1 with y | ⟨j, y1, y2⟩
      · exact y
      · exact absurd ⟨j, (sub j).mpr y1, y2⟩ q.2
  · have nL : ¬ hs_L lb L := fun y => by
      obtain ⟨j, hj⟩ := (hs_mem L).mp y
      exact hz ((hs_mem Z).mpr ⟨j, (sub j).mp hj⟩)
    rw [pbz_0 hz, wlz_0 hz] at M
    rw [fl_no L nL]
    exact mk_none M nL hA (by omega)
end
end
section
/- while: the end of the making -/
section
variable {nn : Nat} {X : BCx} {A n lb lh f x s en hb c5 : Int} {h g u m w gC z0 : ms_M} {PB PB2 : Nat → Prop} {WL : Int → Int → Prop} {L L1 Z : List (Int × Int)} {js : List Int}
theorem mkx_behind2 (M : MKx X PB WL L h m) (eJ : pl_L f L = js) (C : CHs js h u) (ex : x = m 160 68) (bl : h 34 1 ≤ 990000) (b3 : h 34 3 ≤ 3000) : Pc (qf_X13_stands nn f x m) (fun w => MKx X PB WL (fl_L f L) u w ∧ MFe m w ∧ w 160 88 = m 160 88) := by
  cases js with
  | nil =>
    have C : u = h := C
    have nL : ¬ hs_L f L := fun y => (pl_hs L).2 y eJ
    have cb := M.1.1.1
    rw [C, fl_no L nL]
    exact mk_none M nL (by omega) (by omega)
  | cons j js => exact mk_behind M eJ C ex bl b3
/-- both labels of the loop stand -/
theorem m_whE {rc : tq_X13_make} (M : MKx X (PBz PB lb Z) (WLz WL A n lb Z) L1 gC m) (sub : ∀ j, (j, lb) ∈ L1 ↔ (j, lb) ∈ Z) (AM : ∀ j, (j, lb) ∈ Z → AMd gC j A) (hA : 0 ≤ A ∧ A ≤ 1000000) (bl : gC 34 1 ≤ 990000) (b3 : gC 34 3 = 0) (nW : ∀ k, ¬ WL A k) (en' : n = m 160 50 + (bF X : Int)) (eJ : pl_L lh (fl_L lb L1) = js) (C : CHs js gC z0) (eL : fl_L lh (fl_L lb L1) = L) (m5 : m 175 s.toNat = c5) (m6 : m 176 s.toNat = hb) (hen : (en = 0 ∧ ¬ c5 = 0 ∧ ¬ hb = 1) ∨ (en = 1 ∧ (c5 = 0 ∨ hb = 1))) : Pc (qj_X13_makeLoop_126 nn rc s lb lh A m) (fun y => y.1 = en ∧ MKx X PB WL L z0 y.2 ∧ MWf m y.2 ∧ y.2 160 88 = m 160 88) := by
  have sk := M.2.1
  unfold qj_X13_makeLoop_126
  refine pc_sv (pc_and (mkx_begin M sub AM hA bl nW en' (by omega)) (fun w ew => mwf_st ew : Pc _ (fun w : ms_M => MWf m w))) ?_; intro u2 ⟨⟨M2, F2, l2⟩, W2⟩
  refine pc_sv (pc_and (mkx_behind2 M2 eJ C rfl bl (by omega)) (fun w ew => mwf_st ew : Pc _ (fun w : ms_M => MWf u2 w))) ?_; intro u5 ⟨⟨M5, F5, l5⟩, W5⟩
  have W2' : MWf m u2 := W2
  have W5' : MWf u2 u5 := W5
  have W : MWf m u5 := mwf_t W2' W5'
  rw [eL] at M5
  have l88 : u5 160 88 = m 160 88 := l5.trans l2
  refine pc_rA ?_; intro _ _ v7 e7
  rw [W.2.1 175 _ (by omega) (by omega), m5] at e7
  refine pc_if (fun z => pc_ret ⟨by show (1 : Int) = en; omega, M5, W, l88⟩) (fun z => ?_)
  refine pc_rA ?_; intro _ _ v9 e9
  rw [W.2.1 176 _ (by omega) (by omega), m6] at e9
  exact pc_if (fun z => pc_ret ⟨by show (0 : Int) = en; omega, M5, W, l88⟩) (fun z => pc_ret ⟨by show (1 : Int) = en; omega, M5, W, l88⟩)
end
end
section
/- while: the making from the loop's S on -/
section
variable {nn : Nat} {K V : Nat → Int} {C : Nat → Nat} {W : Nat → List Int} {n F : Nat} {own : Int} {a b T h g u m w v z : ms_M} {PB : Nat → Prop} {WL : Int → Int → Prop} {L L2 : List (Int × Int)}
/-- the count of loops does not matter -/
theorem mk_r4 (M : MK K V C W n F own a b T PB WL L h m) (e2 : ∀ cc x : Nat, ¬ (cc = 160 ∧ (x = 54 ∨ x = 57)) → ¬ (cc = 219 ∨ cc = 220) → ¬ (174 ≤ cc ∧ cc ≤ 176) → ¬ (198 ≤ cc ∧ cc ≤ 199) → w cc x = m cc x) : MK K V C W n F own a b T PB WL L h w := by
  obtain ⟨⟨c, ⟨j, jb⟩, f, mb⟩, sk⟩ := M
  have x68 := e2 160 68 (by omega) (by omega) (by omega) (by omega)
  refine ⟨⟨cby_k c (fun _ _ _ => rfl) (fun cc x z => e2 cc x (by omega) (by omega) (by omega) (by omega)), ⟨jl_k j (fun cc x z => e2 cc x (by omega) (by omega) (by omega) (by omega)), jlb_k jb (by omega) (by rw [e2 160 88 (by omega) (by omega) (by omega) (by omega)]; exact Int.le_refl _)⟩, frk_k f (fun _ _ _ => rfl) ⟨Int.le_refl _, Int.le_refl _, Int.le_refl _⟩ (fun cc x z => e2 cc x (by omega) (by omega) (by omega) (by omega)) (by omega) (by omega) (by omega), mb_k mb (fun _ _ _ => rfl) id (fun cc x z => e2 cc x (by omega) (by omega) (by omega) (by omega))⟩, skj_k sk (fun _ _ _ => rfl) (fun cc x z => e2 cc x (by omega) (by omega) (by omega) (by omega))⟩
end
end
section
/- while: the making of the loop's S and what is behind it -/
section
variable {nn : Nat} {X : BCx} {a b s e1 e2 y0 ix bb d lbN lhN l5 l7 hb en had c5 : Int} {p t q : Nat} {h r g v g26 h214 h6 gC gD z0 m1 w u : ms_M} {x4 y4 : Int × ms_M} {PB : Nat → Prop} {WL : Int → Int → Prop} {L C Z Z' : List (Int × Int)} {js : List Int} {d2 : Nat}
/-- the lists of a loop's jumps: what is left when both labels stand -/
theorem whl_l (nl : ∀ e ∈ L, e.2 < lbN) (el : lhN = lbN + 1) (hC : (¬ l5 = 0 ∧ C = []) ∨ (l5 = 0 ∧ C = [(l7, lhN)])) (zy : ∀ e ∈ Z', e.2 = lbN ∨ e.2 = lhN) : (∀ j, (j, lbN) ∈ L ++ (C ++ Z') ↔ (j, lbN) ∈ Z') ∧ pl_L lhN (fl_L lbN (L ++ (C ++ Z'))) = (if l5 = 0 then [l7] else []) ++ pl_L lhN Z' ∧ fl_L lhN (fl_L lbN (L ++ (C ++ Z'))) = L := by
  have nb : ¬ hs_L lbN L := fun y => by
    obtain ⟨j, hj⟩ := (hs_mem L).mp y
    have := nl _ hj
    have : lbN < lbN := this
    omega
  have nh : ¬ hs_L lhN L := fun y => by
    obtain ⟨j, hj⟩ := (hs_mem L).mp y
    have : lhN < lbN := nl _ hj
    omega
  have ncb : ¬ hs_L lbN C := fun y => by
    obtain ⟨j, hj⟩ := (hs_mem C).mp y
    rcases hC with ⟨-, c⟩ | ⟨-, c⟩
    · rw [c] at hj; exact (nomatch hj)
    · rw [c] at hj
      have e := congrArg Prod.snd (List.mem_singleton.mp hj)
      have e : lbN = lhN := e
      omega
  have pz : ∀ Z : List (Int × Int), (∀ e ∈ Z, e.2 = lbN ∨ e.2 = lhN) → pl_L lhN (fl_L lbN Z) = pl_L lhN Z ∧ fl_L lhN (fl_L lbN Z) = [] := by
    intro Z
    induction Z with
    | nil => exact fun _ => ⟨rfl, rfl⟩
    | cons e Z ih =>
      intro hz
      obtain ⟨i1, i2⟩ := ih (fun e he => hz e (List.mem_cons_of_mem _ he))
      by_cases c : e.2 = lbN
      · have c2 : ¬ e.2 = lhN := by omega
        simp only [fl_L, pl_L, if_pos c, if_neg c2]
        exact ⟨i1, i2⟩
      · have c2 : e.2 = lhN := (hz e (List.mem_cons_self ..)).resolve_left c
        simp only [fl_L, pl_L, if_neg c, if_pos c2]
        exact ⟨by rw [i1], i2⟩
  obtain ⟨z1, z2⟩ := pz Z' zy
  refine ⟨fun j => ⟨fun y => ?_, fun y => List.mem_append_right _ (List.mem_append_right _ y)⟩, ?_, ?_⟩
  · rcases List.mem_append.mp y with y | y
    · exact absurd ((hs_mem L).mpr ⟨j, y⟩) nb
    · rcases List.mem_append.mp y with y | y
      · exact absurd ((hs_mem C).mpr ⟨j, y⟩) ncb
      · exact y
  · rw [fl_app, fl_app, fl_no L nb, fl_no C ncb, pl_app, pl_app, z1, (pl_hs L).1 nh, List.nil_append]
    rcases hC with ⟨q, c⟩ | ⟨q, c⟩
    · rw [c, if_neg q]; rfl
    · rw [c, if_pos q]; simp [pl_L]
  · rw [fl_app (l := lbN) L, fl_app (l := lbN) C, fl_no L nb, fl_no C ncb, fl_app (l := lhN) L, fl_app (l := lhN) C, z2, fl_no L nh]
    rcases hC with ⟨q, c⟩ | ⟨q, c⟩
    · rw [c]; simp [fl_L]
    · rw [c]; simp [fl_L]
theorem mwf_jw {o l : Int} (ew : qf_X13_jump nn o l m1 = some w) : MWf m1 w := mwf_o (fun cc y q => ff_X13_jump nn w ew cc y (nw_of (by unfold wl_X13_jump; simp only [List.mem_cons, List.not_mem_nil, or_false]; omega) (by unfold wf_X13_jump; simp only [List.mem_cons, List.not_mem_nil, or_false, Prod.mk.injEq]; omega)))
/-- from the loop's S on -/
theorem m_whM (hd : d ≤ 40) (Q : SPq X d p bb h r) (KL : SKl X (s + 1) y0 p (t + 1) bb h r g v) (g7 : g 34 7 = h 34 7) (g12 : g 33 12 = h 33 12) (gl : g 34 1 + 20 * (p : Int) + 20 ≤ h 34 1 + 20 * ((t + 1 : Nat) : Int)) (e26 : g26 = up_M (up_M g 33 9 (h 34 1)) 33 10 (g 34 7)) (e214 : h214 = up_M (up_M v 160 54 (v 160 54 + 1)) 198 (v 160 54 + 1).toNat 0) (SO : SOk nn X e2 y0 b (t + 1) q (g 33 12) g26 h214 x4 y4) (e6 : h6 = up_M x4.2 34 7 (g26 34 7)) (CT : CWt (h 34 1) (h 33 12) l5 l7 x4.1 h6 gC gD z0 js) (ne : 0 ≤ s) (ee2 : bT X 171 s.toNat = e2) (c3 : bc X ≤ 3001) (M1 : MKx X PB WL (L ++ C) g m1) (hC : (¬ l5 = 0 ∧ C = []) ∨ (l5 = 0 ∧ C = [(l7, lhN)])) (el : lhN = lbN + 1) (nl : ∀ e ∈ L, e.2 < lbN) (l88 : lhN ≤ m1 160 88) (m57 : m1 160 57 = 0) (m54 : m1 160 54 = r 160 54) (m51 : m1 160 51 = r 160 51) (m50 : m1 160 50 = had) (a5 : m1 175 s.toNat = c5) (a6 : m1 176 s.toNat = hb) (A2 : AN y0 b y4.2 m1) (b88 : m1 160 88 + 4 * (q : Int) ≤ 2000000000 + 4 * ((t + 1 : Nat) : Int)) (WN : ∀ p n, WL p n → n ≤ h 34 7) (nW : ∀ p n, WL p n → p < h 34 1) (hen : (en = 0 ∧ ¬ c5 = 0 ∧ ¬ hb = 1) ∨ (en = 1 ∧ (c5 = 0 ∨ hb = 1))) (l7A : l5 = 0 → h 34 1 ≤ l7) : Pc (qj_X13_makeLoop_55 nn (qg_X13_make nn d2) s had lbN lhN (h 34 1) m1) (fun y => y.1 = en ∧ MKx X PB WL L z0 y.2 ∧ MWf m1 y.2 ∧ m1 160 88 ≤ y.2 160 88 ∧ y.2 160 88 + 4 * ((t + 1 : Nat) : Int) ≤ m1 160 88 + 4 * (q : Int)) := by
  obtain ⟨⟨en1, en2⟩, SK, MG⟩ := SO
  obtain ⟨⟨B, ⟨q1, q2, q3, q4⟩, ⟨f1, f2, f3⟩, o1⟩, -, ⟨LP, l54, br⟩, -⟩ := Q
  have v54 : v 160 54 = r 160 54 := KL.2.1.2.2.2.2.1.1
  have v51 : v 160 51 = r 160 51 := KL.2.1.2.2.1 160 51 (by omega)
  have G26 : ∀ cc x : Nat, ¬ (cc = 33 ∧ (x = 9 ∨ x = 10)) → g26 cc x = g cc x := fun cc x q => by rw [e26, up_n (by omega), up_n (by omega)]
  have n9 : g26 33 9 = h 34 1 := by rw [e26, up_n (by omega), up_s]
  have n10 : g26 33 10 = g 34 7 := by rw [e26, up_s]
  have w7 := G26 34 7 (by omega)
  have w1 := G26 34 1 (by omega)
  have w12 := G26 33 12 (by omega)
  have s1 := M1.1.2.2.2.1.1
  unfold qj_X13_makeLoop_55
  refine pc_add (by omega) ?_; intro v13 e13
  refine pc_xl ?_; intro h14 e14
  have l14 : h14 160 54 = m1 160 54 + 1 := by rw [e14, up_s]; omega
  refine pc_wA ?_; intro _ _ h17 e17
  have l17 : h17 160 54 = m1 160 54 + 1 := by rw [e17, up_n (by omega)]; exact l14
  refine pc_wA ?_; intro _ _ h20 e20
  rw [l17] at e20
  rw [l14] at e17
  have E20 : ∀ cc x : Nat, ¬ (cc = 160 ∧ x = 54) → ¬ ((cc = 219 ∨ cc = 220) ∧ x = (m1 160 54 + 1).toNat) → h20 cc x = m1 cc x := fun cc x c1 c2 => by rw [e20, up_n (by omega), e17, up_n (by omega), e14, up_n (by omega)]
  have l20 : h20 160 54 = m1 160 54 + 1 := by rw [e20, up_n (by omega)]; exact l17
  have M20 : MKx X PB WL (L ++ C) g26 h20 := mk_r4 (mk_c M1 (fun cc x z => G26 cc x (by rcases z with z | z | z <;> first | (unfold RLc at z; omega) | omega))) (fun cc x c1 c2 c4 c5 => E20 cc x (by omega) (by omega))
  have x54 : h214 160 54 = r 160 54 + 1 := by rw [e214, up_n (by omega), up_s]; omega
  refine pc_rA ?_; intro _ _ v22 e22
  rw [(mk_t M20).1 171 _ (by omega), ee2] at e22
  rw [e22]
  have I20 : MGi X PB WL (L ++ C) lbN lhN y0 b (t + 1) q g26 h214 y4.2 h20 := by
    refine ⟨⟨M20, fun cc x c1 c2 c4 c5 => by rw [E20 cc x (by omega) (by omega)]; exact A2 cc x c1 c2 c4 c5⟩, ⟨by rw [E20 160 57 (by omega) (by omega)]; exact m57, by rw [E20 160 88 (by omega) (by omega)]; exact b88, by omega, ?_⟩, fun _ => ?_, fun p n y => by have := WN p n y; omega, fun _ k y => ?_⟩
    · rw [E20 160 51 (by omega) (by omega), e214, up_n (by omega), up_n (by omega)]; omega
    · refine ⟨?_, ?_, by omega, by rw [E20 160 88 (by omega) (by omega)]; exact l88⟩
      · rw [x54, e20, up_n (by omega), e17, m54, up_s]
      · rw [x54, e20, m54, up_s]
    · rw [n9] at y
      have := nW _ _ y
      omega
  refine pc_sv (MG d2 PB WL (L ++ C) lbN lhN h20 I20) ?_; intro u24 ⟨en24, ⟨Z, MZ, zy1, zy2, zy3, zy4⟩, FZ, lz1, lz2⟩
  rw [n9, n10] at MZ
  rw [n9] at zy4
  have lE := E20 160 88 (by omega) (by omega)
  have k54 : u24.2 160 54 = m1 160 54 + 1 := by rw [FZ.1.2.1]; exact l20
  refine pc_sub (by omega) ?_; intro v26 e26'
  refine pc_xl ?_; intro h27 e27
  refine pc_xl ?_; intro h28 e28
  have M27 := mk_r4 (w := h27) MZ (fun cc x c1 c2 c4 c5 => by rw [e27, up_n (by omega)])
  have C7 := SK.2.1.2.1
  have c77 := C7.2.1.2.2.2
  have M28 := mk_sight M27 e6 e28 (by omega) (by omega) c77
  have E28 : ∀ cc x : Nat, ¬ (cc = 160 ∧ (x = 50 ∨ x = 54)) → h28 cc x = u24.2 cc x := fun cc x c => by rw [e28, up_n (by omega), e27, up_n (by omega)]
  have E6 : ∀ cc x : Nat, ¬ (cc = 34 ∧ x = 7) → h6 cc x = x4.2 cc x := fun cc x q => by rw [e6, up_n q]
  have z7 : h6 34 7 = g 34 7 := by rw [e6, up_s]; omega
  have i1 := E6 34 1 (by omega)
  have i3 := E6 34 3 (by omega)
  have x3 := SK.2.2.1.2.2.1
  have kl1 := SK.2.2.1.2.1
  have qc := SK.1.2.1
  have c8 := C7.2.2.2.2.1
  have gh : h 34 1 ≤ g 34 1 := KL.2.1.2.1.2.2.2.2.1
  have F28 : MWf m1 h28 := by
    refine ⟨⟨?_, ?_, ?_⟩, fun cc x c1 c2 => ?_, fun x hx => ?_⟩
    · rw [E28 160 57 (by omega), FZ.1.1]; exact E20 160 57 (by omega) (by omega)
    · rw [e28, up_n (by omega), e27, up_s]; omega
    · rw [E28 160 51 (by omega), FZ.1.2.2]; exact E20 160 51 (by omega) (by omega)
    · rw [E28 cc x (by omega), FZ.2.1 cc x c1 c2]; exact E20 cc x (by omega) (by omega)
    · have y := FZ.2.2 x (by omega)
      exact ⟨by rw [E28 219 x (by omega), y.1]; exact E20 219 x (by omega) (by omega), by rw [E28 220 x (by omega), y.2]; exact E20 220 x (by omega) (by omega)⟩
  have k88 : h28 160 88 = u24.2 160 88 := E28 160 88 (by omega)
  obtain ⟨cJ, cD, cB, cH⟩ := CT
  -- behind the jump back
  have FIN : ∀ (m : ms_M) (Z' : List (Int × Int)), MKx X (PBz PB lbN Z') (WLz WL (h 34 1) (g 34 7) lbN Z') (L ++ (C ++ Z')) gC m → (∀ e ∈ Z', e.2 = lbN ∨ e.2 = lhN) → (∀ j, (j, lbN) ∈ Z' → AMd gC j (h 34 1)) → pl_L lhN Z' = js → gC 34 1 ≤ 990000 → gC 34 3 = 0 → MWf h28 m → m 160 88 = h28 160 88 → m 160 50 = had → Pc (qj_X13_makeLoop_126 nn (qg_X13_make nn d2) s lbN lhN (h 34 1) m) (fun y => y.1 = en ∧ MKx X PB WL L z0 y.2 ∧ MWf m1 y.2 ∧ m1 160 88 ≤ y.2 160 88 ∧ y.2 160 88 + 4 * ((t + 1 : Nat) : Int) ≤ m1 160 88 + 4 * (q : Int)) := fun m Z' Mm zz am pj b1 b3 Fm lm mh => by
    obtain ⟨t1, t2, t3⟩ := whl_l nl el hC zz
    have CH2 : CHs ((if l5 = 0 then [l7] else []) ++ js) gC z0 := by
      rcases cD with ⟨c, e⟩ | ⟨c, e⟩
      · rw [if_neg c, ← e]; exact cH
      · rw [if_pos c]; exact ⟨gD, e, cH⟩
    have FM := mwf_t F28 Fm
    rw [← pj] at CH2
    refine pc_imp (m_whE Mm t1 am (by omega) b1 b3 (fun k y => by have := nW _ _ y; omega) (by omega) t2 CH2 t3 (by rw [FM.2.1 175 _ (by omega) (by omega)]; exact a5) (by rw [FM.2.1 176 _ (by omega) (by omega)]; exact a6) hen) (fun y ⟨y1, y2, y3, y4⟩ => ⟨y1, y2, mwf_t FM y3, by omega, by omega⟩)
  have JS : ∀ gE : ms_M, (∀ x : Nat, gE 44 x = x4.2 44 x) → gE 33 12 = x4.2 33 12 → BRl gE (h 33 12) (gE 33 12) js → pl_L lhN Z = js := fun gE c1 c2 cB => by
    have zb := brl_k (w := gE) zy3 c1
    rw [w12, g12, ← c2] at zb
    exact brl_u zb cB
  have hs6 : ∀ gE : ms_M, FRc gE → (∀ x : Nat, gE 44 x = x4.2 44 x) → gE 33 12 = x4.2 33 12 → gE = gC → 0 ≤ gE 34 1 → pl_L lhN Z = js := fun gE Fg c1 c2 eg g0 => by
    refine JS gD (fun x => ?_) ?_ cB
    · rcases cD with ⟨c, e⟩ | ⟨c, e⟩
      · rw [e, ← eg]; exact c1 x
      · rw [← eg] at e
        rw [(cah_o (n0 := 0) Fg (.inl (by have := l7A c; omega)) (by omega) e).1 44 x (by omega) (by omega) (by omega)]; exact c1 x
    · rcases cD with ⟨c, e⟩ | ⟨c, e⟩
      · rw [e, ← eg]; exact c2
      · rw [← eg] at e
        rw [(cah_o (n0 := 0) Fg (.inl (by have := l7A c; omega)) (by omega) e).1 33 12 (by omega) (by omega) (by omega)]; exact c2
  have F6 : FRc h6 := frc_k SK.2.2.1.1 (fun cc x q => E6 cc x (by omega))
  have am6 : ∀ j, (j, lbN) ∈ Z → AMd h6 j (h 34 1) := fun j hj lt => by
    rw [E6 35 _ (by omega), E6 35 _ (by omega)]
    exact zy4 j hj lt
  rw [List.append_assoc] at M28
  refine pc_if (fun z => ?_) (fun z => ?_)
  · have e0 : x4.1 = 0 := en24.symm.trans z
    have eC : gC = h6 := cJ.elim (fun y => y.2) (fun y => absurd e0 y.1)
    refine FIN h28 Z (by rw [eC]; exact M28) zy1 (fun j hj => by rw [eC]; exact am6 j hj) (hs6 h6 F6 (fun x => E6 44 x (by omega)) (E6 33 12 (by omega)) eC.symm (by omega)) (by rw [eC]; omega) (by rw [eC]; omega) mwf_r rfl (by rw [e28, up_s])
  · have e0 : ¬ x4.1 = 0 := fun y => z (en24.trans y)
    have J : CJb (h 34 1) (h6 34 7) h6 gC := cJ.elim (fun y => absurd y.1 e0) (fun y => y.2)
    obtain ⟨FC, j1, j3, EJ, AJ⟩ := cjb_f F6 (by omega) J
    have lk : lbN ≤ h28 160 88 := by omega
    refine pc_sv (pc_and (mk_back M28 J (by omega) (by omega) (by omega) (fun k y => ?_) lk) (fun w ew => ⟨mwf_jw ew, ff_X13_jump nn w ew 160 50 rfl⟩ : Pc _ (fun w : ms_M => MWf h28 w ∧ w 160 50 = h28 160 50))) ?_
    · rcases y with y | y
      · exact absurd (nW _ _ y) (by omega)
      · rw [y.2.2]; exact z7.symm
    · intro u30 ⟨⟨M30, F30, l30⟩, W30'⟩
      have W30 : MWf h28 u30 ∧ u30 160 50 = h28 160 50 := W30'
      have e68 : h28 160 68 = h6 34 1 := M28.1.1.1.1.symm
      rw [z7, ← pbz_1 (lb := lbN), ← wlz_1 (lb := lbN) (j := h28 160 68), pbz_a, wlz_a, List.append_assoc, List.append_assoc] at M30
      refine FIN u30 (Z ++ [(h28 160 68, lbN)]) M30 (fun e he => ?_) (fun j hj => ?_) ?_ (by omega) (by rw [j3 (by omega)]; omega) W30.1 l30 (by rw [W30.2, e28, up_s])
      · rcases List.mem_append.mp he with he | he
        · exact zy1 e he
        · rw [List.mem_singleton.mp he]; exact .inl rfl
      · rcases List.mem_append.mp hj with hj | hj
        · have jb := (jlb_m M28.1.2.1.2).1 (j, lbN) (List.mem_append_right _ (List.mem_append_right _ hj))
          have jb : 0 ≤ j ∧ j + 3 ≤ h28 160 68 ∧ lbN ≤ h28 160 88 := jb
          intro lt
          rw [EJ 35 _ (by omega) (by omega) (by omega), EJ 35 _ (by omega) (by omega) (by omega)]
          exact am6 j hj lt
        · have ej : j = h28 160 68 := congrArg Prod.fst (List.mem_singleton.mp hj)
          rw [ej, e68]; exact AJ
      · have nlb : ¬ lbN = lhN := by omega
        rw [pl_app, hs6 gC FC (fun x => by rw [EJ 44 x (by omega) (by omega) (by omega)]; exact E6 44 x (by omega)) (by rw [EJ 33 12 (by omega) (by omega) (by omega)]; exact E6 33 12 (by omega)) rfl (by omega)]
        simp [pl_L, nlb]
end
end
section
/- while: the making, whole -/
section
variable {nn : Nat} {X : BCx} {a b s e1 e2 y0 ix bb d lb lh en : Int} {p t q : Nat} {h r z w m : ms_M} {PB : Nat → Prop} {WL : Int → Int → Prop} {L : List (Int × Int)}
theorem m_wh (Y : CXs X) (ne : 0 ≤ a ∧ a ≤ s ∧ s < b) (yb : s < y0 ∧ y0 ≤ b) (nb : b ≤ 8999) (hd : 0 ≤ d ∧ d + 1 ≤ 40) (nd : bT X 167 s.toNat = 4) (ee1 : bT X 170 s.toNat = e1) (ee2 : bT X 171 s.toNat = e2) (kt : bK X t = 41) (pt : p + 2 < t) (Q : SPq X d p bb h r) (WH : WHr nn X s e1 e2 y0 b ix p t q bb en h r z w) : MGS X (fun d m => (qg_X13_make nn d).1 s m) a b p q h r z w en := by
  obtain ⟨g, v, g26, h214, h6, gC, gD, z0, x4, y4, l5, l7, hb, js, CN, ⟨KL, g7, g12, v50, gl⟩, ⟨e26, e214⟩, SO, e6, hl5, CT, ⟨ez, ew, w5⟩, h1, h2⟩ := WH
  intro d2 PB WL L lb lh m I
  obtain ⟨⟨M, AM⟩, ⟨m57, m88, m54, m51⟩, -, WN, -⟩ := I
  have MT := (mk_t M).1
  have c3 := Y.1.2.1.2
  have qt := SO.2.1.1.2.2.1
  have j88 := M.1.2.1.2.2.2.2
  have h1m := M.1.1.1.1
  have nW : ∀ p n, WL p n → p < h 34 1 := fun p n y => by have := M.1.2.2.1.2.1.2 p n y; omega
  have nl : ∀ e ∈ L, e.2 < m 160 88 + 1 := fun e he => by have := (jlb_m M.1.2.1.2).1 e he; omega
  have f2 := Q.1.2.2.1.2.1
  have q2 := Q.1.2.1.2.1
  have W : ∀ cc x : Nat, ¬ (cc = 160 ∧ (x = 50 ∨ x = 54)) → ¬ (cc = 176 ∧ x = s.toNat) → w cc x = y4.2 cc x := fun cc x q1 q2 => by rw [ew, up_n (by omega), up_n (by omega), up_n (by omega)]
  have w6 : w 176 s.toNat = hb := by rw [ew, up_n (by omega), up_s]
  have a5 : m 175 s.toNat = bT X 175 s.toNat := by rw [AM 175 _ (by omega) (by omega) (by omega) (by omega)]; exact w5
  have a6 : m 176 s.toNat = hb := by rw [AM 176 _ (by omega) (by omega) (by omega) (by omega)]; exact w6
  have AB : AN y0 b y4.2 m := an_s AM ⟨by omega, Int.le_refl _⟩ (fun cc x c1 c2 c4 c5 => W cc x (by omega) (by omega))
  cases d2 with
  | zero => exact fun _ z => nomatch z
  | succ d2 =>
    refine sjm_4 ((MT 167 _ (by omega)).trans nd) ?_
    refine pc_sv (P := fun y => y.1 = en ∧ MGq X PB WL L lb lh p q h r z m y.2) ?_ (fun y Hy => pc_ck (fun _ => pc_ret Hy))
    cases d2 with
    | zero => exact fun _ z => nomatch z
    | succ d2 =>
      show Pc (qo_X13_makeLoop nn (qg_X13_make nn d2) s (m 160 50) m) _
      unfold qo_X13_makeLoop
      refine pc_sv (r_lab (by omega)) ?_; intro u33 e33
      rw [e33]
      dsimp only
      generalize em1 : up_M m 160 88 (m 160 88 + 1) = m1
      have m1l : m1 160 88 = m 160 88 + 1 := by rw [← em1, up_s]
      refine pc_sv (r_lab (by omega)) ?_; intro u35 e35
      rw [e35]
      dsimp only
      generalize em2 : up_M m1 160 88 (m1 160 88 + 1) = m2
      have E2 : ∀ cc x : Nat, ¬ (cc = 160 ∧ x = 88) → m2 cc x = m cc x := fun cc x q => by rw [← em2, up_n q, ← em1, up_n q]
      have m2l : m2 160 88 = m 160 88 + 2 := by rw [← em2, up_s]; omega
      have M2 : MKx X PB WL L h m2 := mk_lab (mk_lab M em1.symm) em2.symm
      have F2 : MWf m m2 := mwf_o (fun cc x q => E2 cc x (by omega))
      have l68 : m2 160 68 = h 34 1 := by rw [E2 160 68 (by omega)]; exact h1m.symm
      rw [m1l, l68]
      have z12 : z 33 12 = h 33 12 := by rw [ez, up_n (by omega), up_n (by omega), up_s]
      have FIN : ∀ (w1 : ms_M) (y : Int × ms_M), MWf m w1 → (m 160 88 + 2 ≤ w1 160 88 ∧ w1 160 88 ≤ m 160 88 + 2 + 4 * ((t : Int) - ((p + 2 : Nat) : Int))) → (y.1 = en ∧ MKx X PB WL L z0 y.2 ∧ MWf w1 y.2 ∧ w1 160 88 ≤ y.2 160 88 ∧ y.2 160 88 + 4 * ((t + 1 : Nat) : Int) ≤ w1 160 88 + 4 * (q : Int)) → y.1 = en ∧ MGq X PB WL L lb lh p q h r z m y.2 := fun w1 y F1 l1 ⟨y1, y2, y3, y4, y5⟩ => by
        refine ⟨y1, mg_nil (mk_c y2 (fun cc x c => ?_)) (mwf_t F1 y3) (by omega) (by omega) z12⟩
        have c' : ¬ cc = 33 := by rcases c with c | c | c <;> first | (unfold RLc at c; omega) | omega
        rw [ez, up_n (by omega), up_n (by omega), up_n (by omega)]
      refine pc_rA ?_; intro _ _ v38 e38
      rw [E2 175 _ (by omega), a5] at e38
      rcases CN with ⟨c5, eg, ev⟩ | ⟨c5, u, ⟨K, u12, FX⟩, SE, n14, J⟩
      · -- while (true)
        refine pc_if (fun _ => ?_) (fun z => absurd (show ¬ v38 = 0 by omega) z)
        refine pc_imp (m_whM (C := []) (lbN := m 160 88 + 1) (lhN := m 160 88 + 1 + 1) (c5 := 1) (hb := hb) (en := en) (l5 := l5) (l7 := l7) (by omega) Q KL g7 g12 gl e26 e214 SO e6 CT (by omega) ee2 c3 (by rw [List.append_nil]; exact mkx_c M2 (fun cc x q1 q2 q3 => by rw [eg, up_n (by omega)])) (.inl ⟨by omega, rfl⟩) rfl nl (by omega) (by rw [E2 160 57 (by omega)]; exact m57) (by rw [E2 160 54 (by omega)]; exact m54) (by rw [E2 160 51 (by omega)]; exact m51) (E2 160 50 (by omega)) (by rw [E2 175 _ (by omega), a5]; exact c5) (by rw [E2 176 _ (by omega)]; exact a6) (fun cc x c1 c2 c4 c6 => by rw [E2 cc x (by omega)]; exact AB cc x c1 c2 c4 c6) (by omega) WN nW (by omega) (fun y => by omega)) (fun y hy => FIN m2 y F2 (by omega) hy)
      · -- a condition
        refine pc_if (fun z => absurd (show v38 = 0 by omega) z) (fun _ => ?_)
        refine pc_rA ?_; intro _ _ v40 e40
        rw [E2 170 _ (by omega), MT 170 _ (by omega), ee1] at e40
        rw [e40]
        have R2 : ∀ cc x : Nat, 174 ≤ cc → cc ≤ 176 → s + 1 ≤ (x : Int) → (x : Int) < y0 → w cc x = v cc x := fun cc x c1 c2 c4 c6 => by
          rw [W cc x (by omega) (by omega), SO.2.1.2.1.2.2.2.1 cc x c1 c2 (by omega), e214, up_n (by omega), up_n (by omega)]
        have A1 : AN (s + 1) y0 v m2 := fun cc x c1 c2 c4 c6 => by
          rw [E2 cc x (by omega), AM cc x c1 c2 (by omega) (by omega)]; exact R2 cc x c1 c2 c4 c6
        have u3' : u 34 3 ≤ 3000 := by
          have := K.1.2.2.2.1.2.2
          rw [show up_M h 2 10 ((p + 2 : Nat) : Int) 34 3 = h 34 3 from up_n (by omega)] at this
          have := Q.2.1.1
          have := SO.2.1.1.2.1
          omega
        have lkl := KL.2.2.1.2.1
        have J1 := J.1
        rw [show up_M u 2 10 ((t + 1 : Nat) : Int) 34 1 = u 34 1 from up_n (by omega)] at J1
        have qc := SO.2.1.1.2.1
        have hu := SE.1.1
        refine cd_mk K (by omega) u12 FX J (by omega) u3' M2 A1 (by rw [E2 160 57 (by omega)]; exact m57) (by omega) (by omega) (by omega) (fun w1 Mw Fw lw Tw w50 => ?_)
        have F1 : MWf m w1 := mwf_t F2 Fw
        rw [← n14] at Mw
        refine pc_imp (m_whM (C := [(l7, m 160 88 + 1 + 1)]) (lbN := m 160 88 + 1) (lhN := m 160 88 + 1 + 1) (c5 := 0) (hb := hb) (en := en) (l5 := l5) (l7 := l7) (by omega) Q KL g7 g12 gl e26 e214 SO e6 CT (by omega) ee2 c3 Mw (.inr ⟨by omega, rfl⟩) rfl nl (by omega) (by rw [F1.1.1]; exact m57) (by rw [F1.1.2.1]; exact m54) (by rw [F1.1.2.2]; exact m51) (by rw [w50]; exact E2 160 50 (by omega)) (by rw [F1.2.1 175 _ (by omega) (by omega), a5]; exact c5) (by rw [F1.2.1 176 _ (by omega) (by omega)]; exact a6) (fun cc x c1 c2 c4 c6 => by rw [F1.2.1 cc x c1 c2]; exact AB cc x c1 c2 c4 c6) (by omega) WN nW (by omega) (fun y => by omega)) (fun y hy => FIN w1 y F1 (by omega) hy)
/-- a while -/
theorem s6_tw (Y : CXs X) (Wb : BRw X) (ne : 0 ≤ a ∧ a ≤ s ∧ s < b) (yb : s < y0 ∧ y0 ≤ b) (nb : b ≤ 8999) (hd : 0 ≤ d ∧ d + 1 ≤ 40) (nd : bT X 167 s.toNat = 4) (kk : bK X p = 31 ∧ bK X (p + 1) = 40) (wt : (bT X 175 s.toNat = 1 ∧ bK X (p + 2) = 28 ∧ bK X (p + 3) = 41 ∧ t = p + 3 ∧ bT X 167 (bT X 170 s.toNat).toNat = 21) ∨ (bT X 175 s.toNat = 0 ∧ ¬ (bK X (p + 2) = 28 ∧ bK X (p + 3) = 41))) (rg : s + 1 ≤ bT X 170 s.toNat ∧ bT X 170 s.toNat < y0) (H : E0 nn X (d + 1) ix (s + 1) y0 (p + 2) t (bT X 170 s.toNat)) (bg : bT X 169 (bT X 170 s.toNat).toNat = ((p + 2 : Nat) : Int)) (kt : bK X t = 41) (H6 : S6 nn X (d + 1) y0 b (t + 1) q (bT X 171 s.toNat)) (pt : p + 2 < t) : S6 nn X d a b p q s := tw_cr Y Wb ne yb nb hd nd kk rfl rfl wt rg H bg kt H6 pt (fun _ _ _ _ _ _ Q WH _ => m_wh Y ne yb nb hd nd rfl rfl kt pt Q WH)
end
end
section
/- try: what is caught -/
section
variable {nn : Nat} {X : BCx} {a b s d : Int} {p t q : Nat} {h r z w m : ms_M}
/-- the class named behind catch: class and rules -/
theorem j_catch (Y : CXs X) (B : BX X h r) (q4 : r 160 9 = 0) (kt : bK X t = 2) {x : Int} (hx : x = (t : Int)) : Pc (qf_X2_classAt nn x h) (fun u => Pc (qf_X13_typeOf nn 3 (t : Int) 0 r) (fun v => (CLz (fun k => bV X (bC X k)) (bn X) (bV X t) u ∧ ((∃ ty : Int, TYS (bV X) (bC X) (bn X) (t : Int) 3 0 ty ∧ v.1 = ty_T ty) ∧ v.2 = r) ∨ (CLz (fun k => bV X (bC X k)) (bn X) (bV X t) u ∧ CLz (fun k => bV X (bC X k)) (bn X) (bV X t) (-1) ∧ v.2 160 9 = 5 ∧ v.2 160 10 = bP X t)))) := by
  refine pc_imp (c_classAt Y.1 Y.2.1 B.1.1.1.1 B.1.1.1.2.1 B.1.1.2.1 kt hx) (fun u C => ?_)
  refine pc_imp (r_type Y.1 Y.2.1 Y.2.2.1 B.1.1.2.2 q4 (p := t) (.inr (.inr (.inr ⟨rfl, kt⟩))) (.inl rfl)) (fun v y => ?_)
  rcases y with y | y
  · exact .inl ⟨C, y⟩
  · exact .inr ⟨C, y.2⟩
end
end
section
/- try: small steps -/
/-- a handler of the class, whatever is known of how many there are -/
def CHw (h u : ms_M) : Prop := FRc u ∧ u 34 3 = h 34 3 + 1 ∧ ∀ cc y : Nat, ¬ (cc = 34 ∧ (y = 3 ∨ y = 4 ∨ y = 10 ∨ y = 14 ∨ y = 15)) → ¬ (cc = 36 ∨ cc = 39 ∨ (40 ≤ cc ∧ cc ≤ 42)) → u cc y = h cc y
section
variable {nn : Nat} {X : BCx} {a b s d fr to c bb lb lh : Int} {p t q uu : Nat} {h g u r z w m : ms_M} {PB : Nat → Prop} {WL : Int → Int → Prop} {L : List (Int × Int)}
theorem c_handw (Fc : FRc h) (h3 : 0 ≤ h 34 3 ∧ h 34 3 ≤ 1000000) (h7 : 0 ≤ h 34 7) (h1 : 0 ≤ h 34 1) : Pc (qf_X1_addHandler nn fr to c h) (fun u => CHw h u) := by
  have T76 : ∀ g : ms_M, (∀ cc y : Nat, ¬ (cc = 34 ∧ (y = 10 ∨ y = 15)) → ¬ cc = 39 → g cc y = h cc y) → Pc (qj_X1_addHandler_76 nn c g) (fun u => CHw h u) := fun g E => by
    unfold qj_X1_addHandler_76
    refine pc_sv (c_push (by rw [E 34 3 (by omega) (by omega)]; omega)) ?_; intro u2 CP
    have E2 : ∀ cc y : Nat, ¬ (cc = 34 ∧ (y = 3 ∨ y = 4 ∨ y = 10 ∨ y = 15)) → ¬ (cc = 39 ∨ cc = 36) → u2 cc y = h cc y := fun cc y z1 z2 => by rw [CP.2.2.2 cc y (by omega) (by omega)]; exact E cc y (by omega) (by omega)
    have F2 : FRc u2 := frc_k Fc (fun cc y z => E2 cc y (by omega) (by omega))
    refine pc_sv (c_slot (by rw [E2 34 1 (by omega) (by omega)]; exact h1) F2) ?_; intro u5 q5
    have b5 : -1 ≤ u5.1 ∧ u5.1 < 100 := by
      have f14 := F2.1
      rcases q5.2 with ⟨k, s1, s2, -⟩ | ⟨-, ⟨s1, s2, -⟩ | ⟨-, s2, -⟩⟩ <;> omega
    obtain ⟨K5, -⟩ := sl_sk F2 q5
    have l7 : u5.2 34 7 = h 34 7 := by rw [K5 34 7 (by omega) (by omega) (by omega)]; exact E2 34 7 (by omega) (by omega)
    have l3 : u5.2 34 3 = h 34 3 + 1 := by rw [K5 34 3 (by omega) (by omega) (by omega), CP.1, E 34 3 (by omega) (by omega)]
    rw [l7, l3]
    refine pc_sv (c_fill b5 h7 (by omega)) ?_; intro u9 q9
    have F5 : FRc u5.2 := q5.1
    rcases q9 with ⟨-, -, a3⟩ | ⟨-, -, a3⟩
    · exact pc_ret ⟨frc_k F5 (fun cc x z => a3 cc x (by omega)), by rw [a3 34 3 (by omega)]; exact l3, fun cc y z1 z2 => by rw [a3 cc y (by omega), K5 cc y (by omega) (by omega) (by omega)]; exact E2 cc y (by omega) (by omega)⟩
    · exact pc_ret ⟨frc_k F5 (fun cc x z => a3 cc x (by omega)), by rw [a3 34 3 (by omega)]; exact l3, fun cc y z1 z2 => by rw [a3 cc y (by omega), K5 cc y (by omega) (by omega) (by omega)]; exact E2 cc y (by omega) (by omega)⟩
  unfold qf_X1_addHandler
  refine pc_if (fun z => ?_) (fun z => ?_)
  · refine pc_xl ?_; intro v12 e12
    refine pc_wA ?_; intro _ _ h14 e14
    refine pc_xl ?_; intro v16 e16
    refine pc_wA ?_; intro _ _ h17 e17
    refine pc_xl ?_; intro v19 e19
    refine pc_wA ?_; intro _ _ h21 e21
    refine pc_xl ?_; intro v23 e23
    refine pc_wA ?_; intro _ _ h24 e24
    refine pc_xl ?_; intro v26 e26
    refine pc_xl ?_; intro h27 e27
    exact T76 h27 (fun cc y z1 z2 => by rw [e27, up_n (by omega), e24, up_n (by omega), e21, up_n (by omega), e17, up_n (by omega), e14, up_n (by omega)])
  · refine pc_xl ?_; intro h28 e28
    exact T76 h28 (fun cc y z1 z2 => by rw [e28, up_n (by omega)])
/-- a BLOCK leaves what is in sight -/
theorem blk_7l {rc : tq_X0_readBlock} : ∀ (k : Nat) (d l2 l3 l4 : Int) (h : ms_M), Pc (qw_X0_readBlock_26 nn rc k d l2 l3 l4 h) (fun x => x.2 34 7 = l2) := by
  intro k
  induction k with
  | zero => exact fun d l2 l3 l4 h _ z => nomatch z
  | succ k ih =>
    intro d l2 l3 l4 h
    have T88 : Pc (qj_X0_readBlock_88 nn rc l2 l3 h) (fun x => x.2 34 7 = l2) := by
      unfold qj_X0_readBlock_88
      refine pc_xl ?_; intro v3 _
      refine pc_xl ?_; intro h4 _
      refine pc_xl ?_; intro h6 e6
      exact pc_ck (fun _ => pc_ret (by show h6 34 7 = l2; rw [e6, up_s]))
    have T76 : ∀ g : ms_M, Pc (qj_X0_readBlock_76 nn rc (qw_X0_readBlock_26 nn rc k) d l2 l4 g) (fun x => x.2 34 7 = l2) := fun g => by
      unfold qj_X0_readBlock_76
      refine pc_se ?_; intro u9 _
      refine pc_xl ?_; intro v10 _
      exact ih _ _ _ _ _
    unfold qw_X0_readBlock_26
    refine pc_if (fun _ => T88) (fun _ => ?_)
    refine pc_if (fun _ => T88) (fun _ => ?_)
    refine pc_se ?_; intro u15 _
    refine pc_if (fun _ => T88) (fun _ => ?_)
    refine pc_if (fun _ => T76 h) (fun _ => ?_)
    refine pc_se ?_; intro u20 _
    exact T76 u20
theorem blk_7 {dc : Nat} : Pc ((qg_X0_readBlock nn dc).1 d h) (fun x => x.2 34 7 = h 34 7) := by
  cases dc with
  | zero => exact fun _ z => nomatch z
  | succ dc =>
    show Pc (qo_X0_readBlock nn (qg_X0_readBlock nn dc) d h) _
    unfold qo_X0_readBlock
    refine pc_xl ?_; intro v29 _
    refine pc_xl ?_; intro h30 _
    exact blk_7l _ _ _ _ _ _
/-- variables go out of sight in the making -/
theorem mg_out2 {w0 : ms_M} {l s1 : Int} (G : MGq X PB WL L lb lh p q h r g m w0) (ez : ∀ cc x : Nat, ¬ ((cc = 2 ∧ (x = 10 ∨ x = 11 ∨ x = 12)) ∨ (cc = 34 ∧ x = 7)) → z cc x = g cc x) (z7 : z 34 7 = l) (ew : w = up_M w0 160 50 s1) (es : l = s1 + (bF X : Int)) (h0 : 0 ≤ s1) (hl : l ≤ g 34 7) (pq : q ≤ uu) : MGq X PB WL L lb lh p uu h r z m w := by
  obtain ⟨⟨Z, M, y1, y2, y3, y4⟩, F, l1, l2⟩ := G
  have E2 : ∀ cc x : Nat, ¬ (cc = 160 ∧ x = 50) → w cc x = w0 cc x := fun cc x q => by rw [ew, up_n q]
  have M1 : MKx X (PBz PB lb Z) (WLz WL (h 33 9) (h 33 10) lb Z) (L ++ Z) (up_M g 34 7 l) w := mk_sight M rfl ew es h0 hl
  have M2 : MKx X (PBz PB lb Z) (WLz WL (h 33 9) (h 33 10) lb Z) (L ++ Z) z w := mkx_c M1 (fun cc x q1 q2 q3 => by
    by_cases y : cc = 34 ∧ x = 7
    · rw [y.1, y.2, up_s]; exact z7
    · rw [up_n y]; exact ez cc x (by omega))
  refine ⟨⟨Z, M2, y1, y2, ⟨by rw [ez 33 12 (by omega)]; exact y3.1, fun i hi => by rw [ez 44 _ (by omega)]; exact y3.2 i hi⟩, fun j hj lt => by rw [ez 35 _ (by omega), ez 35 _ (by omega)]; exact y4 j hj lt⟩, mwf_t F (mwf_o (fun cc x q => E2 cc x (by omega))), by rw [E2 160 88 (by omega)]; exact l1, by rw [E2 160 88 (by omega)]; omega⟩
end
end
section
/- try: the class from catch on -/
/-- the class's answer from catch on -/
def CTr63 (nn : Nat) (X : BCx) (rc : tq_X0_readBlock) (t : Nat) (l1 l2 l3 l4 s0 : Int) (g : ms_M) (x : Int × ms_M) : Prop := (CLz (fun k => bV X (bC X k)) (bn X) (bV X (t + 2)) (-1) ∧ x.2 2 11 = 5 ∧ x.2 2 12 = bP X (t + 2)) ∨ ∃ c : Int, CLz (fun k => bV X (bC X k)) (bn X) (bV X (t + 2)) c ∧ (0 ≤ c ∧ c < 16 ∧ VTn (bn X) c) ∧ ((¬ FTS (bB X 180) c 1 ∧ x.2 2 11 = 6 ∧ x.2 2 12 = bP X (t + 2)) ∨ (FTS (bB X 180) c 1 ∧ ∃ ln : Int, qf_X1_localOf nn (bV X (t + 3)) g = some ln ∧ ((¬ ln = -1 ∧ x.2 2 11 = 4 ∧ x.2 2 12 = bP X (t + 3)) ∨ (ln = -1 ∧ ∃ (gH k0 k1 k2 k3 : ms_M) (x7 : Int × ms_M), qf_X1_addHandler nn l2 l4 c g = some gH ∧ CHw g gH ∧ CLa (bV X (t + 3)) c gH k0 ∧ COp 58 k0 k1 ∧ COp (g 34 7) k1 k2 ∧ CPo 1 k2 k3 ∧ rc.1 l1 (up_M k3 2 10 ((t + 5 : Nat) : Int)) = some x7 ∧ (if l3 = 0 then (qj_X0_readTry_228 nn rc l3 x7.1 (up_M x7.2 34 7 (g 34 7))) else (mx_sv (qf_X1_aimHere nn s0 (up_M x7.2 34 7 (g 34 7))) fun u30 => qj_X0_readTry_228 nn rc l3 x7.1 u30)) = some x))))
section
variable {nn : Nat} {X : BCx} {a b s d l1 l2 l3 l4 s0 : Int} {p t q uu : Nat} {h g u r v z w m : ms_M} {rc : tq_X0_readBlock}
theorem c_twice (Y : CXs X) (B : BX X g v) (f : g 2 11 = 0) (kt : bK X t = 2) {x : Int} (hx : x = (t : Int)) : Pc (qf_X0_checkTwice nn x g) (fun u => ∃ n : Int, qf_X1_localOf nn (bV X t) g = some n ∧ ((n = -1 ∧ u = g) ∨ (¬ n = -1 ∧ u 2 11 = 4 ∧ u 2 12 = bP X t))) := by
  have tc : t < bc X := tb_lt Y.1 (by omega)
  unfold qf_X0_checkTwice
  refine pc_sv (c_valueAt Y.1 B.1.1.1.1 B.1.1.1.2.1 kt hx) ?_; intro u4 q4'
  rw [q4']
  refine pc_se ?_; intro u6 e6
  refine pc_if (fun z => pc_ret ⟨u6, e6, .inl ⟨z, rfl⟩⟩) (fun z => ?_)
  refine pc_sv (c_tell B.1.1.1.1 f (t := t) (by omega) hx) ?_; intro u9 ⟨s9, _⟩
  exact pc_ret ⟨u6, e6, .inr ⟨z, s9.1, s9.2⟩⟩
theorem c_try63 (G : FScG_X0_readBlock rc) (Y : CXs X) (B : BX X g v) (Fc : FRc g) (p10 : g 2 10 = (t : Int)) (f0 : g 2 11 = 0) (g3 : g 34 3 = 0) (g1 : 0 ≤ g 34 1 ∧ g 34 1 ≤ 800000) (k2 : bK X (t + 2) = 2) (k3 : bK X (t + 3) = 2) (t5c : t + 5 < bc X) : Pc (qj_X0_readTry_63 nn rc l1 l2 l3 l4 s0 g) (fun x => CTr63 nn X rc t l1 l2 l3 l4 s0 g x) := by
  have c3 := Y.1.2.1
  have s7 := B.2.1.1
  have T130 : ∀ c : Int, CLz (fun k => bV X (bC X k)) (bn X) (bV X (t + 2)) c → (0 ≤ c ∧ c < 16 ∧ VTn (bn X) c) → FTS (bB X 180) c 1 → Pc (qj_X0_readTry_130 nn rc l1 l2 l3 l4 s0 ((t + 2 : Nat) : Int) c g) (fun x => CTr63 nn X rc t l1 l2 l3 l4 s0 g x) := fun c hc bc' hf => by
    unfold qj_X0_readTry_130
    refine pc_add (by omega) ?_; intro v3 e3
    refine pc_sv (c_twice (t := t + 3) Y B f0 k3 (by omega)) ?_; intro u5 ⟨ln, el, q5⟩
    rcases q5 with ⟨ln1, e5⟩ | ⟨ln1, s1, s2⟩
    · rw [e5]
      refine pc_se ?_; intro u8 e8
      have HW : CHw g u8 := c_handw Fc (by omega) (by omega) g1.1 u8 e8
      have B8 : BX X u8 v := bx_k B (fun cc x z => HW.2.2 cc x (by omega) (by omega)) (fun _ _ _ => rfl)
      have w7 := HW.2.2 34 7 (by omega) (by omega)
      have w1 := HW.2.2 34 1 (by omega) (by omega)
      have w3 := HW.2.1
      refine pc_add (by omega) ?_; intro v14 e14
      refine pc_sv (c_valueAt (t := t + 3) Y.1 B8.1.1.1.1 B8.1.1.1.2.1 k3 (by omega)) ?_; intro u16 q16
      rw [q16]
      refine pc_sv (c_addLocal (by omega)) ?_; intro u18 ⟨n18, A0⟩
      have k1' := A0.2.2.2 34 1 (by omega) (by omega)
      have k3' := A0.2.2.2 34 3 (by omega) (by omega)
      refine pc_sv (c_store (by omega) (by omega)) ?_; intro u20 ⟨g1', g2', A1, A2, A3⟩
      rw [if_neg (by omega)] at A1
      rw [n18, w7] at A2
      refine pc_add (by omega) ?_; intro v22 e22
      refine pc_xl ?_; intro h23 e23
      rw [show v22 = ((t + 5 : Nat) : Int) by omega] at e23
      refine pc_se ?_; intro u25 e25
      refine pc_xl ?_; intro h27 e27
      rw [w7] at e27
      rw [e23] at e25
      rw [e27]
      exact fun x ex => .inr ⟨c, hc, bc', .inr ⟨hf, ln, el, .inr ⟨ln1, u8, u18.2, g1', g2', u20, u25, e8, HW, A0, A1, A2, A3, e25, ex⟩⟩⟩
    · have S5 : ¬ u5 2 11 = 0 := by omega
      refine pc_sv (fs_qf_X1_addHandler S5) ?_; intro u8 F8
      refine pc_xl ?_; intro v14 _
      refine pc_se ?_; intro u16 _
      refine pc_sv (fs_qf_X1_addLocal (fs_n S5 F8)) ?_; intro u18 F18'
      have F18 := fs_t F8 F18'
      refine pc_sv (fs_qf_X1_store (fs_n S5 F18)) ?_; intro u20 F20'
      have F20 := fs_t F18 F20'
      refine pc_xl ?_; intro v22 _
      refine pc_xl ?_; intro h23 e23
      have F23 : FSc u5 h23 := fs_t F20 ⟨by rw [e23, up_n (by omega)], by rw [e23, up_n (by omega)]⟩
      refine pc_sv (G.1 (fs_n S5 F23)) ?_; intro u25 F25'
      have F25 := fs_t F23 F25'
      refine pc_xl ?_; intro h27 e27
      have F27 : FSc u5 h27 := fs_t F25 ⟨by rw [e27, up_n (by omega)], by rw [e27, up_n (by omega)]⟩
      have FIN : ∀ y : Int × ms_M, FSc u5 y.2 → CTr63 nn X rc t l1 l2 l3 l4 s0 g y := fun y F => .inr ⟨c, hc, bc', .inr ⟨hf, ln, el, .inl ⟨ln1, by rw [F.1]; exact s1, by rw [F.2]; exact s2⟩⟩⟩
      refine pc_if (fun _ => pc_imp (fs_qj_X0_readTry_228 G (fs_n S5 F27)) (fun y q => FIN y (fs_t F27 q))) (fun _ => ?_)
      refine pc_sv (fs_qf_X1_aimHere (fs_n S5 F27)) ?_; intro u30 F30'
      have F30 := fs_t F27 F30'
      exact pc_imp (fs_qj_X0_readTry_228 G (fs_n S5 F30)) (fun y q => FIN y (fs_t F30 q))
  unfold qj_X0_readTry_63
  rw [p10]
  refine pc_add (by omega) ?_; intro v34 e34
  rw [show v34 = ((t + 2 : Nat) : Int) by omega]
  refine pc_sv (c_classAt (t := t + 2) Y.1 Y.2.1 B.1.1.1.1 B.1.1.1.2.1 B.1.1.2.1 k2 rfl) ?_; intro u37 C37
  have cb := cls_b C37 (Y.2.1.2.2 _ k2).1
  have n8 := Y.2.2.1
  refine pc_if (fun z => ?_) (fun z => ?_)
  · have V37 : VTn (bn X) u37 := .inr (.inr (.inr (.inr (.inr (.inl (by omega))))))
    have V1 : VTn (bn X) 1 := .inr (.inr (.inr (.inr (.inr (.inl (by omega))))))
    refine pc_sv (c_fit Y B V37 V1) ?_; intro u40 q40
    by_cases ft : FTS (bB X 180) u37 1
    · exact pc_if (fun _ => T130 u37 C37 ⟨by omega, by omega, V37⟩ ft) (fun z => absurd (yn_1 q40 ft) z)
    · refine pc_if (fun z => absurd (yn_0 q40 ft) z) (fun _ => ?_)
      refine pc_sv (c_tell B.1.1.1.1 f0 (t := t + 2) (by omega) rfl) ?_; intro u43 ⟨s9, _⟩
      exact pc_imp (fs_qj_X0_readTry_130 G (h := u43) (by omega)) (fun y F => .inr ⟨u37, C37, ⟨by omega, by omega, V37⟩, .inl ⟨ft, by rw [F.1]; exact s9.1, by rw [F.2]; exact s9.2⟩⟩)
  · have z1 : u37 = -1 := Classical.byContradiction z
    refine pc_sv (c_tell B.1.1.1.1 f0 (t := t + 2) (by omega) rfl) ?_; intro u47 ⟨s9, _⟩
    exact pc_imp (fs_qj_X0_readTry_130 G (h := u47) (by omega)) (fun y F => .inl ⟨by rw [z1] at C37; exact C37, by rw [F.1]; exact s9.1, by rw [F.2]; exact s9.2⟩)
end
end

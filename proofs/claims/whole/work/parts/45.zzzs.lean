/- S of both sides: what is given a value, whole -/
section
variable {nn : Nat} {X : BCx} {dp i a b a1 b1 a2 b2 e e1 e2 s bb lb lh d o en k ix iy y0 : Int} {p q t uu : Nat} {h g u r w m z h13 h35 u16 u38 g1 g2 g3 : ms_M} {v v1 v2 : Int × ms_M} {PB : Nat → Prop} {WL : Int → Int → Prop} {L : List (Int × Int)}
/-- it fits: the class closes it, and the making does the same -/
theorem te_ok (Y : CXs X) (Wb : BRw X) (Q : SPq X d p bb h r) (ne : 0 ≤ a ∧ a ≤ s ∧ s < b) (yb : s < y0 ∧ y0 ≤ b) (nb : b ≤ 8999) (nd : bT X 167 s.toNat = 12) (ee1 : bT X 170 s.toNat = e1) (ee2 : bT X 171 s.toNat = e2) (r1 : s + 1 ≤ e1 ∧ e1 < y0) (e13 : h13 = up_M h 49 18 (p : Int)) (K1 : EOz nn X ix (s + 1) y0 p t e1 h13 r u16 v1) (SE1 : SEq h13 r u16 v1.2) (e35 : h35 = up_M u16 2 10 ((t + 1 : Nat) : Int)) (K2 : EOz nn X iy y0 b (t + 1) uu e2 h35 v1.2 u38 v2) (n3 : ¬ u38 49 12 = 303) (F2 : FM01 nn X iy y0 b (t + 1) uu e2 h35 u38 v2.2) (ku : bK X uu = 46) (SE2 : SEq h35 v1.2 u38 v2.2) (pt : p < t ∧ t + 1 < uu) (uc : uu + 1 < bc X) (n2 : ¬ u16 49 11 < 2) : Pc (mx_sv (qf_X0_closeGiving nn (u16 49 11) (u16 49 12) (u16 49 13) (u16 49 14) u38) fun u6 => qj_X0_readPlain_156 nn u6) (fun x => SOk nn X s a b p (uu + 1) bb h r x (1, v2.2)) := by
  have Q0 := Q
  obtain ⟨⟨B, ⟨q1, q2, q3, q4⟩, ⟨f1, f2, f3⟩, o1⟩, ⟨h3, h10, r57, h7⟩, ⟨LP, l54, br⟩, -⟩ := Q0
  obtain ⟨⟨x1, x2, x3, x4, x5⟩, ⟨x6, x7, x8⟩, ⟨x9, x10, x11⟩, ⟨x12, x13, x14⟩, FMV⟩ := K1.1
  obtain ⟨⟨k1, k2, k3, k4, k5⟩, ⟨k6, k7, k8⟩, ⟨k9, k10, k11⟩, ⟨k12, k13, k14⟩, -⟩ := K2.1
  obtain ⟨⟨y1, -⟩, y2⟩ := F2.2.2 (by omega)
  rw [if_neg n3] at y1
  have n8 := Y.2.2.1
  have c3 := Y.1.2.1
  have E13 : ∀ cc x : Nat, ¬ (cc = 49 ∧ x = 18) → h13 cc x = h cc x := fun cc x q => by rw [e13, up_n q]
  have E35 : ∀ cc x : Nat, ¬ (cc = 2 ∧ x = 10) → h35 cc x = u16 cc x := fun cc x q => by rw [e35, up_n q]
  have a1' := E13 34 1 (by omega)
  have a3' := E13 34 3 (by omega)
  have b1' := E35 34 1 (by omega)
  have b3' := E35 34 3 (by omega)
  have t4 : v1.2 174 e1.toNat = ty_T (u16 49 12) := by rw [x8, x6]
  -- the end of the class
  have END : ∀ (g : ms_M), (∀ cc x : Nat, ¬ ((cc = 34 ∧ (x = 1 ∨ x = 3)) ∨ (cc = 35 ∧ u38 34 1 ≤ (x : Int)) ∨ (cc = 45 ∧ (x = 4 ∨ x = 5)) ∨ cc = 46 ∨ cc = 47) → g cc x = u38 cc x) → (u38 34 1 ≤ g 34 1 ∧ g 34 1 ≤ u38 34 1 + 3) → g 34 3 = 0 → (∀ (z : ms_M), z = up_M g 2 10 ((uu + 1 : Nat) : Int) → ∀ (PB : Nat → Prop) (WL : Int → Int → Prop) (L : List (Int × Int)) (m : ms_M), MKx X PB WL L h13 m → AN (s + 1) y0 v1.2 m → AN y0 b v2.2 m → m 160 57 = 0 → m 160 88 + 4 * (uu : Int) ≤ 2000000000 + 4 * (p : Int) → Pc (qf_X13_assign nn e1 e2 m) (fun w => MKx X PB WL L z w ∧ (m 160 88 ≤ w 160 88 ∧ w 160 88 + 4 * (p : Int) ≤ m 160 88 + 4 * (uu : Int)) ∧ MWf m w)) → Pc (qj_X0_readPlain_156 nn g) (fun x => SOk nn X s a b p (uu + 1) bb h r x (1, v2.2)) := fun g Gf g1 g3 MP => by
    have g10 : g 2 10 = (uu : Int) := by rw [Gf 2 10 (by omega)]; exact k1
    unfold qj_X0_readPlain_156
    refine pc_add (by omega) ?_; intro v3 e3
    refine pc_xl ?_; intro h4 e4
    rw [show v3 = ((uu + 1 : Nat) : Int) by omega] at e4
    refine pc_ret (sl_as Y Wb Q ne yb nb nd ee1 ee2 e13 K1 SE1 e35 K2 SE2 uc (by rw [e4, up_s]) (fun cc x q => by rw [e4, up_n (by omega)]; exact Gf cc x (by omega)) (by rw [e4, up_n (by omega)]; exact g1) (by rw [e4, up_n (by omega)]; exact g3) (MP h4 e4))
  unfold qf_X0_closeGiving
  rcases FMV with F | F | F | F
  · exact absurd F.1 (by omega)
  · have F0 := F
    obtain ⟨⟨f1', f2', f3'⟩, ⟨f4, f5, f6, f7, f8⟩, EQ⟩ := F
    have l3 : u16 34 3 = h13 34 3 := EQ 34 3 (.inr (by omega))
    refine pc_sv (P := fun u => ∃ g1 g2, COp (if u16 49 12 = 301 ∨ u16 49 12 = 302 then 54 else 58) u38 g1 ∧ COp (u16 49 14) g1 g2 ∧ CPo 1 g2 u) ?_ ?_
    · refine pc_if (fun _ => ?_) (fun z => absurd f1' z)
      exact pc_sv (c_store (by omega) (by omega)) (fun u y => pc_ret y)
    · intro g ⟨g1, g2, A1, A2, A3⟩
      have l2 : g2 34 3 = u38 34 3 := by rw [A2.2.2 34 3 (by omega) (by omega)]; exact A1.2.2 34 3 (by omega) (by omega)
      have lg : g 34 1 = u38 34 1 + 2 := by rw [A3.2 34 1 (by omega), A2.1, A1.1]; omega
      have lm := A1.1
      refine END g (fun cc x q => by rw [A3.2 cc x (by omega), A2.2.2 cc x (by omega) (by omega)]; exact A1.2.2 cc x (by omega) (by omega)) (by omega) (by rw [A3.1, l2]; split <;> omega) (fun z ez PB WL L m M AM1 AM2 m57 m88 => ?_)
      exact m_as2 n8 (by omega) F0 t4 x7 e35 y2 A1 A2 A3 ez (by omega) (by omega) pt.1 M AM1 AM2 m57 m88
  · have F0 := F
    obtain ⟨⟨f1', f2', f3', f4'⟩, ⟨MX, l3, -⟩, -⟩ := F
    refine pc_sv (P := fun u => ∃ (u14 : Int × ms_M) (g1 g2 : ms_M), qf_X6_fieldOf nn (u16 49 13) (u16 49 14) u38 = some u14 ∧ COp 181 u14.2 g1 ∧ COp u14.1 g1 g2 ∧ CPo 2 g2 u ∧ (∀ cc y : Nat, ¬ (cc = 45 ∧ (y = 4 ∨ y = 5)) → ¬ cc = 46 → ¬ cc = 47 → u14.2 cc y = u38 cc y)) ?_ ?_
    · refine pc_if (fun z => absurd z (by omega)) (fun _ => ?_)
      refine pc_if (fun _ => ?_) (fun z => absurd f1' z)
      refine pc_se ?_; intro u14 e14
      have G14 : ∀ cc y : Nat, ¬ (cc = 45 ∧ (y = 4 ∨ y = 5)) → ¬ cc = 46 → ¬ cc = 47 → u14.2 cc y = u38 cc y := fun cc y z1 z2 z3 => ff_X6_fieldOf nn u14 e14 cc y (nw_of (by unfold wl_X6_fieldOf; simp only [List.mem_cons, List.not_mem_nil, or_false]; omega) (by unfold wf_X6_fieldOf; simp only [List.mem_cons, List.not_mem_nil, or_false, Prod.mk.injEq]; omega))
      refine pc_sv (c_op2 (by rw [G14 34 1 (by omega) (by omega) (by omega)]; omega)) ?_; intro u16' ⟨g1, A1, A2⟩
      refine pc_sv (c_pop (by omega) (by rw [A2.2.2 34 3 (by omega) (by omega), A1.2.2 34 3 (by omega) (by omega), G14 34 3 (by omega) (by omega) (by omega)]; omega)) ?_; intro u19 A3
      exact pc_ret ⟨u14, g1, u16', e14, A1, A2, A3, G14⟩
    · intro g ⟨u14, g1, g2, e14, A1, A2, A3, G14⟩
      have l2 : g2 34 3 = u38 34 3 := by rw [A2.2.2 34 3 (by omega) (by omega), A1.2.2 34 3 (by omega) (by omega)]; exact G14 34 3 (by omega) (by omega) (by omega)
      have l14 := G14 34 1 (by omega) (by omega) (by omega)
      have lg : g 34 1 = u38 34 1 + 2 := by rw [A3.2 34 1 (by omega), A2.1, A1.1]; omega
      have lm := A1.1
      refine END g (fun cc x q => by rw [A3.2 cc x (by omega), A2.2.2 cc x (by omega) (by omega), A1.2.2 cc x (by omega) (by omega)]; exact G14 cc x (by omega) (by omega) (by omega)) (by omega) (by rw [A3.1, l2]; split <;> omega) (fun z ez PB WL L m M AM1 AM2 m57 m88 => ?_)
      exact m_as3 Y (by omega) F0 e35 y2 e14 A1 A2 A3 ez (by omega) (by omega) pt M AM1 AM2 m57 m88
  · have F0 := F
    obtain ⟨⟨f1', f2', f3', f4'⟩, ⟨l3, -⟩, -⟩ := F
    have T90 : ∀ o : Int, Pc (qj_X0_closeGiving_90 nn o u38) (fun u => ∃ g1, COp o u38 g1 ∧ CPo 3 g1 u) := fun o => by
      unfold qj_X0_closeGiving_90
      refine pc_sv (c_op (by omega)) ?_; intro g1 A1
      refine pc_sv (c_pop (by omega) (by rw [A1.2.2 34 3 (by omega) (by omega)]; omega)) ?_; intro g3 A3
      exact pc_ret ⟨g1, A1, A3⟩
    refine pc_sv (P := fun u => ∃ g1, COp (if u16 49 12 = 301 then 79 else 83) u38 g1 ∧ CPo 3 g1 u) ?_ ?_
    · refine pc_if (fun z => absurd z (by omega)) (fun _ => ?_)
      refine pc_if (fun z => absurd z (by omega)) (fun _ => ?_)
      refine pc_if (fun z => ?_) (fun z => ?_)
      · rw [if_neg z]; exact T90 83
      · rw [if_pos (Classical.byContradiction z)]; exact T90 79
    · intro g ⟨g2, A1, A3⟩
      have l2 : g2 34 3 = u38 34 3 := A1.2.2 34 3 (by omega) (by omega)
      have lg : g 34 1 = u38 34 1 + 1 := by rw [A3.2 34 1 (by omega)]; exact A1.1
      refine END g (fun cc x q => by rw [A3.2 cc x (by omega)]; exact A1.2.2 cc x (by omega) (by omega)) (by omega) (by rw [A3.1, l2]; split <;> omega) (fun z ez PB WL L m M AM1 AM2 m57 m88 => ?_)
      exact m_as4 n8 (by omega) F0 t4 x7 e35 y2 A1 A3 ez (by omega) (by omega) pt M AM1 AM2 m57 m88
theorem s6_te (Y : CXs X) (Wb : BRw X) (ne : 0 ≤ a ∧ a ≤ s ∧ s < b) (yb : s < y0 ∧ y0 ≤ b) (nb : b ≤ 8999) (hd : 0 ≤ d ∧ d ≤ 40) (nd : bT X 167 s.toNat = 12 ∧ bT X 168 s.toNat = (t : Int)) (pl : PLp (bK X) (p : Int)) (r1 : s + 1 ≤ bT X 170 s.toNat ∧ bT X 170 s.toNat < y0) (H : E0 nn X (d + 1) ix (s + 1) y0 p t (bT X 170 s.toNat)) (L1 : bT X 177 (bT X 170 s.toNat).toNat = ix) (kt : bK X t = 51) (H2 : E0 nn X (d + 1) iy y0 b (t + 1) uu (bT X 171 s.toNat)) (ku : bK X uu = 46) (pt : p < t ∧ t + 1 < uu) : S6 nn X d a b p (uu + 1) s := by
  intro dc dr h r bb Q U
  have Q0 := Q
  obtain ⟨Qe, ⟨h3, h10, r57, h7⟩, -, -⟩ := Q0
  have Qe0 := Qe
  obtain ⟨B, ⟨q1, q2, q3, q4⟩, ⟨f1, f2, f3⟩, o1⟩ := Qe0
  have T : ∀ cc y : Nat, ((163 ≤ cc ∧ cc ≤ 173) ∨ cc = 177) → r cc y = bT X cc y := B.2.2.2.2.2.1
  have c3 := Y.1.2.1
  have n8 := Y.2.2.1
  have tc : t < bc X := tb_lt Y.1 (by omega)
  have t1c : t + 1 < bc X := jp_lt Y.1 tc (by omega)
  have uc : uu < bc X := tb_lt Y.1 (by omega)
  have u1c : uu + 1 < bc X := jp_lt Y.1 uc (by omega)
  obtain ⟨pl0, pl1⟩ := pl
  rw [Int.toNat_natCast] at pl1
  generalize ee : bT X 170 s.toNat = e1 at r1 H L1
  generalize ee2 : bT X 171 s.toNat = e2 at H2
  cases dc with
  | zero => exact fun _ z => nomatch z
  | succ dc =>
    refine sjc_d Y B.1.1.1.1 q1 q2 q3 (by omega) (by omega) ?_
    unfold qj_X0_readStatement_217
    refine pc_sv (c_bv0 Y B.1.1.1.1 q1 q2 q3 pl0) ?_; intro u3 q3'
    refine pc_if (fun _ => ?_) (fun z => absurd q3' z)
    refine pc_add (by omega) ?_; intro v4 e4
    rw [e4]
    refine pc_sv (P := fun x => Pc ((qg_X13_ruled nn dr) s r) (fun y => SFj x.2 y.2 ∨ SOk nn X s a b p (uu + 1) bb h r x y)) ?_ (fun x Hx => pc_ck (fun _ => pc_ret Hx))
    unfold qf_X0_readPlain
    rw [q1]
    refine pc_xl ?_; intro h13 e13
    have E13 : ∀ cc x : Nat, ¬ (cc = 49 ∧ x = 18) → h13 cc x = h cc x := fun cc x z => by rw [e13, up_n z]
    have h18 : h13 49 18 = (p : Int) := by rw [e13, up_s]
    have Q13 : EPr X (d + 1) p h13 r := ⟨bx_k B (fun cc x z => E13 cc x (by omega)) (fun _ _ _ => rfl), ⟨by rw [E13 2 10 (by omega)]; exact q1, q2, by rw [E13 2 11 (by omega)]; exact q3, q4⟩, ⟨frc_k f1 (fun cc x z => E13 cc x (by omega)), by rw [E13 34 1 (by omega)]; exact f2, by rw [E13 34 3 (by omega)]; exact f3⟩, by rw [E13 49 10 (by omega)]; omega, by rw [E13 49 10 (by omega)]; omega, by omega⟩
    refine pc_sv (se_g Y H (.inr (.inr (.inr (.inr (.inr kt))))) Q13 r57 (by omega) (fun z => by omega) (by omega)) ?_; intro u16 H16
    intro x ex
    cases dr with
    | zero => exact fun _ z => nomatch z
    | succ dr =>
      have mt := T 167 s.toNat (by omega)
      refine sju_d q4 (by omega) ?_
      refine pc_rA ?_; intro _ _ v160 e160
      rw [T 170 _ (by omega), ee] at e160
      rw [e160]
      -- the rules behind a FAULT
      have R954 : ∀ (z : ms_M), SFj x.2 z → Pc (qj_X13_ruled_954 nn (qg_X13_ruled nn dr) s z) (fun y => SFj x.2 y.2 ∨ SOk nn X s a b p (uu + 1) bb h r x y) := fun z S => by
        unfold qj_X13_ruled_954
        refine pc_rA ?_; intro _ _ v2 _
        exact rw_sf S _ (fun y hy => .inl hy)
      have RFS : ∀ (v1 v2 : Int × ms_M), SFj x.2 v2.2 → Pc (rd_A 9000 170 s v2.2 fun v168 => mx_sv (qf_X13_canTake nn v168 v2.2) fun u170 => if u170 = 0 then (qj_X13_ruled_954 nn (qg_X13_ruled nn dr) s v2.2) else (mx_sv (qf_X13_fits nn v2.1 v1.1 v2.2) fun u172 => if ¬ u172 = 0 then (some (1, v2.2)) else (qj_X13_ruled_954 nn (qg_X13_ruled nn dr) s v2.2))) (fun y => SFj x.2 y.2 ∨ SOk nn X s a b p (uu + 1) bb h r x y) := fun v1 v2 S => by
        refine pc_rA ?_; intro _ _ v168 _
        refine pc_se ?_; intro u170 _
        refine pc_if (fun _ => R954 _ S) (fun _ => ?_)
        refine pc_se ?_; intro u172 _
        exact pc_if (fun _ => pc_ret (.inl S)) (fun _ => R954 _ S)
      -- the class behind its second E
      have FX2 : ∀ u38 : ms_M, ¬ u38 2 11 = 0 → Pc (if (u16 49 11) < 2 then (qj_X0_readPlain_126 nn (u16 2 10) (u16 49 11) (u16 49 12) (u16 49 13) (u16 49 14) u38) else (mx_sv (qf_X4_fits nn 12 (u38 49 12) (u16 49 12) u38) fun u43 => if ¬ u43 = 0 then (qj_X0_readPlain_136 nn (u16 49 11) (u16 49 12) (u16 49 13) (u16 49 14) u38) else (qj_X0_readPlain_126 nn (u16 2 10) (u16 49 11) (u16 49 12) (u16 49 13) (u16 49 14) u38))) (fun x => FSc u38 x.2) := fun u38 S => by
        refine pc_if (fun _ => fs_qj_X0_readPlain_126 S) (fun _ => ?_)
        refine pc_se ?_; intro u43 _
        exact pc_if (fun _ => fs_qj_X0_readPlain_136 S) (fun _ => fs_qj_X0_readPlain_126 S)
      refine pc_sv H16 ?_; intro v1 hv
      rcases hv with S | ⟨⟨K, n3, -⟩, SE⟩
      · have FX : Pc (mx_sv (qf_X9_kind nn u16) fun u19 => if ¬ u19 = 51 then (mx_sv (qf_X0_closeAlone nn (p : Int) u16) fun u21 => qj_X0_readPlain_156 nn u21) else (xl (oq_add (u16 2 10) 1) fun v34 => xl (up_M u16 2 10 v34) fun h35 => mx_sv (qf_X10_readWhole nn (d + 1) h35) fun u38 => if (u16 49 11) < 2 then (qj_X0_readPlain_126 nn (u16 2 10) (u16 49 11) (u16 49 12) (u16 49 13) (u16 49 14) u38) else (mx_sv (qf_X4_fits nn 12 (u38 49 12) (u16 49 12) u38) fun u43 => if ¬ u43 = 0 then (qj_X0_readPlain_136 nn (u16 49 11) (u16 49 12) (u16 49 13) (u16 49 14) u38) else (qj_X0_readPlain_126 nn (u16 2 10) (u16 49 11) (u16 49 12) (u16 49 13) (u16 49 14) u38)))) (fun x => FSc u16 x.2) := by
          refine pc_se ?_; intro u19 _
          refine pc_if (fun _ => ?_) (fun _ => ?_)
          · refine pc_sv (fs_qf_X0_closeAlone S.1) ?_; intro u21 F
            exact pc_imp (fs_qj_X0_readPlain_156 (fs_n S.1 F)) (fun _ q => fs_t F q)
          · refine pc_xl ?_; intro v34 _
            refine pc_xl ?_; intro h35 e35
            have F35 : FSc u16 h35 := ⟨by rw [e35, up_n (by omega)], by rw [e35, up_n (by omega)]⟩
            refine pc_sv (fs_qf_X10_readWhole (fs_n S.1 F35)) ?_; intro u38 F38'
            have F38 := fs_t F35 F38'
            exact pc_imp (FX2 u38 (fs_n S.1 F38)) (fun _ q => fs_t F38 q)
        have S2 := sf_c S (FX x ex)
        refine pc_rA ?_; intro _ _ v164 _
        refine pc_sv (ft_qf_X13_given (sf_r S2)) ?_; intro v2 F
        exact RFS v1 v2 ⟨S2.1, by rw [F.1]; exact S2.2.1, by rw [F.2]; exact S2.2.2⟩
      · have K0 := K
        obtain ⟨⟨x1, x2, x3, x4, x5⟩, ⟨x6, x7, x8⟩, ⟨x9, x10, x11⟩, ⟨x12, x13, x14⟩, FMV⟩ := K.1
        have Bu : BX X u16 v1.2 := bx_e Q13.1 x9 x10
        have a1' := E13 34 1 (by omega)
        have a3' := E13 34 3 (by omega)
        generalize e35 : up_M u16 2 10 ((t + 1 : Nat) : Int) = h35
        have E35 : ∀ cc x : Nat, ¬ (cc = 2 ∧ x = 10) → h35 cc x = u16 cc x := fun cc x q => by rw [← e35, up_n q]
        have C1 : Pc (mx_sv (qf_X9_kind nn u16) fun u19 => if ¬ u19 = 51 then (mx_sv (qf_X0_closeAlone nn (p : Int) u16) fun u21 => qj_X0_readPlain_156 nn u21) else (xl (oq_add (u16 2 10) 1) fun v34 => xl (up_M u16 2 10 v34) fun h35 => mx_sv (qf_X10_readWhole nn (d + 1) h35) fun u38 => if (u16 49 11) < 2 then (qj_X0_readPlain_126 nn (u16 2 10) (u16 49 11) (u16 49 12) (u16 49 13) (u16 49 14) u38) else (mx_sv (qf_X4_fits nn 12 (u38 49 12) (u16 49 12) u38) fun u43 => if ¬ u43 = 0 then (qj_X0_readPlain_136 nn (u16 49 11) (u16 49 12) (u16 49 13) (u16 49 14) u38) else (qj_X0_readPlain_126 nn (u16 2 10) (u16 49 11) (u16 49 12) (u16 49 13) (u16 49 14) u38)))) (fun x => ∃ u38 : ms_M, qf_X10_readWhole nn (d + 1) h35 = some u38 ∧ (if (u16 49 11) < 2 then (qj_X0_readPlain_126 nn (u16 2 10) (u16 49 11) (u16 49 12) (u16 49 13) (u16 49 14) u38) else (mx_sv (qf_X4_fits nn 12 (u38 49 12) (u16 49 12) u38) fun u43 => if ¬ u43 = 0 then (qj_X0_readPlain_136 nn (u16 49 11) (u16 49 12) (u16 49 13) (u16 49 14) u38) else (qj_X0_readPlain_126 nn (u16 2 10) (u16 49 11) (u16 49 12) (u16 49 13) (u16 49 14) u38))) = some x) := by
          refine pc_sv (c_kind Y.1 Bu.1.1.1.1 x2 x1 x4) ?_; intro u19 q19
          refine pc_if (fun z => absurd (show u19 = 51 by omega) z) (fun _ => ?_)
          refine pc_add (by omega) ?_; intro v34 e34
          refine pc_xl ?_; intro h35' e35'
          rw [show v34 = ((t + 1 : Nat) : Int) by omega, e35] at e35'
          rw [e35']
          refine pc_se ?_; intro u38 e38
          exact fun x ex => ⟨u38, e38, ex⟩
        obtain ⟨u38, e38, ex2⟩ := C1 x ex
        have v57 : v1.2 160 57 = 0 := by rw [SE.2]; exact r57
        have Q35 : EPr X (d + 1) (t + 1) h35 v1.2 := ⟨bx_k Bu (fun cc x z => E35 cc x (by omega)) (fun _ _ _ => rfl), ⟨by rw [← e35, up_s], t1c, by rw [E35 2 11 (by omega)]; exact x4, x5⟩, ⟨frc_k x12 (fun cc x z => E35 cc x (by omega)), by rw [E35 34 1 (by omega)]; omega, by rw [E35 34 3 (by omega)]; omega⟩, by rw [E35 49 10 (by omega), x11.1, E13 49 10 (by omega)]; omega, by rw [E35 49 10 (by omega), x11.1, E13 49 10 (by omega)]; omega, by rw [E35 49 18 (by omega), x9 49 18 (by omega) (by omega) (by omega) (by omega) (by omega) (by omega) (by omega) (by omega)]; omega⟩
        have W2 := se_g Y H2 (.inr (.inr (.inl ku))) Q35 v57 (by omega) (fun _ => by rw [E35 49 18 (by omega), x9 49 18 (by omega) (by omega) (by omega) (by omega) (by omega) (by omega) (by omega) (by omega)]; omega) (by omega) u38 e38
        have Tv1 : ∀ cc y : Nat, ((163 ≤ cc ∧ cc ≤ 173) ∨ cc = 177) → v1.2 cc y = bT X cc y := Bu.2.2.2.2.2.1
        refine pc_rA ?_; intro _ _ v164 e164
        rw [Tv1 171 _ (by omega), ee2] at e164
        rw [e164]
        refine pc_sv W2 ?_; intro v2 hv2
        rcases hv2 with S | ⟨⟨K2, n32, F2⟩, SE2⟩
        · exact RFS v1 v2 (sf_c S (FX2 u38 S.1 x ex2))
        · have K20 := K2
          obtain ⟨⟨k1, k2, k3, k4, k5⟩, ⟨k6, k7, k8⟩, ⟨k9, k10, k11⟩, ⟨k12, k13, k14⟩, -⟩ := K2.1
          have B38 : BX X u38 v2.2 := bx_e Q35.1 k9 k10
          have Tv2 : ∀ cc y : Nat, ((163 ≤ cc ∧ cc ≤ 173) ∨ cc = 177) → v2.2 cc y = bT X cc y := B38.2.2.2.2.2.1
          have e8 : v2.2 180 = bB X 180 := funext (fun y => B38.2.2.2.2.2.2.1 180 y (by omega))
          have v5 : v2.2 175 e1.toNat = v1.2 175 e1.toNat := k10.2 175 _ (by omega) (by omega) (by omega)
          -- TYPE at the sign
          have C126 : Pc (qj_X0_readPlain_126 nn (u16 2 10) (u16 49 11) (u16 49 12) (u16 49 13) (u16 49 14) u38) (fun x => x.2 2 11 = 6 ∧ x.2 2 12 = bP X t) := by
            unfold qj_X0_readPlain_126
            refine pc_sv (c_tell B38.1.1.1.1 k4 tc x1) ?_; intro u9 ⟨s1, _⟩
            exact pc_imp (fs_qj_X0_readPlain_136 (by omega)) (fun x F => ⟨by rw [F.1]; exact s1.1, by rw [F.2]; exact s1.2⟩)
          have NO : (x.2 2 11 = 6 ∧ x.2 2 12 = bP X t) → Pc (qj_X13_ruled_954 nn (qg_X13_ruled nn dr) s v2.2) (fun y => SFj x.2 y.2 ∨ SOk nn X s a b p (uu + 1) bb h r x y) := fun CC => by
            unfold qj_X13_ruled_954
            refine pc_rA ?_; intro _ _ v2' e2'
            rw [Tv2 168 _ (by omega), nd.2] at e2'
            refine pc_sv (r_wrong B38.1.1.2.2.1 tc k5 e2') ?_; intro u4 w1
            exact pc_ret (.inl (sf_mk (c := 6) (pl := bP X t) (by decide) CC.1 CC.2 w1.1 w1.2))
          refine pc_rA ?_; intro _ _ v168 e168
          rw [Tv2 170 _ (by omega), ee] at e168
          rw [e168]
          refine pc_sv (r_take Tv2 k5) ?_; intro u170 q170
          rw [L1, v5] at q170
          by_cases lt2 : u16 49 11 < 2
          · have CC := C126 x (by rw [← ex2, if_pos lt2])
            have nt : u170 = 0 := by
              rcases FMV with F | F | F | F
              · have F1 := F.2.1
                rcases q170 with ⟨_, y1, y2⟩ | y
                · have := F1 y1
                  omega
                · exact y.1
              · exact absurd F.1.1 (by omega)
              · exact absurd F.1.1 (by omega)
              · exact absurd F.1.1 (by omega)
            exact pc_if (fun _ => NO CC) (fun z => absurd nt z)
          · rw [if_neg lt2] at ex2
            have yt : ¬ u170 = 0 := by
              have OKt : ix = 0 ∧ (bT X 167 e1.toNat = 25 ∨ bT X 167 e1.toNat = 32 ∨ (bT X 167 e1.toNat = 30 ∧ ¬ v1.2 175 e1.toNat = -1)) := by
                rcases FMV with F | F | F | F
                · exact absurd F.1 (by omega)
                · exact ⟨F.1.2.1, .inl F.1.2.2⟩
                · refine ⟨F.1.2.1, ?_⟩
                  have j0 : ¬ v1.2 175 e1.toNat = -1 := by
                    obtain ⟨ji, kk, -, -, ej, -⟩ := F.2.1.1
                    omega
                  rcases F.2.2 with y | y
                  · exact .inl y.1
                  · exact .inr (.inr ⟨y.1, j0⟩)
                · exact ⟨F.1.2.1, .inr (.inl F.1.2.2.1)⟩
              exact yn_1 q170 OKt
            refine pc_if (fun z => absurd z yt) (fun _ => ?_)
            rw [k6, x6]
            refine pc_sv (r_fit Y e8 k7 x7) ?_; intro u172 q172
            by_cases ft : FTS (bB X 180) (u38 49 12) (u16 49 12)
            · have CC : Pc (mx_sv (qf_X4_fits nn 12 (u38 49 12) (u16 49 12) u38) fun u43 => if ¬ u43 = 0 then (qj_X0_readPlain_136 nn (u16 49 11) (u16 49 12) (u16 49 13) (u16 49 14) u38) else (qj_X0_readPlain_126 nn (u16 2 10) (u16 49 11) (u16 49 12) (u16 49 13) (u16 49 14) u38)) (fun x => SOk nn X s a b p (uu + 1) bb h r x (1, v2.2)) := by
                refine pc_sv (c_fit Y B38 k7 x7) ?_; intro u43 q43
                refine pc_if (fun _ => ?_) (fun z => absurd (yn_1 q43 ft) z)
                unfold qj_X0_readPlain_136
                exact te_ok Y Wb Q ne yb nb nd.1 ee ee2 r1 e13 K0 SE e35.symm K20 n32 (F2 (by omega)) ku SE2 pt u1c lt2
              exact pc_if (fun _ => pc_ret (.inr (CC x ex2))) (fun z => absurd (yn_1 q172 ft) z)
            · have CC : Pc (mx_sv (qf_X4_fits nn 12 (u38 49 12) (u16 49 12) u38) fun u43 => if ¬ u43 = 0 then (qj_X0_readPlain_136 nn (u16 49 11) (u16 49 12) (u16 49 13) (u16 49 14) u38) else (qj_X0_readPlain_126 nn (u16 2 10) (u16 49 11) (u16 49 12) (u16 49 13) (u16 49 14) u38)) (fun x => x.2 2 11 = 6 ∧ x.2 2 12 = bP X t) := by
                refine pc_sv (c_fit Y B38 k7 x7) ?_; intro u43 q43
                exact pc_if (fun z => absurd (yn_0 q43 ft) z) (fun _ => C126)
              exact pc_if (fun z => absurd (yn_0 q172 ft) z) (fun _ => NO (CC x ex2))
end

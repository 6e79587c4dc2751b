section
/- S of both sides: return -/
section
variable {nn : Nat} {X : BCx} {dp i a b a1 b1 a2 b2 e s bb lb lh d o en k ix : Int} {p q t p2 : Nat} {h g u r w m z h16 g1 g2 m1 : ms_M} {v : Int × ms_M} {PB : Nat → Prop} {WL : Int → Int → Prop} {L : List (Int × Int)}
theorem s6_tr (Y : CXs X) (Wb : BRw X) (ne : 0 ≤ a ∧ a ≤ s ∧ s < b) (nb : b ≤ 8999) (hd : 0 ≤ d ∧ d ≤ 40) (nd : bT X 167 s.toNat = 7 ∧ bT X 168 s.toNat = (p : Int)) (kk : bK X p = 24 ∧ ¬ bK X (p + 1) = 46) (r1 : s + 1 ≤ bT X 170 s.toNat) (H : E0 nn X (d + 1) ix (s + 1) b (p + 1) t (bT X 170 s.toNat)) (kt : bK X t = 46) (pt : p + 1 < t) : S6 nn X d a b p (t + 1) s := by
  intro dc dr h r bb Q U
  have Q0 := Q
  obtain ⟨Qe, ⟨h3, h10, r57, h7⟩, -, ⟨vR, nR⟩, b51, rR⟩ := Q0
  have Qe0 := Qe
  obtain ⟨B, ⟨q1, q2, q3, q4⟩, ⟨f1, f2, f3⟩, o1⟩ := Qe0
  have T : ∀ cc y : Nat, ((163 ≤ cc ∧ cc ≤ 173) ∨ cc = 177) → r cc y = bT X cc y := B.2.2.2.2.2.1
  have c3 := Y.1.2.1
  have n8 := Y.2.2.1
  have tc : t < bc X := tb_lt Y.1 (by omega)
  have t1c : t + 1 < bc X := jp_lt Y.1 tc (by omega)
  have tyR := ty_c (vtn_v n8 vR)
  cases dc with
  | zero => exact fun _ z => nomatch z
  | succ dc =>
    refine sjc_24 Y B.1.1.1.1 q1 q2 q3 (by omega) kk.1 ?_
    refine pc_add (by omega) ?_; intro v27 e27
    rw [e27]
    refine pc_sv (P := fun x => Pc ((qg_X13_ruled nn dr) s r) (fun y => SFj x.2 y.2 ∨ SOk nn X s a b p (t + 1) bb h r x y)) ?_ (fun x Hx => pc_ck (fun _ => pc_ret Hx))
    unfold qf_X0_readReturn
    rw [q1]
    refine pc_add (by omega) ?_; intro v41 e41
    refine pc_xl ?_; intro h16 e16
    have E16 : ∀ cc x : Nat, ¬ (cc = 2 ∧ x = 10) → h16 cc x = h cc x := fun cc x z => by rw [e16, up_n z]
    have h16p : h16 2 10 = ((p + 1 : Nat) : Int) := by rw [e16, up_s]; omega
    have Q16 : EPr X (d + 1) (p + 1) h16 r := epr_in (epr_d Qe (by omega)) E16 h16p (by omega) (by omega)
    have h38 := E16 33 8 (by omega)
    refine pc_sv (c_kind Y.1 Q16.1.1.1.1.1 (by omega) h16p (by rw [E16 2 11 (by omega)]; exact q3)) ?_; intro u45 q45
    refine pc_if (fun _ => ?_) (fun z => absurd (show ¬ u45 = 46 by omega) z)
    -- the reference
    have R503 : ∀ {Z : Int × ms_M → Prop}, (∀ rc : tq_X13_ruled, (∃ dd, rc = qg_X13_ruled nn dd) → (h 33 8 = 303 → Pc (rd_A 9000 168 s r fun v75 => mx_sv (qf_X13_wrong nn 7 v75 r) fun u77 => qj_X13_ruled_536 nn rc s u77) Z) ∧ (¬ h 33 8 = 303 → Pc (qj_X13_ruled_536 nn rc s r) Z)) → Pc ((qg_X13_ruled nn dr) s r) Z := fun {Z} HH => by
      cases dr with
      | zero => exact fun _ z => nomatch z
      | succ dr =>
        refine sju_7 q4 ((T 167 _ (by omega)).trans nd.1) ?_
        refine pc_rA ?_; intro _ _ v220 e220
        rw [T 170 _ (by omega)] at e220
        refine pc_if (fun _ => ?_) (fun z => absurd (show ¬ v220 = -1 by omega) z)
        unfold qj_X13_ruled_503
        refine pc_rA ?_; intro _ _ v81 e81
        rw [rR] at e81
        obtain ⟨H1, H2⟩ := HH (qg_X13_ruled nn dr) ⟨dr, rfl⟩
        refine pc_if (fun z => ?_) (fun z => ?_)
        · unfold qj_X13_ruled_521
          exact pc_if (fun z => absurd rfl z) (fun _ => H1 (by omega))
        · unfold qj_X13_ruled_521
          exact pc_if (fun _ => H2 (by omega)) (fun z => absurd (by decide) z)
    unfold qj_X0_readReturn_38
    refine pc_if (fun nv => ?_) (fun nv => ?_)
    · -- a value is wanted
      unfold qj_X0_readReturn_55
      refine pc_if (fun _ => ?_) (fun z => absurd rfl z)
      unfold qj_X0_readReturn_68
      refine pc_if (fun _ => ?_) (fun z => absurd rfl z)
      refine pc_sv (se_g Y H (.inr (.inr (.inl kt))) Q16 r57 (by omega) (fun _ => by rw [E16 49 18 (by omega)]; omega) (by omega)) ?_; intro u19 H19
      intro x ex
      refine R503 (fun rc hrc => ⟨fun z => absurd (h38.trans z) nv, fun _ => ?_⟩)
      obtain ⟨dd, erc⟩ := hrc
      unfold qj_X13_ruled_536
      refine pc_rA ?_; intro _ _ v58 e58
      rw [T 170 _ (by omega)] at e58
      refine pc_if (fun z => absurd z (by omega)) (fun _ => ?_)
      refine pc_rA ?_; intro _ _ v60 e60
      rw [T 170 _ (by omega)] at e60
      rw [e60]
      refine pc_sv H19 ?_; intro v hv
      rcases hv with S | ⟨⟨K, n3, FM⟩, SE⟩
      · have FX : Pc (mx_sv (qf_X4_fits nn 12 (u19 49 12) (u19 33 8) u19) fun u22 => if ¬ u22 = 0 then (qj_X0_readReturn_124 nn u19) else (mx_sv (qf_X9_tell nn 6 (p : Int) u19) fun u25 => qj_X0_readReturn_124 nn u25)) (fun x => FSc u19 x.2) := by
          refine pc_se ?_; intro u22 _
          refine pc_if (fun _ => fs_qj_X0_readReturn_124 S.1) (fun _ => ?_)
          refine pc_sv (fs_qf_X9_tell S.1) ?_; intro u25 F
          exact pc_imp (fs_qj_X0_readReturn_124 (fs_n S.1 F)) (fun _ q => fs_t F q)
        have S2 := sf_c S (FX x ex)
        refine pc_rA ?_; intro _ _ v65 _
        refine pc_se ?_; intro u67 _
        refine pc_if (fun _ => pc_ret (.inl S2)) (fun _ => ?_)
        refine pc_rA ?_; intro _ _ v69 _
        exact rw_sf S2 _ (fun y hy => .inl hy)
      · obtain ⟨⟨x1, x2, x3, x4, x5⟩, ⟨x6, x7, x8⟩, ⟨x9, x10, x11⟩, ⟨x12, x13, x14⟩, -⟩ := K.1
        have B16 : BX X h16 r := Q16.1
        have Bu : BX X u19 v.2 := bx_e B16 x9 x10
        have e1 := E16 34 1 (by omega)
        have e3 := E16 34 3 (by omega)
        have e8 : v.2 180 = bB X 180 := funext (fun y => Bu.2.2.2.2.2.2.1 180 y (by omega))
        have u38 : u19 33 8 = h 33 8 := by rw [x9 33 8 (by omega) (by omega) (by omega) (by omega) (by omega) (by omega) (by omega) (by omega)]; exact h38
        have v51 : v.2 160 51 = r 160 51 := x10.1 160 51 (by omega) (by omega) (by omega)
        have v187 : v.2 187 (r 160 51).toNat = ty_T (h 33 8) := by rw [x10.1 187 _ (by omega) (by omega) (by omega)]; exact rR
        rw [v51]
        refine pc_rA ?_; intro _ _ v65 e65
        rw [v187] at e65
        rw [x6, e65]
        refine pc_sv (r_fit Y e8 x7 vR) ?_; intro u67 q67
        by_cases ft : FTS (bB X 180) (u19 49 12) (h 33 8)
        · have CC : Pc (mx_sv (qf_X4_fits nn 12 (u19 49 12) (u19 33 8) u19) fun u22 => if ¬ u22 = 0 then (qj_X0_readReturn_124 nn u19) else (mx_sv (qf_X9_tell nn 6 (p : Int) u19) fun u25 => qj_X0_readReturn_124 nn u25)) (fun x => ∃ g1 g2, COp (if h 33 8 = 301 ∨ h 33 8 = 302 then 172 else 176) u19 g1 ∧ CPo 1 g1 g2 ∧ x = (0, up_M g2 2 10 ((t + 1 : Nat) : Int))) := by
            rw [u38]
            refine pc_sv (c_fit Y Bu x7 vR) ?_; intro u24 q24
            refine pc_if (fun _ => ?_) (fun z => absurd (yn_1 q24 ft) z)
            have T147 : ∀ o : Int, Pc (qj_X0_readReturn_147 nn o u19) (fun x => ∃ g1 g2, COp o u19 g1 ∧ CPo 1 g1 g2 ∧ x = (0, up_M g2 2 10 ((t + 1 : Nat) : Int))) := fun o => by
              unfold qj_X0_readReturn_147
              refine pc_sv (c_op (by omega)) ?_; intro u3 A1
              have l3 := A1.2.2 34 3 (by omega) (by omega)
              refine pc_sv (c_pop (by omega) (by omega)) ?_; intro u6 A2
              have l10 : u6 2 10 = (t : Int) := by rw [A2.2 2 10 (by omega), A1.2.2 2 10 (by omega) (by omega)]; exact x1
              unfold qj_X0_readReturn_158
              refine pc_add (by omega) ?_; intro v9 e9
              refine pc_xl ?_; intro h10' e10
              exact pc_ret ⟨u3, u6, A1, A2, by rw [e10, show v9 = ((t + 1 : Nat) : Int) by omega]⟩
            unfold qj_X0_readReturn_124
            rw [u38]
            refine pc_sv c_isNum ?_; intro u12 q12
            refine pc_if (fun z => ?_) (fun z => ?_)
            · rw [if_neg (show ¬ (h 33 8 = 301 ∨ h 33 8 = 302) by omega)]; exact T147 176
            · rw [if_pos (show h 33 8 = 301 ∨ h 33 8 = 302 by omega)]; exact T147 172
          obtain ⟨g1, g2, A1, A2, ex2⟩ := CC x ex
          refine pc_if (fun _ => ?_) (fun z => absurd (yn_1 q67 ft) z)
          refine pc_ret (.inr ?_)
          rw [ex2]
          refine sl_eo Y Wb Q ne nb E16 K (FM (by omega)) n3 (by omega) SE A1 A2 rfl (by omega) (by unfold in_R; split <;> omega) (.inl rfl) (fun d2 m R MT MTB m51 HW => ?_)
          cases d2 with
          | zero => exact fun _ z => nomatch z
          | succ d2 =>
            refine sjm_7 ((MT 167 _ (by omega)).trans nd.1) ?_
            refine pc_rA ?_; intro _ _ v96 e96
            rw [MT 170 _ (by omega)] at e96
            refine pc_if (fun _ => ?_) (fun z => absurd (show ¬ v96 = -1 by omega) z)
            refine pc_rA ?_; intro _ _ v98 e98
            rw [MT 170 _ (by omega)] at e98
            rw [e98]
            refine pc_sv HW ?_; intro w ⟨Ew, Hw⟩
            refine pc_xl ?_; intro v102 e102
            refine pc_xl ?_; intro h103 e103
            have w51 : h103 160 51 = r 160 51 := by rw [e103, up_n (by omega), Ew 160 51 (by omega)]; exact m51
            rw [w51]
            refine pc_rA ?_; intro _ _ v106 e106
            have v106e : v106 = ty_T (h 33 8) := by
              rw [e106, e103, up_n (by omega), Ew 187 _ (by omega), MTB 187 _ (by omega), ← B.2.2.2.2.2.2.1 187 _ (by omega)]; exact rR
            have Hw2 : Pc (mx_sv (qf_X13_put nn (if h 33 8 = 301 ∨ h 33 8 = 302 then 172 else 176) h103) fun u5 => some (0, u5)) R := by rw [e103, e102]; exact Hw
            refine pc_if (fun z => ?_) (fun z => ?_)
            · rw [if_neg (show ¬ (h 33 8 = 301 ∨ h 33 8 = 302) by omega)] at Hw2; exact Hw2
            · rw [if_pos (show h 33 8 = 301 ∨ h 33 8 = 302 by omega)] at Hw2; exact Hw2
        · have CC : Pc (mx_sv (qf_X4_fits nn 12 (u19 49 12) (u19 33 8) u19) fun u22 => if ¬ u22 = 0 then (qj_X0_readReturn_124 nn u19) else (mx_sv (qf_X9_tell nn 6 (p : Int) u19) fun u25 => qj_X0_readReturn_124 nn u25)) (fun x => x.2 2 11 = 6 ∧ x.2 2 12 = bP X p) := by
            rw [u38]
            refine pc_sv (c_fit Y Bu x7 vR) ?_; intro u24 q24
            refine pc_if (fun z => absurd (yn_0 q24 ft) z) (fun _ => ?_)
            refine pc_sv (c_tell Bu.1.1.1.1 x4 q2 rfl) ?_; intro u25 ⟨s1, _⟩
            exact pc_imp (fs_qj_X0_readReturn_124 (by omega)) (fun x F => ⟨by rw [F.1]; exact s1.1, by rw [F.2]; exact s1.2⟩)
          obtain ⟨s1, s2⟩ := CC x ex
          refine pc_if (fun z => absurd (yn_0 q67 ft) z) (fun _ => ?_)
          refine pc_rA ?_; intro _ _ v69 e69
          rw [Bu.2.2.2.2.2.1 168 _ (by omega), nd.2] at e69
          refine pc_sv (r_wrong Bu.1.1.2.2.1 q2 x5 e69) ?_; intro u71 w1
          exact pc_ret (.inl (sf_mk (c := 6) (pl := bP X p) (by decide) s1 s2 w1.1 w1.2))
    · -- none is wanted
      have rt : h 33 8 = 303 := by rw [← h38]; exact Classical.byContradiction nv
      unfold qj_X0_readReturn_55
      refine pc_if (fun z => absurd z (by decide)) (fun _ => ?_)
      refine pc_sv (c_tell Q16.1.1.1.1.1 (by rw [E16 2 11 (by omega)]; exact q3) q2 rfl) ?_; intro u33 ⟨s1, _⟩
      refine pc_imp (fs_qj_X0_readReturn_68 (h := u33) (by omega)) (fun x F => ?_)
      refine R503 (fun rc hrc => ⟨fun _ => ?_, fun z => absurd rt z⟩)
      obtain ⟨dd, erc⟩ := hrc
      refine pc_rA ?_; intro _ _ v75 e75
      rw [T 168 _ (by omega), nd.2] at e75
      refine pc_sv (r_wrong B.1.1.2.2.1 q2 q4 e75) ?_; intro u77 w1
      refine pc_imp (ft_qj_X13_ruled_536 (by rw [erc]; exact ftg_X13_ruled nn dd) (h := u77) (by omega)) (fun y Fy => ?_)
      exact .inl (sf_mk (c := 7) (pl := bP X p) (by decide) (by rw [F.1]; exact s1.1) (by rw [F.2]; exact s1.2) (Fy.1.trans w1.1) (Fy.2.trans w1.2))
/-- a leaf without an E: one op -/
theorem s6_tg (Y : CXs X) (Wb : BRw X) (ne : 0 ≤ a ∧ a ≤ s ∧ s < b) (nb : b ≤ 8999) (hd : 0 ≤ d ∧ d ≤ 40) (nd : bT X 167 s.toNat = 7 ∧ bT X 168 s.toNat = (p : Int) ∧ bT X 170 s.toNat = -1) (kk : bK X p = 24 ∧ bK X (p + 1) = 46) : S6 nn X d a b p (p + 2) s := by
  intro dc dr h r bb Q U
  have Q0 := Q
  obtain ⟨Qe, ⟨h3, h10, r57, h7⟩, -, ⟨vR, nR⟩, b51, rR⟩ := Q0
  have Qe0 := Qe
  obtain ⟨B, ⟨q1, q2, q3, q4⟩, ⟨f1, f2, f3⟩, o1⟩ := Qe0
  have T : ∀ cc y : Nat, ((163 ≤ cc ∧ cc ≤ 173) ∨ cc = 177) → r cc y = bT X cc y := B.2.2.2.2.2.1
  have c3 := Y.1.2.1
  have n8 := Y.2.2.1
  have p1c : p + 1 < bc X := jp_lt Y.1 q2 (by omega)
  have p2c : p + 2 < bc X := jp_lt Y.1 p1c (by omega)
  have tyR := ty_c (vtn_v n8 vR)
  cases dc with
  | zero => exact fun _ z => nomatch z
  | succ dc =>
    refine sjc_24 Y B.1.1.1.1 q1 q2 q3 (by omega) kk.1 ?_
    refine pc_add (by omega) ?_; intro v27 e27
    rw [e27]
    refine pc_sv (P := fun x => Pc ((qg_X13_ruled nn dr) s r) (fun y => SFj x.2 y.2 ∨ SOk nn X s a b p (p + 2) bb h r x y)) ?_ (fun x Hx => pc_ck (fun _ => pc_ret Hx))
    unfold qf_X0_readReturn
    rw [q1]
    refine pc_add (by omega) ?_; intro v41 e41
    refine pc_xl ?_; intro h16 e16
    have E16 : ∀ cc x : Nat, ¬ (cc = 2 ∧ x = 10) → h16 cc x = h cc x := fun cc x z => by rw [e16, up_n z]
    have h16p : h16 2 10 = ((p + 1 : Nat) : Int) := by rw [e16, up_s]; omega
    have B16 : BX X h16 r := bx_k B (fun cc x z => E16 cc x (by omega)) (fun _ _ _ => rfl)
    have h38 := E16 33 8 (by omega)
    have f16 : h16 2 11 = 0 := by rw [E16 2 11 (by omega)]; exact q3
    refine pc_sv (c_kind Y.1 B16.1.1.1.1 (by omega) h16p f16) ?_; intro u45 q45
    refine pc_if (fun z => absurd (show u45 = 46 by omega) z) (fun _ => ?_)
    have R503 : ∀ {Z : Int × ms_M → Prop}, (∀ rc : tq_X13_ruled, (∃ dd, rc = qg_X13_ruled nn dd) → (¬ h 33 8 = 303 → Pc (rd_A 9000 168 s r fun v75 => mx_sv (qf_X13_wrong nn 7 v75 r) fun u77 => qj_X13_ruled_536 nn rc s u77) Z) ∧ (h 33 8 = 303 → Z (0, r))) → Pc ((qg_X13_ruled nn dr) s r) Z := fun {Z} HH => by
      cases dr with
      | zero => exact fun _ z => nomatch z
      | succ dr =>
        refine sju_7 q4 ((T 167 _ (by omega)).trans nd.1) ?_
        refine pc_rA ?_; intro _ _ v220 e220
        rw [T 170 _ (by omega), nd.2.2] at e220
        refine pc_if (fun z => absurd e220 z) (fun _ => ?_)
        unfold qj_X13_ruled_503
        refine pc_rA ?_; intro _ _ v81 e81
        rw [rR] at e81
        obtain ⟨H1, H2⟩ := HH (qg_X13_ruled nn dr) ⟨dr, rfl⟩
        refine pc_if (fun z => ?_) (fun z => ?_)
        · unfold qj_X13_ruled_521
          refine pc_if (fun _ => ?_) (fun z => absurd (by decide) z)
          unfold qj_X13_ruled_536
          refine pc_rA ?_; intro _ _ v58 e58
          rw [T 170 _ (by omega), nd.2.2] at e58
          exact pc_if (fun _ => pc_ret (H2 (by omega))) (fun z => absurd e58 z)
        · unfold qj_X13_ruled_521
          exact pc_if (fun z => absurd rfl z) (fun _ => H1 (by omega))
    unfold qj_X0_readReturn_38
    refine pc_if (fun nv => ?_) (fun nv => ?_)
    · unfold qj_X0_readReturn_55
      refine pc_if (fun z => absurd z (by decide)) (fun _ => ?_)
      refine pc_sv (c_tell B16.1.1.1.1 f16 q2 rfl) ?_; intro u33 ⟨s1, _⟩
      refine pc_imp (fs_qj_X0_readReturn_68 (h := u33) (by omega)) (fun x F => ?_)
      refine R503 (fun rc hrc => ⟨fun _ => ?_, fun z => absurd (h38.trans z) nv⟩)
      obtain ⟨dd, erc⟩ := hrc
      refine pc_rA ?_; intro _ _ v75 e75
      rw [T 168 _ (by omega), nd.2.1] at e75
      refine pc_sv (r_wrong B.1.1.2.2.1 q2 q4 e75) ?_; intro u77 w1
      refine pc_imp (ft_qj_X13_ruled_536 (by rw [erc]; exact ftg_X13_ruled nn dd) (h := u77) (by omega)) (fun y Fy => ?_)
      exact .inl (sf_mk (c := 7) (pl := bP X p) (by decide) (by rw [F.1]; exact s1.1) (by rw [F.2]; exact s1.2) (Fy.1.trans w1.1) (Fy.2.trans w1.2))
    · have rt : h 33 8 = 303 := by rw [← h38]; exact Classical.byContradiction nv
      unfold qj_X0_readReturn_55
      refine pc_if (fun _ => ?_) (fun z => absurd rfl z)
      unfold qj_X0_readReturn_68
      refine pc_if (fun z => absurd z (by decide)) (fun _ => ?_)
      have e1 := E16 34 1 (by omega)
      refine pc_sv (c_op (by omega)) ?_; intro u29 A1
      unfold qj_X0_readReturn_158
      have l10 : u29 2 10 = ((p + 1 : Nat) : Int) := by rw [A1.2.2 2 10 (by omega) (by omega)]; exact h16p
      refine pc_add (by omega) ?_; intro v3 e3
      refine pc_xl ?_; intro z ez
      rw [show v3 = ((p + 2 : Nat) : Int) by omega] at ez
      have Zf : ∀ cc x : Nat, ¬ ((cc = 2 ∧ x = 10) ∨ (cc = 34 ∧ x = 1) ∨ (cc = 35 ∧ x = (h 34 1).toNat)) → z cc x = h cc x := fun cc x q => by rw [ez, up_n (by omega), A1.2.2 cc x (by omega) (by rw [e1]; omega)]; exact E16 cc x (by omega)
      have z1 : z 34 1 = h 34 1 + 1 := by rw [ez, up_n (by omega), A1.1]; omega
      refine pc_ret (R503 (fun rc hrc => ⟨fun y => absurd rt y, fun _ => .inr ⟨⟨rfl, .inl rfl⟩, ?_, ?_⟩⟩))
      · refine sk_leaf Q Wb ⟨by show z 2 10 = _; rw [ez, up_s], p2c, by omega, by show z 2 11 = 0; rw [Zf 2 11 (by omega)]; exact q3, q4⟩ (bx_k B (fun cc x q => Zf cc x (by omega)) (fun _ _ _ => rfl)) (cfs_o (fun cc x q => Zf cc x (by omega)) (by show _ ≤ z 34 1; omega)) rfs_r (Zf 33 12 (by omega)) (Zf 34 7 (by omega)) rfl (frc_k f1 (fun cc x q => Zf cc x (by omega))) (by show z 34 1 + _ ≤ _; omega) (by show z 34 3 = 0; rw [Zf 34 3 (by omega)]; exact h3) (by show z 49 10 = 0; rw [Zf 49 10 (by omega)]; exact h10) (by show z 49 18 ≤ _; rw [Zf 49 18 (by omega)]; omega)
      · intro d2 PB WL L lb lh m I
        obtain ⟨⟨M, AM⟩, ⟨m57, m88, m54, m51⟩, -, WN, CO⟩ := I
        obtain ⟨MT, MTB, -⟩ := mk_t M
        cases d2 with
        | zero => exact fun _ z => nomatch z
        | succ d2 =>
          refine sjm_7 ((MT 167 _ (by omega)).trans nd.1) ?_
          refine pc_rA ?_; intro _ _ v96 e96
          rw [MT 170 _ (by omega), nd.2.2] at e96
          refine pc_if (fun z => absurd e96 z) (fun _ => ?_)
          have cb := M.1.1.1
          refine pc_sv (r_put (by omega)) ?_; intro u113 B1
          have M1 : MKx X PB WL L u29 u113 := mk_op (mkx_c M (fun cc x q1 q2 q3 => E16 cc x (by omega))) A1 B1 (fun _ => rfl) (by unfold in_R; omega)
          have l88 := B1.2.2 160 88 (by omega) (by omega)
          exact pc_ret ⟨rfl, mg_nil (mkx_c M1 (fun cc x q1 q2 q3 => by show z cc x = _; rw [ez, up_n (by omega)])) (mwf_o (fun cc x q => B1.2.2 cc x (by omega) (by omega))) (by show _ ≤ u113 160 88; omega) (by show u113 160 88 + _ ≤ _; omega) (Zf 33 12 (by omega))⟩
end
end
section
/- S of both sides: a variable -/
section
variable {nn : Nat} {X : BCx} {dp i a b a1 b1 a2 b2 e s bb lb lh d o en k ix x t : Int} {p q : Nat} {h g u r w m z k0 k1 k2 k3 : ms_M} {v : Int × ms_M} {PB : Nat → Prop} {WL : Int → Int → Prop} {L : List (Int × Int)}
/-- a variable comes behind the ops rather than before -/
theorem cla_swap {n : Int} (A : CLa x t u k0) (B1 : COp o k0 k1) (B2 : COp n k1 k2) (B3 : CPo 1 k2 k3) : ∃ g1 g2 g3 : ms_M, COp o u g1 ∧ COp n g1 g2 ∧ CPo 1 g2 g3 ∧ CLa x t g3 k3 := by
  obtain ⟨a1, a2, a3, a4⟩ := A
  have E0' : ∀ cc y : Nat, ¬ ((cc = 34 ∧ (y = 7 ∨ y = 8)) ∨ cc = 37 ∨ cc = 38) → k0 cc y = u cc y := fun cc y q => a4 cc y (by omega) (by omega)
  obtain ⟨rq, r1, r2⟩ : ∃ rq : ms_M → ms_M, (∀ (k : ms_M) (cc y : Nat), (cc = 34 ∧ (y = 7 ∨ y = 8)) ∨ cc = 37 ∨ cc = 38 → rq k cc y = u cc y) ∧ ∀ (k : ms_M) (cc y : Nat), ¬ ((cc = 34 ∧ (y = 7 ∨ y = 8)) ∨ cc = 37 ∨ cc = 38) → rq k cc y = k cc y := ⟨fun k cc y => if (cc = 34 ∧ (y = 7 ∨ y = 8)) ∨ cc = 37 ∨ cc = 38 then u cc y else k cc y, fun k cc y q => if_pos q, fun k cc y q => if_neg q⟩
  have l0 := E0' 34 1 (by omega)
  have l03 := E0' 34 3 (by omega)
  refine ⟨rq k1, rq k2, rq k3, ⟨?_, fun q => ?_, fun cc y q1 q2 => ?_⟩, ⟨?_, fun q => ?_, fun cc y q1 q2 => ?_⟩, ⟨?_, fun cc y q => ?_⟩, ⟨?_, ?_, fun q => ?_, fun cc y q1 q2 => ?_⟩⟩
  · rw [r2 k1 34 1 (by omega), B1.1, l0]
  · rw [r2 k1 35 _ (by omega), ← l0]; exact B1.2.1 (by omega)
  · by_cases z : (cc = 34 ∧ (y = 7 ∨ y = 8)) ∨ cc = 37 ∨ cc = 38
    · exact r1 k1 cc y z
    · rw [r2 k1 cc y z, B1.2.2 cc y q1 (by rw [l0]; exact q2)]; exact E0' cc y z
  · rw [r2 k2 34 1 (by omega), r2 k1 34 1 (by omega)]; exact B2.1
  · rw [r2 k1 34 1 (by omega)] at q ⊢
    rw [r2 k2 35 _ (by omega)]; exact B2.2.1 q
  · rw [r2 k1 34 1 (by omega)] at q2
    by_cases z : (cc = 34 ∧ (y = 7 ∨ y = 8)) ∨ cc = 37 ∨ cc = 38
    · rw [r1 k2 cc y z, r1 k1 cc y z]
    · rw [r2 k2 cc y z, r2 k1 cc y z]; exact B2.2.2 cc y q1 q2
  · rw [r2 k3 34 3 (by omega), r2 k2 34 3 (by omega)]; exact B3.1
  · by_cases z : (cc = 34 ∧ (y = 7 ∨ y = 8)) ∨ cc = 37 ∨ cc = 38
    · rw [r1 k3 cc y z, r1 k2 cc y z]
    · rw [r2 k3 cc y z, r2 k2 cc y z]; exact B3.2 cc y q
  · rw [r1 k3 34 7 (by omega), B3.2 34 7 (by omega), B2.2.2 34 7 (by omega) (by omega), B1.2.2 34 7 (by omega) (by omega)]; exact a1
  · rw [r1 k3 34 8 (by omega), r1 k3 34 7 (by omega), B3.2 34 8 (by omega), B2.2.2 34 8 (by omega) (by omega), B1.2.2 34 8 (by omega) (by omega)]; exact a2
  · rw [r1 k3 34 7 (by omega)] at q ⊢
    rw [B3.2 37 _ (by omega), B2.2.2 37 _ (by omega) (by omega), B1.2.2 37 _ (by omega) (by omega), B3.2 38 _ (by omega), B2.2.2 38 _ (by omega) (by omega), B1.2.2 38 _ (by omega) (by omega)]
    exact a3 q
  · rw [r1 k3 34 7 (by omega)] at q2
    by_cases z : cc = 37 ∨ cc = 38
    · rw [r1 k3 cc y (by omega), B3.2 cc y (by omega), B2.2.2 cc y (by omega) (by omega), B1.2.2 cc y (by omega) (by omega)]
      exact a4 cc y (by omega) (by omega)
    · rw [r2 k3 cc y (by omega)]
theorem c_bv1 (Y : CXs X) (TB : TBc (bK X) (bP X) (bc X) h) (hp : h 2 10 = (p : Int)) (pc : p < bc X) (f : h 2 11 = 0) (T : TYp (bK X) (p : Int)) : Pc (qf_X9_beginsVariable nn h) (fun u => u = 1) := by
  have c3 := Y.1.2.1
  have T1 : bK X p = 20 ∨ bK X p = 10 ∨ (bK X p = 2 ∧ (bK X (p + 1) = 2 ∨ (bK X (p + 1) = 44 ∧ bK X (p + 2) = 45))) := T
  unfold qf_X9_beginsVariable
  refine pc_sv (c_kind Y.1 TB pc hp f) ?_; intro u2 q2
  rw [hp]
  refine pc_if (fun z => ?_) (fun z => ?_)
  · refine pc_add (by omega) ?_; intro v4 e4
    refine pc_sv (c_kindAt Y.1 TB (t := p + 1) (by omega)) ?_; intro u6 q6
    refine pc_if (fun _ => pc_ret rfl) (fun z6 => ?_)
    refine pc_if (fun z => absurd (show u6 = 44 by omega) z) (fun _ => ?_)
    refine pc_add (by omega) ?_; intro v8 e8
    refine pc_sv (c_kindAt Y.1 TB (t := p + 2) (by omega)) ?_; intro u10 q10
    exact pc_if (fun z => absurd (show u10 = 45 by omega) z) (fun _ => pc_ret rfl)
  · refine pc_if (fun _ => pc_ret rfl) (fun z2 => ?_)
    exact pc_if (fun z => absurd (show u2 = 10 by omega) z) (fun _ => pc_ret rfl)
theorem c_bv0 (Y : CXs X) (TB : TBc (bK X) (bP X) (bc X) h) (hp : h 2 10 = (p : Int)) (pc : p < bc X) (f : h 2 11 = 0) (T : ¬ TYp (bK X) (p : Int)) : Pc (qf_X9_beginsVariable nn h) (fun u => u = 0) := by
  have c3 := Y.1.2.1
  have T1 : ¬ (bK X p = 20 ∨ bK X p = 10 ∨ (bK X p = 2 ∧ (bK X (p + 1) = 2 ∨ (bK X (p + 1) = 44 ∧ bK X (p + 2) = 45)))) := T
  unfold qf_X9_beginsVariable
  refine pc_sv (c_kind Y.1 TB pc hp f) ?_; intro u2 q2
  rw [hp]
  refine pc_if (fun z => ?_) (fun z => ?_)
  · refine pc_add (by omega) ?_; intro v4 e4
    refine pc_sv (c_kindAt Y.1 TB (t := p + 1) (by omega)) ?_; intro u6 q6
    refine pc_if (fun z => absurd (by omega) T1) (fun z6 => ?_)
    refine pc_if (fun _ => pc_ret rfl) (fun z7 => ?_)
    refine pc_add (by omega) ?_; intro v8 e8
    refine pc_sv (c_kindAt Y.1 TB (t := p + 2) (by omega)) ?_; intro u10 q10
    exact pc_if (fun _ => pc_ret rfl) (fun z => absurd (by omega) T1)
  · refine pc_if (fun z2 => absurd (by omega) T1) (fun z2 => ?_)
    exact pc_if (fun _ => pc_ret rfl) (fun z => absurd (by omega) T1)
end
end
section
/- S of both sides: a variable, whole -/
section
variable {nn : Nat} {X : BCx} {dp i a b a1 b1 a2 b2 e s bb lb lh d o en k ix bs rw : Int} {p q t uu : Nat} {h g u r w m z k0 k1 k2 k3 : ms_M} {v : Int × ms_M} {PB : Nat → Prop} {WL : Int → Int → Prop} {L : List (Int × Int)}
/-- store and the new variable, the making -/
theorem m_store {n ty : Int} {g1 g2 g3 k3 : ms_M} (M : MKx X PB WL L u m) (A1 : COp (if ty = 301 ∨ ty = 302 then 54 else 58) u g1) (A2 : COp n g1 g2) (A3 : CPo 1 g2 g3) (A4 : CLa (bV X t) ty g3 k3) (kt : bK X t = 2) (hn : n = u 34 7) (h7 : u 34 7 < 750) (h3 : 1 ≤ u 34 3) (vt : VTy ty) (n3 : ¬ ty = 300 ∧ ¬ ty = 303) (vq : VTn (bn X) ty) (WN : ∀ p k, WL p k → k ≤ u 34 7) (b1 : u 34 1 ≤ 900000) (b3 : u 34 3 ≤ 3000) {ty2 : Int} (ty2e : (ty2 = ty_T ty) ∨ (ty2 = 2 ∧ ¬ (ty = 301 ∨ ty = 302))) : Pc (qf_X13_store nn ty2 (m 160 50) m) (fun w => (∀ cc x : Nat, ¬ (cc = 160 ∧ (x = 68 ∨ x = 70)) → ¬ cc = 206 → w cc x = m cc x) ∧ Pc (qf_X13_comes nn (t : Int) (ty_T ty) w) (fun w2 => MKx X PB WL L k3 w2 ∧ ∀ cc x : Nat, ¬ (cc = 160 ∧ (x = 50 ∨ x = 68 ∨ x = 70 ∨ x = 72)) → ¬ (cc = 206 ∨ cc = 196 ∨ cc = 197) → w2 cc x = m cc x)) := by
  have SG := M.1.2.2.2.1
  have SC := M.1.2.2.2.2.2.2.2
  have cb := M.1.1.1
  have sk := M.2.1
  have s1 := SG.1
  have tyc := ty_c vt
  have T13 : ∀ o : Int, o = (if ty = 301 ∨ ty = 302 then 54 else 58) → Pc (qj_X13_store_13 nn (m 160 50) o m) (fun w => (∀ cc x : Nat, ¬ (cc = 160 ∧ (x = 68 ∨ x = 70)) → ¬ cc = 206 → w cc x = m cc x) ∧ Pc (qf_X13_comes nn (t : Int) (ty_T ty) w) (fun w2 => MKx X PB WL L k3 w2 ∧ ∀ cc x : Nat, ¬ (cc = 160 ∧ (x = 50 ∨ x = 68 ∨ x = 70 ∨ x = 72)) → ¬ (cc = 206 ∨ cc = 196 ∨ cc = 197) → w2 cc x = m cc x)) := fun o eo => by
    unfold qj_X13_store_13
    refine pc_sv (r_put (by omega)) ?_; intro u2 B1
    refine pc_sv (r_local (F := bF X) (by rw [B1.2.2 160 53 (by omega) (by omega)]; exact SC.2.1) (by omega)) ?_; intro u4 q4
    have l68 := B1.1
    refine pc_sv (r_put (by omega)) ?_; intro u6 B2
    refine pc_sub (by rw [B2.2.2 160 70 (by omega) (by omega), B1.2.2 160 70 (by omega) (by omega)]; omega) ?_; intro v8 e8
    refine pc_xl ?_; intro h9 e9
    have M1 : MKx X PB WL L g1 u2 := mk_op M A1 B1 (fun _ => eo) (by unfold in_R; split <;> omega)
    have M2 : MKx X PB WL L g2 u6 := mk_op M1 A2 B2 (fun _ => by rw [q4]; omega) (by unfold in_R; omega)
    have g23 : g2 34 3 = u 34 3 := by rw [A2.2.2 34 3 (by omega) (by omega)]; exact A1.2.2 34 3 (by omega) (by omega)
    have g37 : g3 34 7 = u 34 7 := by rw [A3.2 34 7 (by omega), A2.2.2 34 7 (by omega) (by omega)]; exact A1.2.2 34 7 (by omega) (by omega)
    have M3 : MKx X PB WL L g3 h9 := mk_pop M2 A3 (by omega) (by rw [e9, e8])
    have E9 : ∀ cc x : Nat, ¬ (cc = 160 ∧ (x = 68 ∨ x = 70)) → ¬ cc = 206 → h9 cc x = m cc x := fun cc x q1 q2 => by rw [e9, up_n (by omega), B2.2.2 cc x (by omega) (by omega)]; exact B1.2.2 cc x (by omega) (by omega)
    refine pc_ret ⟨E9, ?_⟩
    unfold qf_X13_comes
    refine pc_sv r_come ?_; intro u2' RC
    refine pc_xl ?_; intro v5 e5
    refine pc_xl ?_; intro h6 e6
    refine pc_ret ⟨mk_loc M3 A4 RC (by rw [e6, e5]) rfl kt (by omega) ⟨vq, n3.2⟩ (fun p k y => by rw [g37]; exact WN p k y), fun cc x q1 q2 => ?_⟩
    rw [e6, up_n (by omega), RC.2.2.2.2 cc x (by omega) (by omega)]
    exact E9 cc x (by omega) (by omega)
  unfold qf_X13_store
  refine pc_if (fun z => T13 58 ?_) (fun z => T13 54 ?_)
  · rw [if_neg (by rcases ty2e with y | y <;> omega)]
  · rw [if_pos (by rcases ty2e with y | y <;> omega)]
theorem c_store {n ty : Int} (hl : 0 ≤ h 34 1 ∧ h 34 1 ≤ 900000) (h3 : 0 ≤ h 34 3 ∧ h 34 3 ≤ 2000000) : Pc (qf_X1_store nn n ty h) (fun u => ∃ g1 g2, COp (if ty = 301 ∨ ty = 302 then 54 else 58) h g1 ∧ COp n g1 g2 ∧ CPo 1 g2 u) := by
  have T15 : ∀ o : Int, Pc (qj_X1_store_15 nn n o h) (fun u => ∃ g1 g2, COp o h g1 ∧ COp n g1 g2 ∧ CPo 1 g2 u) := fun o => by
    unfold qj_X1_store_15
    refine pc_sv (c_op2 (by omega)) ?_; intro u2 ⟨g1, A1, A2⟩
    refine pc_sv (c_pop (by omega) (by rw [A2.2.2 34 3 (by omega) (by omega), A1.2.2 34 3 (by omega) (by omega)]; exact h3)) ?_; intro u4 A3
    exact pc_ret ⟨g1, u2, A1, A2, A3⟩
  unfold qf_X1_store
  refine pc_sv c_isNum ?_; intro u5 q5
  refine pc_if (fun z => ?_) (fun z => ?_)
  · rw [if_neg (show ¬ (ty = 301 ∨ ty = 302) by omega)]; exact T15 58
  · rw [if_pos (show ty = 301 ∨ ty = 302 by omega)]; exact T15 54
theorem s6_tv (Y : CXs X) (Wb : BRw X) (ne : 0 ≤ a ∧ a ≤ s ∧ s < b) (nb : b ≤ 8999) (hd : 0 ≤ d ∧ d ≤ 40) (nd : bT X 167 s.toNat = 2 ∧ bT X 168 s.toNat = (t : Int) ∧ bT X 172 s.toNat = 4 * (p : Int) + 2 * rw ∧ bT X 175 s.toNat = bs ∧ bT X 176 s.toNat = ((t + 1 : Nat) : Int)) (ty : TYk (bK X) (p : Int) (t : Int) bs rw ∧ TYp (bK X) (p : Int)) (kk : bK X t = 2 ∧ bK X (t + 1) = 51) (H : E0 nn X (d + 1) ix (s + 1) b (t + 2) uu (bT X 170 s.toNat)) (ku : bK X uu = 46) (tu : t + 2 < uu) : S6 nn X d a b p (uu + 1) s := by
  intro dc dr h r bb Q U
  have Q0 := Q
  obtain ⟨Qe, ⟨h3, h10, r57, h7⟩, ⟨LP, l54, br⟩, -⟩ := Q0
  have Qe0 := Qe
  obtain ⟨B, ⟨q1, q2, q3, q4⟩, ⟨f1, f2, f3⟩, o1⟩ := Qe0
  have T : ∀ cc y : Nat, ((163 ≤ cc ∧ cc ≤ 173) ∨ cc = 177) → r cc y = bT X cc y := B.2.2.2.2.2.1
  have c3 := Y.1.2.1
  have n8 := Y.2.2.1
  have uc : uu < bc X := tb_lt Y.1 (by omega)
  have u1c : uu + 1 < bc X := jp_lt Y.1 uc (by omega)
  have TK : (bK X p = 10 ∧ bs = 1 ∧ rw = 0 ∧ (t : Int) = (p : Int) + 1) ∨ (((bK X p = 20 ∧ bs = 0) ∨ (bK X p = 2 ∧ bs = 3)) ∧ ((bK X (p + 1) = 44 ∧ bK X (p + 2) = 45 ∧ rw = 1 ∧ (t : Int) = (p : Int) + 3) ∨ (¬ bK X (p + 1) = 44 ∧ rw = 0 ∧ (t : Int) = (p : Int) + 1))) := ty.1
  have kpb : ¬ bK X p = 11 ∧ ¬ bK X p = 14 ∧ ¬ bK X p = 18 ∧ ¬ bK X p = 23 ∧ ¬ bK X p = 24 ∧ ¬ bK X p = 27 ∧ ¬ bK X p = 29 ∧ ¬ bK X p = 31 ∧ ¬ bK X p = 42 := by omega
  have hrw : rw = 0 ∨ rw = 1 := by omega
  have hbs : bs = 0 ∨ bs = 1 ∨ bs = 2 ∨ (bs = 3 ∧ bK X p = 2) := by omega
  have kp3 : bs = 3 → bK X (p : Int).toNat = 2 := fun z => by rw [Int.toNat_natCast]; omega
  have pt : p < t := by omega
  obtain ⟨us1, us2⟩ := U s.toNat (by omega) (by omega)
  cases dc with
  | zero => exact fun _ z => nomatch z
  | succ dc =>
    refine sjc_d Y B.1.1.1.1 q1 q2 q3 (by omega) kpb ?_
    unfold qj_X0_readStatement_217
    refine pc_sv (c_bv1 Y B.1.1.1.1 q1 q2 q3 ty.2) ?_; intro u3 q3'
    refine pc_if (fun z => absurd z (by omega)) (fun _ => ?_)
    refine pc_add (by omega) ?_; intro v8 e8
    rw [e8]
    refine pc_sv (P := fun x => Pc ((qg_X13_ruled nn dr) s r) (fun y => SFj x.2 y.2 ∨ SOk nn X s a b p (uu + 1) bb h r x y)) ?_ (fun x Hx => pc_ck (fun _ => pc_ret Hx))
    unfold qf_X0_readVariable
    -- the rules up to the type
    have R179 : ∀ {Z : Int × ms_M → Prop}, (∀ rc : tq_X13_ruled, (∃ dd, rc = qg_X13_ruled nn dd) → Pc (qj_X13_ruled_179 nn rc s rw (p : Int) bs r) Z) → Pc ((qg_X13_ruled nn dr) s r) Z := fun {Z} HH => by
      cases dr with
      | zero => exact fun _ z => nomatch z
      | succ dr =>
        refine sju_2 q4 ((T 167 _ (by omega)).trans nd.1) ?_
        refine pc_rA ?_; intro _ _ v178 e178
        rw [us1, nd.2.2.2.1] at e178
        refine pc_rA ?_; intro _ _ v180 e180
        rw [T 172 _ (by omega), nd.2.2.1] at e180
        refine pc_xl ?_; intro v181 e181
        refine pc_rA ?_; intro _ _ v183 e183
        rw [T 172 _ (by omega), nd.2.2.1] at e183
        refine pc_xl ?_; intro v184 e184
        rw [Int.tdiv_eq_ediv_of_nonneg (by omega)] at e181
        rw [Int.tmod_eq_emod_of_nonneg (by omega)] at e184
        have H1 := HH (qg_X13_ruled nn dr) ⟨dr, rfl⟩
        rw [e178, show v181 = (p : Int) by omega]
        refine pc_if (fun z => ?_) (fun z => ?_)
        · rw [show rw = 0 by omega] at H1; exact H1
        · rw [show rw = 1 by omega] at H1; exact H1
    refine pc_sv (c_type Y.1 Y.2.1 n8 B.1.1.1.1 B.1.1.1.2.1 B.1.1.2.1 q3 q1 ty.1 (by omega)) ?_; intro u16 q16
    rcases q16 with ⟨TS, t10, E16⟩ | ⟨b3, cl, s1, s2⟩
    · have ts := tys_n Y.2.1 n8 kp3 TS
      have tsv := tys_v Y.2.1 n8 kp3 TS
      generalize ety : u16.1 = tt at TS ts tsv ⊢
      have nv : ¬ tt = 303 := tsv.2.1.elim (fun y => absurd y (by omega)) id
      have B16 : BX X u16.2 r := bx_k B (fun cc x z => E16 cc x (by omega)) (fun _ _ _ => rfl)
      have f16 : u16.2 2 11 = 0 := by rw [E16 2 11 (by omega)]; exact q3
      -- the rules behind the type
      have R209 : ∀ {Z : Int × ms_M → Prop}, (∀ rc : tq_X13_ruled, (∃ dd, rc = qg_X13_ruled nn dd) → Pc (mx_sv (qf_X13_sightOf nn (t : Int) r) fun u135 => if u135 = (-1) then (qj_X13_ruled_209 nn rc s (ty_T tt) r) else (rd_A 9000 168 s r fun v137 => mx_sv (qf_X13_wrong nn 4 v137 r) fun u139 => qj_X13_ruled_209 nn rc s (ty_T tt) u139)) Z) → Pc ((qg_X13_ruled nn dr) s r) Z := fun {Z} HH => by
        refine R179 (fun rc hrc => ?_)
        unfold qj_X13_ruled_179
        refine pc_sv (r_type Y.1 Y.2.1 n8 B.1.1.2.2 q4 hbs hrw) ?_; intro u131 q131
        rcases q131 with ⟨⟨ty3, TS3, e131⟩, e2⟩ | ⟨b3, cl, -⟩
        · have := tys_d TS3 TS
          rw [e131, e2, this]
          refine pc_rA ?_; intro _ _ v133 e133
          rw [T 168 _ (by omega), nd.2.1] at e133
          rw [e133]
          exact HH rc hrc
        · exfalso
          rcases TS with y | y | y | y | ⟨-, c2, c3, c4, -⟩
          · omega
          · omega
          · omega
          · omega
          · rw [Int.toNat_natCast] at c3
            exact c4 (cls_d c3 cl)
      rw [t10]
      have CT : Pc (qf_X0_checkTwice nn (t : Int) u16.2) (fun u => ∃ n : Int, qf_X1_localOf nn (bV X t) u16.2 = some n ∧ ((n = -1 ∧ u = u16.2) ∨ (¬ n = -1 ∧ u 2 11 = 4 ∧ u 2 12 = bP X t))) := by
        unfold qf_X0_checkTwice
        refine pc_sv (c_valueAt Y.1 B16.1.1.1.1 B16.1.1.1.2.1 kk.1 rfl) ?_; intro u4 q4'
        rw [q4']
        refine pc_se ?_; intro u6 e6
        refine pc_if (fun z => pc_ret ⟨u6, e6, .inl ⟨z, rfl⟩⟩) (fun z => ?_)
        refine pc_sv (c_tell B16.1.1.1.1 f16 (t := t) (by omega) rfl) ?_; intro u9 ⟨s9, _⟩
        exact pc_ret ⟨u6, e6, .inr ⟨z, s9.1, s9.2⟩⟩
      refine pc_sv CT ?_; intro u20 ⟨ln, e47, q20⟩
      have JL := j_loc Y.1 B16.1.1.2.2.2.1 B16.2.1 kk.1 rfl rfl ln e47
      rcases q20 with ⟨ln1, e20⟩ | ⟨ln1, s1, s2⟩
      · rw [e20]
        refine pc_add (by omega) ?_; intro v22 e22
        refine pc_xl ?_; intro h23 e23
        rw [show v22 = ((t + 2 : Nat) : Int) by omega] at e23
        have E23 : ∀ cc x : Nat, ¬ (cc = 2 ∧ x = 10) → h23 cc x = h cc x := fun cc x z => by rw [e23, up_n z]; exact E16 cc x z
        have Q23 : EPr X (d + 1) (t + 2) h23 r := epr_in (epr_d Qe (by omega)) E23 (by rw [e23, up_s]) (by omega) (by omega)
        refine pc_sv (se_g Y H (.inr (.inr (.inl ku))) Q23 r57 (by omega) (fun _ => by rw [E23 49 18 (by omega)]; omega) (by omega)) ?_; intro u26 H26
        intro x ex
        refine R209 (fun rc hrc => ?_)
        obtain ⟨dd, erc⟩ := hrc
        refine pc_sv JL ?_; intro u135 L135
        have n135 : u135 = -1 := by
          rcases L135 with y | ⟨y, y1, y2, y3⟩
          · exact y.2
          · omega
        refine pc_if (fun _ => ?_) (fun z => absurd n135 z)
        unfold qj_X13_ruled_209
        refine pc_rA ?_; intro _ _ v120 e120
        rw [T 170 _ (by omega)] at e120
        rw [e120]
        refine pc_sv H26 ?_; intro v hv
        rcases hv with S | ⟨⟨K, n3, FM⟩, SE⟩
        · have FX : Pc (mx_sv (qf_X4_fits nn 12 (u26 49 12) tt u26) fun u31 => if ¬ u31 = 0 then (qj_X0_readVariable_69 nn tt (t : Int) u26) else (xl (oq_add (t : Int) 1) fun v33 => mx_sv (qf_X9_tell nn 6 v33 u26) fun u35 => qj_X0_readVariable_69 nn tt (t : Int) u35)) (fun x => FSc u26 x.2) := by
            refine pc_se ?_; intro u31 _
            refine pc_if (fun _ => fs_qj_X0_readVariable_69 S.1) (fun _ => ?_)
            refine pc_xl ?_; intro v33 _
            refine pc_sv (fs_qf_X9_tell S.1) ?_; intro u35 F
            exact pc_imp (fs_qj_X0_readVariable_69 (fs_n S.1 F)) (fun _ q => fs_t F q)
          have S2 := sf_c S (FX x ex)
          have R244 : ∀ g : ms_M, SFj x.2 g → Pc (qj_X13_ruled_244 nn rc s (ty_T tt) g) (fun y => SFj x.2 y.2 ∨ SOk nn X s a b p (uu + 1) bb h r x y) := fun g Sg => pc_imp (ft_qj_X13_ruled_244 (by rw [erc]; exact ftg_X13_ruled nn dd) (sf_r Sg)) (fun y Fy => .inl ⟨Sg.1, by rw [Fy.1]; exact Sg.2.1, by rw [Fy.2]; exact Sg.2.2⟩)
          refine pc_se ?_; intro u124 _
          refine pc_if (fun _ => R244 v.2 S2) (fun _ => ?_)
          refine pc_rA ?_; intro _ _ v126 _
          refine pc_sv (ft_qf_X13_wrong (sf_r S2)) ?_; intro u128 F6
          exact R244 u128 ⟨S2.1, by rw [F6.1]; exact S2.2.1, by rw [F6.2]; exact S2.2.2⟩
        · obtain ⟨⟨x1, x2, x3, x4, x5⟩, ⟨x6, x7, x8⟩, ⟨x9, x10, x11⟩, ⟨x12, x13, x14⟩, -⟩ := K.1
          have FX := FM (by omega)
          obtain ⟨⟨y1, -⟩, y2⟩ := FX.2.2 (by omega)
          rw [if_neg n3] at y1
          have Bu : BX X u26 v.2 := bx_e Q23.1 x9 x10
          have e1 := E23 34 1 (by omega)
          have e3 := E23 34 3 (by omega)
          have e7 := E23 34 7 (by omega)
          have e8' : v.2 180 = bB X 180 := funext (fun y => Bu.2.2.2.2.2.2.1 180 y (by omega))
          have CE : CFe h u26 := fun cc x a1 a2 a3 a4 a5 a6 a7 a8 => by rw [x9 cc x a1 a2 a3 a4 a5 a6 a7 a8]; exact E23 cc x (by omega)
          have u7 : u26 34 7 = h 34 7 := CE 34 7 (by omega) (by omega) (by omega) (by omega) (by omega) (by omega) (by omega) (by omega)
          have u12' : u26 33 12 = h 33 12 := CE 33 12 (by omega) (by omega) (by omega) (by omega) (by omega) (by omega) (by omega) (by omega)
          have u18 : u26 49 18 = h 49 18 := CE 49 18 (by omega) (by omega) (by omega) (by omega) (by omega) (by omega) (by omega) (by omega)
          rw [x6]
          refine pc_sv (r_fit Y e8' x7 ts.1) ?_; intro u124 q124
          by_cases ft : FTS (bB X 180) (u26 49 12) tt
          · have CC : Pc (mx_sv (qf_X4_fits nn 12 (u26 49 12) tt u26) fun u31 => if ¬ u31 = 0 then (qj_X0_readVariable_69 nn tt (t : Int) u26) else (xl (oq_add (t : Int) 1) fun v33 => mx_sv (qf_X9_tell nn 6 v33 u26) fun u35 => qj_X0_readVariable_69 nn tt (t : Int) u35)) (fun x => ∃ k0 k1 k2 k3, CLa (bV X t) tt u26 k0 ∧ COp (if tt = 301 ∨ tt = 302 then 54 else 58) k0 k1 ∧ COp (h 34 7) k1 k2 ∧ CPo 1 k2 k3 ∧ x = (1, up_M k3 2 10 ((uu + 1 : Nat) : Int))) := by
              refine pc_sv (c_fit Y Bu x7 ts.1) ?_; intro u31 q31
              refine pc_if (fun _ => ?_) (fun z => absurd (yn_1 q31 ft) z)
              unfold qj_X0_readVariable_69
              refine pc_sv (c_valueAt Y.1 Bu.1.1.1.1 Bu.1.1.1.2.1 kk.1 rfl) ?_; intro u5 q5
              rw [q5]
              have s7 := Bu.2.1.1
              refine pc_sv (c_addLocal (by omega)) ?_; intro u7' ⟨n7, A0⟩
              have k1' := A0.2.2.2 34 1 (by omega) (by omega)
              have k3' := A0.2.2.2 34 3 (by omega) (by omega)
              refine pc_sv (c_store (by omega) (by omega)) ?_; intro u9 ⟨g1, g2, A1, A2, A3⟩
              have l10 : u9 2 10 = (uu : Int) := by rw [A3.2 2 10 (by omega), A2.2.2 2 10 (by omega) (by omega), A1.2.2 2 10 (by omega) (by omega), A0.2.2.2 2 10 (by omega) (by omega)]; exact x1
              refine pc_add (by omega) ?_; intro v12 e12
              refine pc_xl ?_; intro h13 e13
              exact pc_ret ⟨u7'.2, g1, g2, u9, A0, A1, by rw [← u7, ← n7]; exact A2, A3, by rw [e13, show v12 = ((uu + 1 : Nat) : Int) by omega]⟩
            obtain ⟨k0, k1, k2, k3, A0, A1, A2, A3, ex2⟩ := CC x ex
            refine pc_if (fun _ => ?_) (fun z => absurd (yn_1 q124 ft) z)
            unfold qj_X13_ruled_244
            refine pc_wA ?_; intro _ _ h114 e114
            have E114 : ∀ cc x : Nat, ¬ (cc = 174 ∧ x = s.toNat) → h114 cc x = v.2 cc x := fun cc x q => by rw [e114, up_n q]
            refine pc_rA ?_; intro _ _ v116 e116
            rw [E114 168 _ (by omega), Bu.2.2.2.2.2.1 168 _ (by omega), nd.2.1] at e116
            rw [e116]
            refine pc_sv r_come ?_; intro u118 RC
            obtain ⟨g1, g2, g3, G1, G2, G3, G4⟩ := cla_swap A0 A1 A2 A3
            have g3E : ∀ cc y : Nat, ¬ ((cc = 34 ∧ (y = 1 ∨ y = 3)) ∨ (cc = 35 ∧ u26 34 1 ≤ (y : Int))) → g3 cc y = u26 cc y := fun cc y q => by
              have l1 := G1.1
              rw [G3.2 cc y (by omega), G2.2.2 cc y (by omega) (by omega)]; exact G1.2.2 cc y (by omega) (by omega)
            have g37 := g3E 34 7 (by omega)
            have g31 : g3 34 1 = u26 34 1 + 2 := by rw [G3.2 34 1 (by omega), G2.1, G1.1]; omega
            have g33 : g3 34 3 = 0 := by rw [G3.1, G2.2.2 34 3 (by omega) (by omega), G1.2.2 34 3 (by omega) (by omega)]; split <;> omega
            have B3 : BX X g3 h114 := bx_k Bu (fun cc x z => g3E cc x (by omega)) (fun cc x z => E114 cc x (by omega))
            have B4 : BX X k3 u118 := bx_loc B3 G4 RC rfl kk.1 (by omega) ⟨ts.1, nv⟩
            generalize ezz : up_M k3 2 10 ((uu + 1 : Nat) : Int) = z at ex2
            have ez := ezz.symm
            have ZK : ∀ cc y : Nat, ¬ (cc = 2 ∧ y = 10) → z cc y = k3 cc y := fun cc y q => by rw [ez, up_n q]
            have ZU : ∀ cc y : Nat, ¬ ((cc = 2 ∧ y = 10) ∨ (cc = 34 ∧ (y = 1 ∨ y = 3 ∨ y = 7 ∨ y = 8)) ∨ (cc = 35 ∧ u26 34 1 ≤ (y : Int)) ∨ ((cc = 37 ∨ cc = 38) ∧ y = (u26 34 7).toNat)) → z cc y = u26 cc y := fun cc y q => by
              rw [ZK cc y (by omega), G4.2.2.2 cc y (by omega) (by omega)]; exact g3E cc y (by omega)
            have z7 : z 34 7 = h 34 7 + 1 := by rw [ZK 34 7 (by omega), G4.1]; omega
            have z1 : z 34 1 = u26 34 1 + 2 := by rw [ZK 34 1 (by omega), G4.2.2.2 34 1 (by omega) (by omega)]; exact g31
            have z3 : z 34 3 = 0 := by rw [ZK 34 3 (by omega), G4.2.2.2 34 3 (by omega) (by omega)]; exact g33
            have z12 : z 33 12 = h 33 12 := by rw [ZU 33 12 (by omega)]; exact u12'
            have Cu : CFs h u26 := cfs_e CE (by have := SE.1.1; omega) (fun x hx => by rw [SE.1.2 x (by omega)]; exact E23 35 x (by omega))
            have Cz : CFs h z := by
              refine cfs_t Cu ⟨fun cc x q => ZU cc x (by omega), ⟨ZU 33 9 (by omega), ZU 33 10 (by omega), by rw [ZU 33 12 (by omega)]; exact Int.le_refl _, by omega⟩, fun x hx => ⟨ZU 37 x (by omega), ZU 38 x (by omega)⟩, ⟨fun x hx => ZU 44 x (by omega), fun x c1 c2 => by have := ZU 33 12 (by omega); omega⟩, by omega, fun x hx => ZU 35 x (by omega)⟩
            have RR : RFz a b r u118 := by
              have R1 : RFz (s + 1) b r v.2 := rfs_e x10 SE.2 ⟨Int.le_refl _, Int.le_refl _⟩
              have R2 : RFz a b v.2 u118 := by
                have h50 := E114 160 50 (by omega)
                refine ⟨fun cc x q => by rw [RC.2.2.2.2 cc x (by omega) (by omega)]; exact E114 cc x (by omega), fun cc x c1 c2 c4 => by rw [RC.2.2.2.2 cc x (by omega) (by omega)]; exact E114 cc x (by omega), ⟨by rw [RC.2.2.2.2 160 54 (by omega) (by omega)]; exact E114 160 54 (by omega), by rw [RC.2.2.2.2 160 57 (by omega) (by omega)]; exact E114 160 57 (by omega), by rw [RC.2.1]; omega⟩, fun x hx => ⟨by rw [RC.2.2.2.2 196 x (by omega) (by omega)]; exact E114 196 x (by omega), by rw [RC.2.2.2.2 197 x (by omega) (by omega)]; exact E114 197 x (by omega)⟩, fun x hx => by rw [RC.2.2.2.2 198 x (by omega) (by omega)]; exact E114 198 x (by omega)⟩
              exact rfs_t R1 R2 ⟨by omega, Int.le_refl _⟩ ⟨Int.le_refl _, Int.le_refl _⟩
            have v98 : u118 198 (r 160 54).toNat = r 198 (r 160 54).toNat := by rw [RC.2.2.2.2 198 _ (by omega) (by omega), E114 198 _ (by omega)]; exact x10.1 198 _ (by omega) (by omega) (by omega)
            have bm := brw_l Wb (p := p) (q := uu + 1) (by omega) u1c
            have u10' : u26 49 10 = 0 := by rw [x11.1, E23 49 10 (by omega)]; exact h10
            refine pc_ret (.inr ?_)
            rw [ex2]
            refine ⟨⟨rfl, .inr rfl⟩, ⟨⟨by show z 2 10 = _; rw [ez, up_s], u1c, by omega, by show z 2 11 = 0; rw [ZU 2 11 (by omega)]; exact x4, by show u118 160 9 = 0; rw [RC.2.2.2.2 160 9 (by omega) (by omega), E114 160 9 (by omega)]; exact x5⟩, ⟨bx_k B4 (fun cc x q => ZK cc x (by omega)) (fun _ _ _ => rfl), Cz, RR⟩, ⟨frc_k x12 (fun cc x q => ZU cc x (by omega)), by show z 34 1 + _ ≤ _; omega, z3, by show z 49 10 = 0; rw [ZU 49 10 (by omega)]; exact u10', by show z 49 18 ≤ _; rw [ZU 49 18 (by omega)]; omega⟩, by show 5 * z 34 7 + _ ≤ _; omega, by show 6 * z 33 12 + _ ≤ _; omega, lpx_k LP Cz.2.1.1 Cz.2.1.2.1 z12 Cz.2.2.2.2.1 Cz.2.1.2.2.2 RR.2.2.1.1 v98⟩, ?_⟩
            intro d2 PB WL L lb lh m I
            obtain ⟨⟨M, AM⟩, ⟨m57, m88, m54, m51⟩, -, WN, CO⟩ := I
            obtain ⟨MT, MTB, -⟩ := mk_t M
            have a174 : m 174 s.toNat = ty_T tt := by
              rw [AM 174 s.toNat (by omega) (by omega) (by omega) (by omega)]
              show u118 174 s.toNat = _
              rw [RC.2.2.2.2 174 _ (by omega) (by omega), e114, up_s]
            cases d2 with
            | zero => exact fun _ z => nomatch z
            | succ d2 =>
              refine sjm_2 ((MT 167 _ (by omega)).trans nd.1) ?_
              refine pc_rA ?_; intro _ _ v51 e51
              rw [MT 170 _ (by omega)] at e51
              rw [e51]
              refine pc_sv (se_m (a := s + 1) (b := b) y2 (mkx_c M (fun cc x q1 q2 q3 => E23 cc x (by omega))) (an_s AM ⟨by omega, Int.le_refl _⟩ (fun cc x c1 c2 c4 c5 => by show u118 cc x = _; rw [RC.2.2.2.2 cc x (by omega) (by omega)]; exact E114 cc x (by omega))) m57 (by omega) (by omega)) ?_; intro w1 ⟨⟨Mw, lw⟩, Fw, Ew⟩
              refine pc_rA ?_; intro _ _ v55 e55
              rw [Ew 174 _ (by omega), a174] at e55
              rw [e55]
              refine pc_sv (m_store (t := t) Mw G1 G2 G3 G4 kk.1 u7.symm (by omega) (by omega) tsv.1 ⟨ts.2, nv⟩ ts.1 (fun p k y => by rw [u7]; exact WN p k y) (by omega) (by omega) (.inl rfl)) ?_; intro w2 ⟨E2, P2⟩
              refine pc_rA ?_; intro _ _ v60 e60
              rw [E2 168 _ (by omega) (by omega), Ew 168 _ (by omega), MT 168 _ (by omega), nd.2.1] at e60
              refine pc_rA ?_; intro _ _ v62 e62
              rw [E2 174 _ (by omega) (by omega), Ew 174 _ (by omega), a174] at e62
              rw [e60, e62]
              refine pc_sv P2 ?_; intro w3 ⟨M3, E3⟩
              have l88 := E3 160 88 (by omega) (by omega)
              exact pc_ret ⟨rfl, mg_nil (mkx_c M3 (fun cc x q1 q2 q3 => by show z cc x = _; exact ZK cc x (by omega))) (mwf_t Fw (mwf_o (fun cc x q => E3 cc x (by omega) (by omega)))) (by show _ ≤ w3 160 88; omega) (by show w3 160 88 + _ ≤ _; omega) z12⟩
          · have CC : Pc (mx_sv (qf_X4_fits nn 12 (u26 49 12) tt u26) fun u31 => if ¬ u31 = 0 then (qj_X0_readVariable_69 nn tt (t : Int) u26) else (xl (oq_add (t : Int) 1) fun v33 => mx_sv (qf_X9_tell nn 6 v33 u26) fun u35 => qj_X0_readVariable_69 nn tt (t : Int) u35)) (fun x => x.2 2 11 = 6 ∧ x.2 2 12 = bP X (t + 1)) := by
              refine pc_sv (c_fit Y Bu x7 ts.1) ?_; intro u31 q31
              refine pc_if (fun z => absurd (yn_0 q31 ft) z) (fun _ => ?_)
              refine pc_add (by omega) ?_; intro v33 e33
              refine pc_sv (c_tell Bu.1.1.1.1 x4 (t := t + 1) (by omega) (by omega)) ?_; intro u35 ⟨s1, _⟩
              exact pc_imp (fs_qj_X0_readVariable_69 (by omega)) (fun x F => ⟨by rw [F.1]; exact s1.1, by rw [F.2]; exact s1.2⟩)
            obtain ⟨s1, s2⟩ := CC x ex
            refine pc_if (fun z => absurd (yn_0 q124 ft) z) (fun _ => ?_)
            refine pc_rA ?_; intro _ _ v126 e126
            rw [x10.2 176 _ (by omega) (by omega) (by omega), us2, nd.2.2.2.2] at e126
            refine pc_sv (r_wrong Bu.1.1.2.2.1 (p := t + 1) (by omega) x5 e126) ?_; intro u128 w1
            refine pc_imp (ft_qj_X13_ruled_244 (by rw [erc]; exact ftg_X13_ruled nn dd) (h := u128) (by omega)) (fun y Fy => ?_)
            exact .inl (sf_mk (c := 6) (pl := bP X (t + 1)) (by decide) s1 s2 (Fy.1.trans w1.1) (Fy.2.trans w1.2))
      · -- the name is there already
        have S20 : ¬ u20 2 11 = 0 := by omega
        refine pc_xl ?_; intro v22 e22
        refine pc_xl ?_; intro h23 e23
        have F23 : FSc u20 h23 := ⟨by rw [e23, up_n (by omega)], by rw [e23, up_n (by omega)]⟩
        refine pc_sv (fs_qf_X10_readWhole (fs_n S20 F23)) ?_; intro u26 F26'
        have F26 := fs_t F23 F26'
        have FX : Pc (mx_sv (qf_X4_fits nn 12 (u26 49 12) tt u26) fun u31 => if ¬ u31 = 0 then (qj_X0_readVariable_69 nn tt (t : Int) u26) else (xl (oq_add (t : Int) 1) fun v33 => mx_sv (qf_X9_tell nn 6 v33 u26) fun u35 => qj_X0_readVariable_69 nn tt (t : Int) u35)) (fun x => FSc u20 x.2) := by
          have S26 := fs_n S20 F26
          refine pc_se ?_; intro u31 _
          refine pc_if (fun _ => pc_imp (fs_qj_X0_readVariable_69 S26) (fun _ q => fs_t F26 q)) (fun _ => ?_)
          refine pc_xl ?_; intro v33 _
          refine pc_sv (fs_qf_X9_tell S26) ?_; intro u35 F
          exact pc_imp (fs_qj_X0_readVariable_69 (fs_n S26 F)) (fun _ q => fs_t F26 (fs_t F q))
        refine pc_imp FX (fun x F => ?_)
        refine R209 (fun rc hrc => ?_)
        obtain ⟨dd, erc⟩ := hrc
        refine pc_sv JL ?_; intro u135 L135
        have n135 : ¬ u135 = -1 := by
          rcases L135 with y | ⟨y, y1, y2, y3⟩
          · exact absurd y.1 ln1
          · omega
        refine pc_if (fun z => absurd z n135) (fun _ => ?_)
        refine pc_rA ?_; intro _ _ v137 e137
        rw [T 168 _ (by omega), nd.2.1] at e137
        refine pc_sv (r_wrong B.1.1.2.2.1 (p := t) (by omega) q4 e137) ?_; intro u139 w1
        refine pc_imp (ft_qj_X13_ruled_209 (by rw [erc]; exact ftg_X13_ruled nn dd) (h := u139) (by omega)) (fun y Fy => ?_)
        exact .inl (sf_mk (c := 4) (pl := bP X t) (by decide) (by rw [F.1]; exact s1) (by rw [F.2]; exact s2) (Fy.1.trans w1.1) (Fy.2.trans w1.2))
    · -- no such class
      have S16 : ¬ u16.2 2 11 = 0 := by omega
      refine pc_sv (fs_qf_X0_checkTwice S16) ?_; intro u20 F20
      refine pc_xl ?_; intro v22 e22
      refine pc_xl ?_; intro h23 e23
      have F23 : FSc u16.2 h23 := fs_t F20 ⟨by rw [e23, up_n (by omega)], by rw [e23, up_n (by omega)]⟩
      refine pc_sv (fs_qf_X10_readWhole (fs_n S16 F23)) ?_; intro u26 F26'
      have F26 := fs_t F23 F26'
      have FX : Pc (mx_sv (qf_X4_fits nn 12 (u26 49 12) u16.1 u26) fun u31 => if ¬ u31 = 0 then (qj_X0_readVariable_69 nn u16.1 (u16.2 2 10) u26) else (xl (oq_add (u16.2 2 10) 1) fun v33 => mx_sv (qf_X9_tell nn 6 v33 u26) fun u35 => qj_X0_readVariable_69 nn u16.1 (u16.2 2 10) u35)) (fun x => FSc u16.2 x.2) := by
        have S26 := fs_n S16 F26
        refine pc_se ?_; intro u31 _
        refine pc_if (fun _ => pc_imp (fs_qj_X0_readVariable_69 S26) (fun _ q => fs_t F26 q)) (fun _ => ?_)
        refine pc_xl ?_; intro v33 _
        refine pc_sv (fs_qf_X9_tell S26) ?_; intro u35 F
        exact pc_imp (fs_qj_X0_readVariable_69 (fs_n S26 F)) (fun _ q => fs_t F26 (fs_t F q))
      refine pc_imp FX (fun x F => ?_)
      refine R179 (fun rc hrc => ?_)
      obtain ⟨dd, erc⟩ := hrc
      unfold qj_X13_ruled_179
      refine pc_sv (r_type Y.1 Y.2.1 n8 B.1.1.2.2 q4 hbs hrw) ?_; intro u131 q131
      rcases q131 with ⟨⟨ty3, TS3, e131⟩, e2⟩ | ⟨b3', cl', w1, w2⟩
      · exfalso
        rcases TS3 with y | y | y | y | ⟨-, c2, c3', c4, -⟩
        · omega
        · omega
        · omega
        · omega
        · rw [Int.toNat_natCast] at c3'
          exact c4 (cls_d c3' cl)
      · have R1 : ¬ u131.2 160 9 = 0 := by omega
        refine pc_rA ?_; intro _ _ v133 _
        refine pc_se ?_; intro u135 _
        have FIN : ∀ g : ms_M, FSr u131.2 g → Pc (qj_X13_ruled_209 nn rc s u131.1 g) (fun y => SFj x.2 y.2 ∨ SOk nn X s a b p (uu + 1) bb h r x y) := fun g Fg => by
          refine pc_imp (ft_qj_X13_ruled_209 (by rw [erc]; exact ftg_X13_ruled nn dd) (h := g) (by rw [Fg.1]; exact R1)) (fun y Fy => ?_)
          exact .inl (sf_mk (c := 5) (pl := bP X p) (by decide) (by rw [F.1]; exact s1) (by rw [F.2]; exact s2) (Fy.1.trans (Fg.1.trans w1)) (Fy.2.trans (Fg.2.trans w2)))
        refine pc_if (fun _ => FIN u131.2 ⟨rfl, rfl⟩) (fun _ => ?_)
        refine pc_rA ?_; intro _ _ v137 _
        refine pc_sv (ft_qf_X13_wrong R1) ?_; intro u139 F6
        exact FIN u139 F6
end
end
section
/- S of both sides: break and continue -/
section
variable {nn : Nat} {X : BCx} {dp i a b a1 b1 a2 b2 e s bb lb lh d o en k ix : Int} {p q t uu : Nat} {h g u r w m z k0 k1 k2 k3 : ms_M} {v : Int × ms_M} {PB : Nat → Prop} {WL : Int → Int → Prop} {L : List (Int × Int)}
theorem pbz_l {Z : List (Int × Int)} (n : ∀ j, ¬ (j, lb) ∈ Z) : PBz PB lb Z = PB := funext fun y => propext ⟨fun q => q.elim id (fun ⟨j, q, _⟩ => absurd q (n j)), .inl⟩
theorem wlz_l {A n' : Int} {Z : List (Int × Int)} (n : ∀ j, ¬ (j, lb) ∈ Z) : WLz WL A n' lb Z = WL := funext fun x => funext fun y => propext ⟨fun q => q.elim id (fun ⟨⟨j, q⟩, _⟩ => absurd q (n j)), .inl⟩
theorem pbz_1 {j : Int} : PBz PB lb [(j, lb)] = fun y => PB y ∨ (y = (j + 1).toNat ∨ y = (j + 2).toNat) := funext fun y => propext ⟨fun q => by
  rcases q with q | ⟨j2, q1, q2⟩
  · exact .inl q
  · have : (j2, lb) = (j, lb) := List.mem_singleton.mp q1
    have e : j2 = j := congrArg Prod.fst this
    rw [e] at q2
    exact .inr q2, fun q => q.elim .inl (fun q => .inr ⟨j, List.mem_singleton.mpr rfl, q⟩)⟩
theorem wlz_1 {A n' j : Int} : WLz WL A n' lb [(j, lb)] = fun q k => WL q k ∨ (q = A ∧ k = n') := funext fun x => funext fun y => propext ⟨fun q => q.elim .inl (fun q => .inr q.2), fun q => q.elim .inl (fun q => .inr ⟨⟨j, List.mem_singleton.mpr rfl⟩, q⟩)⟩
theorem mwf_j (E : MFe m w) (l57 : w 160 57 = m 160 57) : MWf m w := ⟨⟨l57, E.1 160 54 (by omega) (by omega) (by omega), E.1 160 51 (by omega) (by omega) (by omega)⟩, fun cc x q1 q2 => E.1 cc x (by omega) (by omega) (by omega), fun x _ => ⟨E.1 219 x (by omega) (by omega) (by omega), E.1 220 x (by omega) (by omega) (by omega)⟩⟩
/-- a jump that pops nothing -/
theorem mkx_j0 {l : Int} (M : MKx X PB WL L h m) (A : CJu o 0 h g) (B : RJu o l m w) (oR : in_R o) (hl : l ≤ m 160 88) : MKx X PB WL (L ++ [(m 160 68, l)]) g w := by
  have W5 := B.2.2.2.2.2.2
  exact ⟨ma_jump M.1 A B oR hl, sk_jump M.2 A ⟨by omega, by have := M.2.1.2.2.1; omega⟩ (by rw [W5 160 70 (by omega) (by omega) (by omega)]; omega) (fun cc y z => W5 cc y (by omega) (by omega) (by omega))⟩
theorem s6_tl (Y : CXs X) (Wb : BRw X) (ne : 0 ≤ a ∧ a ≤ s ∧ s < b) (nb : b ≤ 8999) (hd : 0 ≤ d ∧ d ≤ 40) (nd : ((bK X p = 11 ∧ bT X 167 s.toNat = 5) ∨ (bK X p = 14 ∧ bT X 167 s.toNat = 6)) ∧ bT X 168 s.toNat = (p : Int)) (kk : bK X (p + 1) = 46) : S6 nn X d a b p (p + 2) s := by
  intro dc dr h r bb Q U
  have Q0 := Q
  obtain ⟨Qe, ⟨h3, h10, r57, h7⟩, ⟨LP, l54, br⟩, -⟩ := Q0
  have Qe0 := Qe
  obtain ⟨B, ⟨q1, q2, q3, q4⟩, ⟨f1, f2, f3⟩, o1⟩ := Qe0
  have T : ∀ cc y : Nat, ((163 ≤ cc ∧ cc ≤ 173) ∨ cc = 177) → r cc y = bT X cc y := B.2.2.2.2.2.1
  have c3 := Y.1.2.1
  have p1c : p + 1 < bc X := jp_lt Y.1 q2 (by omega)
  have p2c : p + 2 < bc X := jp_lt Y.1 p1c (by omega)
  have bm := brw_l Wb (p := p) (q := p + 2) (by omega) p2c
  have bp := Wb.2.2 (p + 2) p2c
  have s7 := B.2.1.1
  -- the class
  have CLS : ∀ {dc2 : Nat} {Z : Int × ms_M → Prop}, Pc (qf_X0_readLeave nn h) Z → (∀ x, Z x → Z (x.1, x.2)) → Pc (qo_X0_readStatement nn (qg_X0_readBlock nn dc2) d h) Z := fun {dc2} {Z} HZ ZE => by
    have W : Pc (qj_X0_readStatement_188 nn (qg_X0_readBlock nn dc2) h) Z := by
      unfold qj_X0_readStatement_188
      exact pc_sv HZ (fun x Hx => pc_ck (fun _ => pc_ret (ZE x Hx)))
    rcases nd.1 with y | y
    · exact sjc_11 Y B.1.1.1.1 q1 q2 q3 (by omega) y.1 W
    · exact sjc_14 Y B.1.1.1.1 q1 q2 q3 (by omega) y.1 W
  have RUL : ∀ {Z : Int × ms_M → Prop}, (∀ rc : tq_X13_ruled, Pc (qj_X13_ruled_444 nn rc s r) Z) → Pc ((qg_X13_ruled nn dr) s r) Z := fun {Z} HZ => by
    cases dr with
    | zero => exact fun _ z => nomatch z
    | succ dr =>
      rcases nd.1 with y | y
      · exact sju_5 q4 ((T 167 _ (by omega)).trans y.2) (HZ _)
      · exact sju_6 q4 ((T 167 _ (by omega)).trans y.2) (HZ _)
  have MAK : ∀ {d2 : Nat} {m : ms_M} {Z : Int × ms_M → Prop}, m 167 s.toNat = bT X 167 s.toNat → (∀ rc : tq_X13_make, Pc (qj_X13_make_305 nn rc s m) Z) → Pc ((qg_X13_make nn d2).1 s m) Z := fun {d2} {m} {Z} e67 HZ => by
    cases d2 with
    | zero => exact fun _ z => nomatch z
    | succ d2 =>
      rcases nd.1 with y | y
      · exact sjm_5 (e67.trans y.2) (HZ _)
      · exact sjm_6 (e67.trans y.2) (HZ _)
  cases dc with
  | zero => exact fun _ z => nomatch z
  | succ dc =>
    refine CLS (dc2 := dc) (Z := fun x => Pc ((qg_X13_ruled nn dr) s r) (fun y => SFj x.2 y.2 ∨ SOk nn X s a b p (p + 2) bb h r x y)) ?_ (fun x Hx => Hx)
    unfold qf_X0_readLeave
    refine pc_if (fun lp => ?_) (fun lp => ?_)
    · -- within a loop
      obtain ⟨lpb, LP2⟩ := LP
      obtain ⟨l0, lA, ln, lB⟩ := LP2.resolve_left (fun y => lp y.2)
      have R444 : ∀ {Z : Int × ms_M → Prop}, (bT X 167 s.toNat = 6 → Z (0, r)) → (bT X 167 s.toNat = 5 → ∀ h88 : ms_M, h88 = up_M r 198 (r 160 54).toNat 1 → Z (0, h88)) → Pc ((qg_X13_ruled nn dr) s r) Z := fun {Z} H1 H2 => by
        refine RUL (fun rc => ?_)
        unfold qj_X13_ruled_444
        refine pc_if (fun _ => ?_) (fun z => absurd (show ¬ r 160 54 = 0 by omega) z)
        refine pc_rA ?_; intro _ _ v85 e85
        rw [T 167 _ (by omega)] at e85
        refine pc_if (fun z => pc_ret (H1 (by omega))) (fun z => ?_)
        refine pc_wZ ?_; intro _ _ h88 e88
        exact pc_ret (H2 (by omega) h88 e88)
      refine pc_sv (c_kind Y.1 B.1.1.1.1 q2 q1 q3) ?_; intro u8 q8
      refine pc_if (fun z8 => ?_) (fun z8 => ?_)
      · -- break
        have kb : bK X p = 11 ∧ bT X 167 s.toNat = 5 := by omega
        have b6 := Wb.2.1 p p2c kb.1
        refine pc_if (fun z => absurd z (by omega)) (fun _ => ?_)
        refine pc_sv (c_jump (by omega) (by omega) (by omega)) ?_; intro u16 ⟨n16, J⟩
        refine pc_wA ?_; intro w1 w2 h17 e17
        have l17 : h17 33 12 = h 33 12 := by rw [e17, up_n (by omega)]; exact J.2.2.2 33 12 (by omega) (by omega)
        refine pc_add (by omega) ?_; intro v19 e19
        refine pc_xl ?_; intro h20 e20
        unfold qj_X0_readLeave_99
        have p20 : h20 2 10 = (p : Int) := by rw [e20, up_n (by omega), e17, up_n (by omega), J.2.2.2 2 10 (by omega) (by omega)]; exact q1
        refine pc_add (by omega) ?_; intro v3 e3
        refine pc_xl ?_; intro z ez
        rw [show v3 = ((p + 2 : Nat) : Int) by omega] at ez
        have ZJ : ∀ cc x : Nat, ¬ ((cc = 2 ∧ x = 10) ∨ (cc = 33 ∧ x = 12) ∨ (cc = 44 ∧ x = (h 33 12).toNat)) → z cc x = u16.2 cc x := fun cc x q => by rw [ez, up_n (by omega), e20, up_n (by omega), e17, up_n (by omega)]
        have ZH : ∀ cc x : Nat, ¬ ((cc = 2 ∧ x = 10) ∨ (cc = 33 ∧ x = 12) ∨ (cc = 44 ∧ x = (h 33 12).toNat) ∨ (cc = 34 ∧ (x = 1 ∨ x = 3)) ∨ (cc = 35 ∧ h 34 1 ≤ (x : Int))) → z cc x = h cc x := fun cc x q => by rw [ZJ cc x (by omega)]; exact J.2.2.2 cc x (by omega) (by omega)
        have z12 : z 33 12 = h 33 12 + 1 := by rw [ez, up_n (by omega), e20, up_s]; omega
        have z44 : z 44 (h 33 12).toNat = h 34 1 := by rw [ez, up_n (by omega), e20, up_n (by omega), e17, up_s]; exact n16
        have z1 : z 34 1 = h 34 1 + 3 := by rw [ZJ 34 1 (by omega)]; exact J.1
        have z3 : z 34 3 = 0 := by rw [ZJ 34 3 (by omega), J.2.1]; split <;> omega
        have z7 := ZH 34 7 (by omega)
        have z9 := ZH 33 9 (by omega)
        have z10 := ZH 33 10 (by omega)
        refine pc_ret (R444 (fun y => absurd y (by omega)) (fun _ h88 e88 => .inr ?_))
        have E88 : ∀ cc x : Nat, ¬ (cc = 198 ∧ x = (r 160 54).toNat) → h88 cc x = r cc x := fun cc x q => by rw [e88, up_n q]
        have Cz : CFs h z := ⟨fun cc x q => ZH cc x (by omega), ⟨z9, z10, by omega, by omega⟩, fun x hx => ⟨ZH 37 x (by omega), ZH 38 x (by omega)⟩, ⟨fun x hx => ZH 44 x (by omega), fun x c1 c2 => by
          rw [show x = (h 33 12).toNat by omega, z44]
          omega⟩, by omega, fun x hx => ZH 35 x (by omega)⟩
        have Rz : RFz a b r h88 := ⟨fun cc x q => E88 cc x (by omega), fun cc x c1 c2 c4 => E88 cc x (by omega), ⟨E88 160 54 (by omega), E88 160 57 (by omega), by rw [E88 160 50 (by omega)]; exact Int.le_refl _⟩, fun x hx => ⟨E88 196 x (by omega), E88 197 x (by omega)⟩, fun x hx => E88 198 x (by omega)⟩
        refine ⟨⟨rfl, .inl rfl⟩, ⟨⟨by show z 2 10 = _; rw [ez, up_s], p2c, by omega, by show z 2 11 = 0; rw [ZH 2 11 (by omega)]; exact q3, by show h88 160 9 = 0; rw [E88 160 9 (by omega)]; exact q4⟩, ⟨bx_k B (fun cc x q => ZH cc x (by omega)) (fun cc x q => E88 cc x (by omega)), Cz, Rz⟩, ⟨frc_k f1 (fun cc x q => ZH cc x (by omega)), by show z 34 1 + _ ≤ _; omega, z3, by show z 49 10 = 0; rw [ZH 49 10 (by omega)]; exact h10, by show z 49 18 ≤ _; rw [ZH 49 18 (by omega)]; omega⟩, by show 5 * z 34 7 + _ ≤ _; omega, by show 6 * z 33 12 + _ ≤ _; omega, ⟨by show 0 ≤ bb ∧ bb ≤ z 33 12; omega, .inr ⟨by show 0 < h88 160 54; rw [E88 160 54 (by omega)]; exact l0, by show 0 ≤ z 33 9 ∧ z 33 9 ≤ z 34 1; omega, by show 0 ≤ z 33 10 ∧ z 33 10 ≤ z 34 7; omega, .inr ⟨?_, by show bb < z 33 12; omega⟩⟩⟩⟩, ?_⟩
        · show h88 198 (h88 160 54).toNat = 1
          rw [E88 160 54 (by omega), e88, up_s]
        · intro d2 PB WL L lb lh m I
          obtain ⟨⟨M, AM⟩, ⟨m57, m88, m54, m51⟩, LB, WN, CO⟩ := I
          obtain ⟨b1, b2, b3, b4⟩ := LB l0
          obtain ⟨MT, MTB, -⟩ := mk_t M
          have cb := M.1.1.1
          refine MAK (MT 167 _ (by omega)) (fun rc => ?_)
          unfold qj_X13_make_305
          refine pc_rA ?_; intro _ _ v7 e7
          rw [MT 167 _ (by omega)] at e7
          refine pc_if (fun z => absurd (show v7 = 5 by omega) z) (fun _ => ?_)
          rw [m54]
          refine pc_rA ?_; intro _ _ v15 e15
          rw [b2] at e15
          rw [e15]
          refine pc_sv (r_jump (by omega)) ?_; intro u17 RJ
          have W5 := RJ.2.2.2.2.2.2
          have M1 : MKx X PB WL (L ++ [(m 160 68, lh)]) u16.2 u17 := mkx_j0 M J RJ (by unfold in_R; omega) b4
          have nl : ∀ j, ¬ (j, lb) ∈ [(m 160 68, lh)] := fun j hj => by
            have e : (j, lb) = (m 160 68, lh) := List.mem_singleton.mp hj
            have : lb = lh := congrArg Prod.snd e
            omega
          have l88 := W5 160 88 (by omega) (by omega) (by omega)
          refine pc_ret ⟨rfl, ⟨[(m 160 68, lh)], ?_, fun e he => .inr (by rw [List.mem_singleton.mp he]), fun y => absurd y (by omega), ?_, fun j hj => absurd hj (nl j)⟩, mwf_o (fun cc x q => W5 cc x (by omega) (by omega) (by omega)), by show _ ≤ u17 160 88; omega, by show u17 160 88 + _ ≤ _; omega⟩
          · rw [pbz_l nl, wlz_l nl]
            exact mk_c M1 (fun cc x q => ZJ cc x (by rcases q with q | q | q <;> first | (unfold RLc at q; omega) | omega))
          · show BRl z (h 33 12) (z 33 12) (if lh = lh then m 160 68 :: [] else [])
            rw [if_pos rfl]
            refine ⟨by show ((1 : Nat) : Int) = _; omega, fun i hi => ?_⟩
            have i0 : i = 0 := by
              have : i < 1 := hi
              omega
            rw [i0, show (h 33 12).toNat + 0 = (h 33 12).toNat by omega, z44]
            show _ = m 160 68
            omega
      · -- continue
        have kc : bK X p = 14 ∧ bT X 167 s.toNat = 6 := by omega
        refine pc_sv (c_jback (by omega) (by omega) (by omega) (by omega) f1) ?_; intro u26 CJ
        obtain ⟨g1, g2, g3, g4, g5⟩ := cjb_f f1 f2.1 CJ
        unfold qj_X0_readLeave_99
        have p26 : u26 2 10 = (p : Int) := by rw [g4 2 10 (by omega) (by omega) (by omega)]; exact q1
        refine pc_add (by omega) ?_; intro v3 e3
        refine pc_xl ?_; intro z ez
        rw [show v3 = ((p + 2 : Nat) : Int) by omega] at ez
        have ZJ : ∀ cc x : Nat, ¬ (cc = 2 ∧ x = 10) → z cc x = u26 cc x := fun cc x q => by rw [ez, up_n q]
        have ZH : ∀ cc x : Nat, ¬ ((cc = 2 ∧ x = 10) ∨ (cc = 34 ∧ (x = 1 ∨ x = 3 ∨ x = 14 ∨ x = 15)) ∨ (cc = 35 ∧ h 34 1 ≤ (x : Int)) ∨ (40 ≤ cc ∧ cc ≤ 42)) → z cc x = h cc x := fun cc x q => by rw [ZJ cc x (by omega)]; exact g4 cc x (by omega) (by omega) (by omega)
        have z1 : z 34 1 = h 34 1 + 3 := by rw [ZJ 34 1 (by omega)]; exact g2
        have z3 : z 34 3 = 0 := by rw [ZJ 34 3 (by omega), g3 (by omega)]; exact h3
        refine pc_ret (R444 (fun _ => .inr ?_) (fun y => absurd y (by omega)))
        refine ⟨⟨rfl, .inl rfl⟩, sk_leaf Q Wb ⟨by show z 2 10 = _; rw [ez, up_s], p2c, by omega, by show z 2 11 = 0; rw [ZH 2 11 (by omega)]; exact q3, q4⟩ (bx_k B (fun cc x q => ZH cc x (by omega)) (fun _ _ _ => rfl)) (cfs_o (fun cc x q => ZH cc x (by omega)) (by show _ ≤ z 34 1; omega)) rfs_r (ZH 33 12 (by omega)) (ZH 34 7 (by omega)) rfl (frc_k g1 (fun cc x q => ZJ cc x (by omega))) (by show z 34 1 + _ ≤ _; omega) z3 (by show z 49 10 = 0; rw [ZH 49 10 (by omega)]; exact h10) (by show z 49 18 ≤ _; rw [ZH 49 18 (by omega)]; omega), ?_⟩
        intro d2 PB WL L lb lh m I
        obtain ⟨⟨M, AM⟩, ⟨m57, m88, m54, m51⟩, LB, WN, CO⟩ := I
        obtain ⟨b1, b2, b3, b4⟩ := LB l0
        obtain ⟨MT, MTB, -⟩ := mk_t M
        have cb := M.1.1.1
        refine MAK (MT 167 _ (by omega)) (fun rc => ?_)
        unfold qj_X13_make_305
        refine pc_rA ?_; intro _ _ v7 e7
        rw [MT 167 _ (by omega)] at e7
        refine pc_if (fun _ => ?_) (fun z => absurd (show ¬ v7 = 5 by omega) z)
        rw [m54]
        refine pc_rA ?_; intro _ _ v10 e10
        rw [b1] at e10
        rw [e10]
        refine pc_sv (pc_and (mk_back M CJ (by omega) (by omega) (by omega) (CO l0) (by omega)) (r_jump (by omega))) ?_; intro u12 ⟨⟨M1, F1, l1⟩, RJ⟩
        refine pc_ret ⟨rfl, ⟨[(m 160 68, lb)], ?_, fun e he => .inl (by rw [List.mem_singleton.mp he]), fun y => absurd y (by omega), ?_, fun j hj => ?_⟩, mwf_j F1 (RJ.2.2.2.2.2.2 160 57 (by omega) (by omega) (by omega)), by show _ ≤ u12 160 88; omega, by show u12 160 88 + _ ≤ _; omega⟩
        · rw [pbz_1, wlz_1]
          exact mkx_c M1 (fun cc x q1 q2 q3 => by show z cc x = _; exact ZJ cc x (by omega))
        · show BRl z (h 33 12) (z 33 12) (if lb = lh then m 160 68 :: [] else [])
          rw [if_neg (by omega), ZH 33 12 (by omega)]
          exact brl_n
        · have e : (j, lb) = (m 160 68, lb) := List.mem_singleton.mp hj
          have e1 : j = m 160 68 := congrArg Prod.fst e
          show AMd z j (h 33 9)
          rw [e1, ← cb.1]
          intro lt
          rw [ZJ 35 _ (by omega), ZJ 35 _ (by omega)]
          exact g5 lt
    · -- no loop
      have n9 : h 33 9 = -1 := Classical.byContradiction lp
      refine pc_sv (c_tell B.1.1.1.1 q3 q2 q1) ?_; intro u32 ⟨s1, _⟩
      unfold qj_X0_readLeave_99
      refine pc_xl ?_; intro v3 _
      refine pc_xl ?_; intro h4 e4
      have r0 : r 160 54 = 0 := by
        rcases LP.2 with y | y
        · exact y.1
        · omega
      refine pc_ret (RUL (fun rc => ?_))
      unfold qj_X13_ruled_444
      refine pc_if (fun z => absurd r0 z) (fun _ => ?_)
      refine pc_rA ?_; intro _ _ v91 e91
      rw [T 168 _ (by omega), nd.2] at e91
      refine pc_sv (r_wrong B.1.1.2.2.1 q2 q4 e91) ?_; intro u93 w1
      exact pc_ret (.inl (sf_mk (c := 7) (pl := bP X p) (by decide) (by show h4 2 11 = 7; rw [e4, up_n (by omega)]; exact s1.1) (by show h4 2 12 = _; rw [e4, up_n (by omega)]; exact s1.2) w1.1 w1.2))
end
end
section
/- S of both sides: one after the other -/
/-- as SKk, perhaps nothing -/
def SKl (X : BCx) (a b : Int) (p q : Nat) (bb : Int) (h r u v : ms_M) : Prop := (u 2 10 = (q : Int) ∧ q < bc X ∧ p ≤ q ∧ u 2 11 = 0 ∧ v 160 9 = 0) ∧ (BX X u v ∧ CFs h u ∧ RFz a b r v) ∧ (FRc u ∧ u 34 1 + 20 * (p : Int) ≤ h 34 1 + 20 * (q : Int) ∧ u 34 3 = 0 ∧ u 49 10 = 0 ∧ u 49 18 ≤ (q : Int)) ∧ 5 * u 34 7 + (p : Int) ≤ 5 * h 34 7 + (q : Int) ∧ 6 * u 33 12 + bP X p ≤ 6 * h 33 12 + bP X q ∧ LPx bb u v
section
variable {nn : Nat} {X : BCx} {dp i a b a1 b1 a2 b2 e s bb lb lh d d1 o en k ix : Int} {p q t uu : Nat} {h g u r w w1 m z v vF : ms_M} {PB : Nat → Prop} {WL : Int → Int → Prop} {L Z1 : List (Int × Int)}
theorem skl_k (K : SKk X a b p q bb h r u v) : SKl X a b p q bb h r u v := ⟨⟨K.1.1, K.1.2.1, by have := K.1.2.2.1; omega, K.1.2.2.2⟩, K.2⟩
theorem skl_0 (Q : SPq X d p bb h r) : SKl X a b p p bb h r h r := ⟨⟨Q.1.2.1.1, Q.1.2.1.2.1, Nat.le_refl _, Q.1.2.1.2.2.1, Q.1.2.1.2.2.2⟩, ⟨Q.1.1, cfs_r, rfs_r⟩, ⟨Q.1.2.2.1.1, Int.le_refl _, Q.2.1.1, Q.2.1.2.1, Q.1.2.2.2.2.2⟩, Int.le_refl _, Int.le_refl _, Q.2.2.1.1⟩
theorem skl_t (A : SKl X a1 b1 p t bb h r g w) (B : SKl X a2 b2 t q bb g w u v) (h1 : a ≤ a1 ∧ b1 ≤ b) (h2 : a ≤ a2 ∧ b2 ≤ b) : SKl X a b p q bb h r u v := by
  obtain ⟨x1, ⟨-, x3, x4⟩, ⟨-, x6, -⟩, x7, x8, -⟩ := A
  obtain ⟨⟨y0, y0', y0'', y0'''⟩, ⟨y2, y3, y4⟩, ⟨y5, y6, y9⟩, y7, y8, y10⟩ := B
  exact ⟨⟨y0, y0', by have := x1.2.2.1; omega, y0'''⟩, ⟨y2, cfs_t x3 y3, rfs_t x4 y4 h1 h2⟩, ⟨y5, by omega, y9⟩, by omega, by omega, y10⟩
theorem spq_n (Q : SPq X d p bb h r) (K : SKl X a b p t bb h r g v) : SPq X d t bb g v := by
  obtain ⟨⟨B, ⟨q1, q2, q3, q4⟩, ⟨f1, f2, f3⟩, o1⟩, ⟨h3, h10, r57, h7⟩, ⟨LP, l54, br⟩, ⟨vR, nR⟩, b51, rR⟩ := Q
  obtain ⟨⟨k1, k2, k3, k4, k5⟩, ⟨k6, k7, k8⟩, ⟨k9, k10, k11, k12, k13⟩, k14, k15, k16⟩ := K
  have c8 : g 33 8 = h 33 8 := k7.1 33 8 (by omega)
  have c51 : v 160 51 = r 160 51 := k8.1 160 51 (by omega)
  have l1 := k7.2.2.2.2.1
  exact ⟨⟨k6, ⟨k1, k2, k4, k5⟩, ⟨k9, ⟨by omega, by omega⟩, by omega, by omega⟩, by omega, by omega, k13⟩, ⟨k11, k12, by rw [k8.2.2.1.2.1]; exact r57, by omega⟩, ⟨k16, by rw [k8.2.2.1.1]; exact l54, by omega⟩, by rw [c8]; exact ⟨vR, nR⟩, by rw [c51]; exact b51, by rw [c51, k8.1 187 _ (by omega), c8]; exact rR⟩
theorem spq_d (Q : SPq X d p bb h r) (hd : d ≤ d1) : SPq X d1 p bb h r := ⟨epr_d Q.1 hd, Q.2.1, ⟨Q.2.2.1.1, by have := Q.2.2.1.2.1; omega, Q.2.2.1.2.2⟩, Q.2.2.2⟩
/-- ahead of what stands behind an S -/
theorem mgi_n (I : MGi X PB WL L lb lh a b p q h r vF m) (LP : LPx bb h r) (K : SKl X a1 b1 p t bb h r g v) (Z : MGz X PB WL L lb lh h r g w1 Z1) (F : MWf m w1 ∧ m 160 88 ≤ w1 160 88 ∧ w1 160 88 + 4 * (p : Int) ≤ m 160 88 + 4 * (t : Int)) (A2 : AN a2 b2 vF w1) : MGi X (PBz PB lb Z1) (WLz WL (h 33 9) (h 33 10) lb Z1) (L ++ Z1) lb lh a2 b2 t q g v vF w1 := by
  obtain ⟨-, ⟨m57, m88, m54, m51⟩, LB, WN, CO⟩ := I
  obtain ⟨-, ⟨-, k7, k8⟩, -⟩ := K
  have v54 := k8.2.2.1.1
  have l7 := k7.2.1.2.2.2
  have LP10 : 0 < r 160 54 → h 33 10 ≤ h 34 7 := fun y => by
    rcases LP.2 with z | z
    · omega
    · exact z.2.2.1.2
  have Z0 : ∀ j, (j, lb) ∈ Z1 → 0 < r 160 54 ∨ r 160 54 < 0 := fun j hj => by
    by_cases y : r 160 54 = 0
    · rw [Z.2.2.1 y] at hj; exact nomatch hj
    · omega
  have LPn : 0 ≤ r 160 54 := by
    rcases LP.2 with z | z <;> omega
  refine ⟨⟨Z.1, A2⟩, ⟨by rw [F.1.1.1]; exact m57, by omega, by rw [F.1.1.2.1, m54, v54], by rw [F.1.1.2.2, m51]; exact (k8.1 160 51 (by omega)).symm⟩, fun y => ?_, fun p' n' y => ?_, fun y k' y2 => ?_⟩
  · rw [v54] at y ⊢
    obtain ⟨b1, b2, b3, b4⟩ := LB y
    have f := F.1.2.2 (r 160 54).toNat (by rw [m54]; omega)
    exact ⟨f.1.trans b1, f.2.trans b2, b3, by omega⟩
  · rcases y with y | ⟨⟨j, y1⟩, y2, y3⟩
    · have := WN p' n' y; omega
    · have := Z0 j y1
      have := LP10 (by omega)
      omega
  · rw [v54] at y
    rw [k7.2.1.1] at y2
    rw [k7.2.1.2.1]
    rcases y2 with y2 | ⟨-, -, y3⟩
    · exact CO y k' y2
    · exact y3
end
end
section
/- S of both sides: BLOCK -/
/-- behind the last S of a BLOCK -/
def S7k (nn : Nat) (X : BCx) (e a b : Int) (p q : Nat) (bb l2 l3 l5 : Int) (h r : ms_M) (x y : Int × ms_M) : Prop := ∃ (en : Int) (g v : ms_M), (en = 0 ∨ en = 1) ∧ x = (en, up_M (up_M g 2 10 ((q + 1 : Nat) : Int)) 34 7 l2) ∧ y = (en, up_M v 160 50 l5) ∧ SKl X a b p q bb h r g v ∧ ∀ (kf : Nat) (had : Int) (d2 : Nat) (PB : Nat → Prop) (WL : Int → Int → Prop) (L : List (Int × Int)) (lb lh : Int) (m : ms_M), MGi X PB WL L lb lh a b p q h r v m → Pc (qw_X13_make_80 nn (qg_X13_make nn d2) kf had l3 e m) (fun w => w.1 = en ∧ ∃ w1, w.2 = up_M w1 160 50 had ∧ MGq X PB WL L lb lh p q h r g m w1)
def S7 (nn : Nat) (X : BCx) (d a b : Int) (p q : Nat) (e : Int) : Prop := ∀ (dc dr k k2 : Nat) (h r : ms_M) (bb l2 l3 l4 l5 : Int), SPq X d p bb h r → UNr X a b r → (l3 = 0 ∨ l3 = 1) → (0 ≤ l4 ∧ l4 ≤ (p : Int)) → Pc (qw_X0_readBlock_26 nn (qg_X0_readBlock nn dc) k d l2 l3 l4 h) (fun x => Pc (qw_X13_ruled_88 nn (qg_X13_ruled nn dr) k2 l5 l3 e r) (fun y => SFj x.2 y.2 ∨ S7k nn X e a b p q bb l2 l3 l5 h r x y))
def S8 (nn : Nat) (X : BCx) (d a b : Int) (p q : Nat) (s : Int) : Prop := ∀ (dc dr : Nat) (h r : ms_M) (bb : Int), SPq X d p bb h r → UNr X a b r → Pc ((qg_X0_readBlock nn dc).1 d h) (fun x => Pc ((qg_X13_ruled nn dr) s r) (fun y => SFj x.2 y.2 ∨ SOk nn X s a b p q bb h r x y))
section
variable {nn : Nat} {X : BCx} {dp i a b a1 b1 a2 b2 e s bb lb lh d d1 o en k ix y0 : Int} {p q t uu : Nat} {h g u r w w1 m z v vF : ms_M} {PB : Nat → Prop} {WL : Int → Int → Prop} {L Z1 : List (Int × Int)}
theorem s7_ln (Y : CXs X) (kp : bK X p = 43) (pc : p + 1 < bc X) : S7 nn X d a b p p (-1) := by
  intro dc dr k k2 h r bb l2 l3 l4 l5 Q U hl h4
  have Q0 := Q
  obtain ⟨⟨B, ⟨q1, q2, q3, q4⟩, ⟨f1, f2, f3⟩, o1⟩, -⟩ := Q0
  have c3 := Y.1.2.1
  cases k with
  | zero => exact fun _ z => nomatch z
  | succ k =>
    unfold qw_X0_readBlock_26
    refine pc_if (fun z => absurd z (by omega)) (fun _ => ?_)
    refine pc_if (fun z => absurd q3 z) (fun _ => ?_)
    refine pc_sv (c_kind Y.1 B.1.1.1.1 q2 q1 q3) ?_; intro u15 q15
    refine pc_if (fun _ => ?_) (fun z => absurd (show u15 = 43 by omega) z)
    unfold qj_X0_readBlock_88
    rw [q1]
    refine pc_add (by omega) ?_; intro v3 e3
    refine pc_xl ?_; intro h4' e4
    refine pc_xl ?_; intro h6 e6
    refine pc_ck (fun _ => pc_ret ?_)
    cases k2 with
    | zero => exact fun _ z => nomatch z
    | succ k2 =>
      unfold qw_X13_ruled_88
      refine pc_if (fun _ => ?_) (fun z => absurd rfl z)
      unfold qj_X13_ruled_140
      refine pc_xl ?_; intro h141 e141
      refine pc_ck (fun _ => pc_ret (.inr ⟨l3, h, r, hl, ?_, ?_, skl_0 Q, fun kf had d2 PB WL L lb lh m I => ?_⟩))
      · rw [e6, e4, show v3 = ((p + 1 : Nat) : Int) by omega]
      · rw [e141]
      · cases kf with
        | zero => exact fun _ z => nomatch z
        | succ kf =>
          unfold qw_X13_make_80
          refine pc_if (fun _ => ?_) (fun z => absurd rfl z)
          refine pc_xl ?_; intro h32 e32
          exact pc_ck (fun _ => pc_ret ⟨rfl, m, e32, mg_nil I.1.1 mwf_r (Int.le_refl _) (Int.le_refl _) rfl⟩)
theorem s7_lc (Y : CXs X) (pc : p + 1 < bc X) (ne : 0 ≤ a ∧ a ≤ e ∧ e < y0 ∧ y0 ≤ b) (n43 : ¬ bK X p = 43) (bg : bT X 169 e.toNat = (p : Int)) (H6 : S6 nn X d a y0 p t e) (H7 : S7 nn X d y0 b t q (bT X 173 e.toNat)) : S7 nn X d a b p q e := by
  intro dc dr k k2 h r bb l2 l3 l4 l5 Q U hl h4
  have Q0 := Q
  obtain ⟨⟨B, ⟨q1, q2, q3, q4⟩, ⟨f1, f2, f3⟩, o1⟩, ⟨h3, h10, r57, h7⟩, ⟨LP, l54, br⟩, -⟩ := Q0
  have T : ∀ cc y : Nat, ((163 ≤ cc ∧ cc ≤ 173) ∨ cc = 177) → r cc y = bT X cc y := B.2.2.2.2.2.1
  have c3 := Y.1.2.1
  have G := fsg_X0_readBlock nn dc
  have Gr : FSrG_X13_ruled (qg_X13_ruled nn dr) := ftg_X13_ruled nn dr
  cases k with
  | zero => exact fun _ z => nomatch z
  | succ k =>
    unfold qw_X0_readBlock_26
    refine pc_if (fun z => absurd z (by omega)) (fun _ => ?_)
    refine pc_if (fun z => absurd q3 z) (fun _ => ?_)
    refine pc_sv (c_kind Y.1 B.1.1.1.1 q2 q1 q3) ?_; intro u15 q15
    refine pc_if (fun z => absurd z (by omega)) (fun _ => ?_)
    refine pc_if (fun z3 => ?_) (fun z3 => ?_)
    · -- it can be reached
      unfold qj_X0_readBlock_76
      refine pc_sv (H6 dc dr h r bb Q (unr_k U ⟨Int.le_refl _, ne.2.2.2⟩ (fun _ _ _ _ _ _ => rfl))) ?_; intro u9 H9
      refine pc_xl ?_; intro v10 e10
      intro x ex
      cases k2 with
      | zero => exact fun _ z => nomatch z
      | succ k2 =>
        unfold qw_X13_ruled_88
        refine pc_if (fun z => absurd z (by omega)) (fun _ => ?_)
        refine pc_if (fun z => absurd q4 z) (fun _ => ?_)
        refine pc_if (fun _ => ?_) (fun z => absurd z3 z)
        refine pc_sv H9 ?_; intro y hy
        unfold qj_X13_ruled_128
        refine pc_rA ?_; intro _ _ v144 e144
        rcases hy with S | ⟨⟨e1, e2⟩, SK, MG⟩
        · have F := fs_qw_X0_readBlock_26 G k d l2 u9.1 v10 u9.2 S.1 x ex
          refine pc_imp (ft_qw_X13_ruled_88 Gr k2 l5 y.1 v144 y.2 (sf_r S)) (fun y2 Fy => .inl ?_)
          exact sf_c ⟨S.1, by rw [Fy.1]; exact S.2.1, by rw [Fy.2]; exact S.2.2⟩ F
        · have SL := skl_k SK
          rw [SK.2.1.1.2.2.2.2.2.1 173 _ (by omega)] at e144
          rw [e144, ← e1]
          have e10' : v10 = l4 + 1 := by rw [e10, oq_add_eq (by omega) (by omega) (by omega)]
          have U7 : UNr X y0 b y.2 := unr_k U ⟨by omega, Int.le_refl _⟩ (fun cc x c1 c2 c4 c5 => SK.2.1.2.2.2.1 cc x (by omega) (by omega) (by omega))
          have W := H7 dc dr k k2 u9.2 y.2 bb l2 u9.1 v10 l5 (spq_n Q SL) U7 e2 (by have := SK.1.2.2.1; omega) x ex
          refine pc_imp W (fun y2 H2 => ?_)
          rcases H2 with S | ⟨en, g, v, k1, k2', k3, k4, k5⟩
          · exact .inl S
          · refine .inr ⟨en, g, v, k1, k2', k3, skl_t SL k4 ⟨Int.le_refl _, ne.2.2.2⟩ ⟨by omega, Int.le_refl _⟩, fun kf had d2 PB WL L lb lh m I => ?_⟩
            cases kf with
            | zero => exact fun _ z => nomatch z
            | succ kf =>
              unfold qw_X13_make_80
              refine pc_if (fun z => absurd z (by omega)) (fun _ => ?_)
              have R7 := k4.2.1.2.2
              have A1 : AN a y0 y.2 m := an_s I.1.2 ⟨Int.le_refl _, ne.2.2.2⟩ (fun cc x c1 c2 c4 c5 => R7.2.1 cc x c1 c2 (by omega))
              have I1 : MGi X PB WL L lb lh a y0 p t h r y.2 m := ⟨⟨I.1.1, A1⟩, ⟨I.2.1.1, by have := I.2.1.2.1; have := k4.1.2.2.1; omega, I.2.1.2.2⟩, I.2.2⟩
              refine pc_sv (MG d2 PB WL L lb lh m I1) ?_; intro w ⟨wen, ⟨Z1, MZ⟩, Fw⟩
              refine pc_rA ?_; intro _ _ v37 e37
              rw [MZ.1.1.2.2.2.2.2.2.2.2.2.2.2 173 _ (by omega)] at e37
              rw [e37, wen]
              have I2 := mgi_n (a2 := y0) (b2 := b) I LP SL MZ Fw (an_m (an_s I.1.2 ⟨by omega, Int.le_refl _⟩ (fun _ _ _ _ _ _ => rfl)) (fun cc x c1 c2 => Fw.1.2.1 cc x c1 c2))
              have c9 := SK.2.1.2.1.2.1
              have c0 : 0 ≤ h 33 12 := by have := LP.1; omega
              refine pc_imp (k5 kf had d2 _ _ _ lb lh w.2 I2) (fun w2 y3 => ?_)
              obtain ⟨z1, w3, z2, z3'⟩ := y3
              exact ⟨z1, w3, z2, mg_seq MZ Fw SK.2.1.2.2.2.2.1.1 k4.2.1.2.1 ⟨c9.1, c9.2.1⟩ c0 z3'⟩
    · -- dead
      have l30 : l3 = 0 := Classical.byContradiction z3
      refine pc_sv (c_tell B.1.1.1.1 q3 q2 q1) ?_; intro u20 ⟨s1, _⟩
      refine pc_imp (fs_qj_X0_readBlock_76 G (fun z0 z1 z2 z3 z4 S4 => fs_qw_X0_readBlock_26 G k z0 z1 z2 z3 z4 S4) (h := u20) (by omega)) (fun x F => ?_)
      cases k2 with
      | zero => exact fun _ z => nomatch z
      | succ k2 =>
        unfold qw_X13_ruled_88
        refine pc_if (fun z => absurd z (by omega)) (fun _ => ?_)
        refine pc_if (fun z => absurd q4 z) (fun _ => ?_)
        refine pc_if (fun z => absurd l30 z) (fun _ => ?_)
        refine pc_rA ?_; intro _ _ v149 e149
        rw [T 169 _ (by omega), bg] at e149
        refine pc_sv (r_wrong B.1.1.2.2.1 q2 q4 e149) ?_; intro u151 w1
        unfold qj_X13_ruled_128
        refine pc_rA ?_; intro _ _ v144 _
        refine pc_imp (ft_qw_X13_ruled_88 Gr k2 l5 l3 v144 u151 (by omega)) (fun y Fy => .inl ?_)
        exact sf_mk (c := 9) (pl := bP X p) (by decide) (by rw [F.1]; exact s1.1) (by rw [F.2]; exact s1.2) (Fy.1.trans w1.1) (Fy.2.trans w1.2)
end
end
section
/- S of both sides: BLOCK, whole -/
section
variable {nn : Nat} {X : BCx} {dp i a b a1 b1 a2 b2 e s bb lb lh d d1 o en k ix y0 : Int} {p q t uu : Nat} {h g u r w w1 m z v vF : ms_M} {PB : Nat → Prop} {WL : Int → Int → Prop} {L Z1 : List (Int × Int)}
theorem lpx_s {l : Int} (P : LPx bb h r) (P2 : LPx bb g v) (e9 : z 33 9 = h 33 9) (e10 : z 33 10 = h 33 10) (g9 : g 33 9 = h 33 9) (g10 : g 33 10 = h 33 10) (e12 : z 33 12 = g 33 12) (l1 : g 34 1 ≤ z 34 1) (l7 : h 34 7 ≤ z 34 7) (v54 : w 160 54 = v 160 54) (v98 : w 198 (v 160 54).toNat = v 198 (v 160 54).toNat) (h54 : v 160 54 = r 160 54) : LPx bb z w := by
  obtain ⟨p1, p2⟩ := P
  obtain ⟨q1, q2⟩ := P2
  refine ⟨by omega, ?_⟩
  rw [v54, v98, e9, e10, e12]
  rw [g9, g10] at q2
  rcases q2 with y | ⟨y1, y2, y3, y4⟩
  · exact .inl y
  · rcases p2 with z | ⟨z1, z2, z3, z4⟩
    · omega
    · exact .inr ⟨y1, by omega, by omega, y4⟩
/-- variables go out of sight behind an S -/
theorem sk_out (Q : SPq X d p bb h r) (Wb : BRw X) (K : SKl X a b p q bb h r g v) (ez : ∀ cc x : Nat, ¬ ((cc = 2 ∧ x = 10) ∨ (cc = 34 ∧ x = 7)) → z cc x = g cc x) (z7 : z 34 7 = h 34 7) (z10 : z 2 10 = (uu : Int)) (ew : w = up_M v 160 50 (r 160 50)) (qu : q ≤ uu ∧ uu < bc X ∧ p < uu) : SKk X a b p uu bb h r z w := by
  obtain ⟨⟨B, -, -, -⟩, -, ⟨LP, l54, br⟩, -⟩ := Q
  obtain ⟨⟨k1, k2, k3, k4, k5⟩, ⟨k6, k7, k8⟩, ⟨k9, k10, k11, k12, k13⟩, k14, k15, k16⟩ := K
  have bm := brw_l Wb (p := q) (q := uu) (by omega) (by omega)
  have E2 : ∀ cc x : Nat, ¬ (cc = 160 ∧ x = 50) → w cc x = v cc x := fun cc x q => by rw [ew, up_n q]
  have z1 := ez 34 1 (by omega)
  have z12 := ez 33 12 (by omega)
  have s1 := B.2.1.1
  have BZ : BX X z w := by
    have B1 : BX X (up_M g 34 7 (h 34 7)) w := bx_sight k6 rfl ew (by omega) (by omega) k7.2.1.2.2.2
    exact bx_k B1 (fun cc x q => by
      by_cases y : cc = 34 ∧ x = 7
      · rw [y.1, y.2, up_s]; exact z7
      · rw [up_n y]; exact ez cc x (by omega)) (fun _ _ _ => rfl)
  refine ⟨⟨z10, by omega, by omega, by rw [ez 2 11 (by omega)]; exact k4, by rw [E2 160 9 (by omega)]; exact k5⟩, ⟨BZ, ?_, ?_⟩, ⟨frc_k k9 (fun cc x q => ez cc x (by omega)), by omega, by rw [ez 34 3 (by omega)]; exact k11, by rw [ez 49 10 (by omega)]; exact k12, by rw [ez 49 18 (by omega)]; omega⟩, by omega, by omega, ?_⟩
  · obtain ⟨a1, ⟨a2, a3, a4, a5⟩, a6, a7, a8, a9⟩ := k7
    exact ⟨fun cc x q => by rw [ez cc x (by omega)]; exact a1 cc x q, ⟨by rw [ez 33 9 (by omega)]; exact a2, by rw [ez 33 10 (by omega)]; exact a3, by omega, by omega⟩, fun x hx => ⟨by rw [ez 37 x (by omega)]; exact (a6 x hx).1, by rw [ez 38 x (by omega)]; exact (a6 x hx).2⟩, ⟨fun x hx => by rw [ez 44 x (by omega)]; exact a7.1 x hx, fun x c1 c2 => by
      have y := a7.2 x c1 (by omega)
      rw [ez 44 x (by omega)]; omega⟩, by omega, fun x hx => by rw [ez 35 x (by omega)]; exact a9 x hx⟩
  · obtain ⟨a1, a2, ⟨a3, a4, a5⟩, a6, a7⟩ := k8
    exact ⟨fun cc x q => by rw [E2 cc x (by omega)]; exact a1 cc x q, fun cc x c1 c2 c4 => by rw [E2 cc x (by omega)]; exact a2 cc x c1 c2 c4, ⟨by rw [E2 160 54 (by omega)]; exact a3, by rw [E2 160 57 (by omega)]; exact a4, by rw [ew, up_s]; exact Int.le_refl _⟩, fun x hx => ⟨by rw [E2 196 x (by omega)]; exact (a6 x hx).1, by rw [E2 197 x (by omega)]; exact (a6 x hx).2⟩, fun x hx => by rw [E2 198 x (by omega)]; exact a7 x hx⟩
  · exact lpx_s (l := 0) LP k16 (by rw [ez 33 9 (by omega)]; exact k7.2.1.1) (by rw [ez 33 10 (by omega)]; exact k7.2.1.2.1) k7.2.1.1 k7.2.1.2.1 z12 (by omega) (by omega) (E2 160 54 (by omega)) (E2 198 _ (by omega)) k8.2.2.1.1
/-- .. and in the making -/
theorem mg_out {w0 : ms_M} (G : MGq X PB WL L lb lh p q h r g m w0) (MI : MKx X PB WL L h m) (Cf : CFs h g) (ez : ∀ cc x : Nat, ¬ ((cc = 2 ∧ (x = 10 ∨ x = 11 ∨ x = 12)) ∨ (cc = 34 ∧ x = 7)) → z cc x = g cc x) (z7 : z 34 7 = h 34 7) (ew : w = up_M w0 160 50 (m 160 50)) (pq : q ≤ uu) : MGq X PB WL L lb lh p uu h r z m w := by
  obtain ⟨⟨Z, M, y1, y2, y3, y4⟩, F, l1, l2⟩ := G
  have E2 : ∀ cc x : Nat, ¬ (cc = 160 ∧ x = 50) → w cc x = w0 cc x := fun cc x q => by rw [ew, up_n q]
  have s1 := MI.1.2.2.2.1.1
  have M1 : MKx X (PBz PB lb Z) (WLz WL (h 33 9) (h 33 10) lb Z) (L ++ Z) (up_M g 34 7 (h 34 7)) w := mk_sight M rfl ew (by omega) (by omega) Cf.2.1.2.2.2
  have M2 : MKx X (PBz PB lb Z) (WLz WL (h 33 9) (h 33 10) lb Z) (L ++ Z) z w := mkx_c M1 (fun cc x q1 q2 q3 => by
    by_cases y : cc = 34 ∧ x = 7
    · rw [y.1, y.2, up_s]; exact z7
    · rw [up_n y]; exact ez cc x (by omega))
  refine ⟨⟨Z, M2, y1, y2, ⟨by rw [ez 33 12 (by omega)]; exact y3.1, fun i hi => by rw [ez 44 _ (by omega)]; exact y3.2 i hi⟩, fun j hj lt => by rw [ez 35 _ (by omega), ez 35 _ (by omega)]; exact y4 j hj lt⟩, mwf_t F (mwf_o (fun cc x q => E2 cc x (by omega))), by rw [E2 160 88 (by omega)]; exact l1, by rw [E2 160 88 (by omega)]; omega⟩
theorem s8_bk (Y : CXs X) (Wb : BRw X) (ne : 0 ≤ a ∧ a ≤ s ∧ s < b) (nd : bT X 167 s.toNat = 1) (kp : bK X p = 42) (H : S7 nn X d (s + 1) b (p + 1) t (bT X 170 s.toNat)) (kt : bK X t = 43) (pt : p + 1 ≤ t) : S8 nn X d a b p (t + 1) s := by
  intro dc dr h r bb Q U
  have Q0 := Q
  obtain ⟨Qe, ⟨h3, h10, r57, h7⟩, ⟨LP, l54, br⟩, -⟩ := Q0
  have Qe0 := Qe
  obtain ⟨B, ⟨q1, q2, q3, q4⟩, ⟨f1, f2, f3⟩, o1⟩ := Qe0
  have T : ∀ cc y : Nat, ((163 ≤ cc ∧ cc ≤ 173) ∨ cc = 177) → r cc y = bT X cc y := B.2.2.2.2.2.1
  have c3 := Y.1.2.1
  have tc : t < bc X := tb_lt Y.1 (by omega)
  have t1c : t + 1 < bc X := jp_lt Y.1 tc (by omega)
  have bm := brw_l Wb (p := p) (q := p + 1) (by omega) (by omega)
  cases dc with
  | zero => exact fun _ z => nomatch z
  | succ dc =>
    show Pc (qo_X0_readBlock nn (qg_X0_readBlock nn dc) d h) _
    unfold qo_X0_readBlock
    rw [q1]
    refine pc_add (by omega) ?_; intro v29 e29
    refine pc_xl ?_; intro h30 e30
    have E30 : ∀ cc x : Nat, ¬ (cc = 2 ∧ x = 10) → h30 cc x = h cc x := fun cc x z => by rw [e30, up_n z]
    have Qe30 : EPr X d (p + 1) h30 r := epr_in Qe E30 (by rw [e30, up_s]; omega) (by omega) (by omega)
    have Q30 : SPq X d (p + 1) bb h30 r := by
      refine ⟨Qe30, ⟨by rw [E30 34 3 (by omega)]; exact h3, by rw [E30 49 10 (by omega)]; exact h10, r57, by rw [E30 34 7 (by omega)]; omega⟩, ⟨lpx_k LP (E30 33 9 (by omega)) (E30 33 10 (by omega)) (E30 33 12 (by omega)) (by rw [E30 34 1 (by omega)]; exact Int.le_refl _) (by rw [E30 34 7 (by omega)]; exact Int.le_refl _) rfl rfl, l54, by rw [E30 33 12 (by omega)]; omega⟩, ?_⟩
      rw [E30 33 8 (by omega)]
      exact Q.2.2.2
    have C30 : CFs h h30 := cfs_o (fun cc x q => E30 cc x (by omega)) (by rw [E30 34 1 (by omega)]; exact Int.le_refl _)
    intro x ex
    cases dr with
    | zero => exact fun _ z => nomatch z
    | succ dr =>
      refine sju_1 q4 ((T 167 _ (by omega)).trans nd) ?_
      refine pc_rA ?_; intro _ _ v176 e176
      rw [T 170 _ (by omega)] at e176
      rw [e176]
      refine pc_imp (H dc dr nn nn h30 r bb (h 34 7) 1 0 (r 160 50) Q30 (unr_k U ⟨by omega, Int.le_refl _⟩ (fun _ _ _ _ _ _ => rfl)) (.inr rfl) (by omega) x ex) (fun y Hy => ?_)
      rcases Hy with S | ⟨en, g, v, k1, k2, k3, k4, k5⟩
      · exact .inl S
      · -- h in place of h30
        have KL : SKl X (s + 1) b p t bb h r g v := by
          obtain ⟨⟨j1, j2, j3, j4⟩, ⟨j5, j6, j7⟩, ⟨j8, j9, j10⟩, j11, j12, j13⟩ := k4
          have e1 := E30 34 1 (by omega)
          have e7 := E30 34 7 (by omega)
          have e12 := E30 33 12 (by omega)
          exact ⟨⟨j1, j2, by omega, j4⟩, ⟨j5, cfs_t C30 j6, j7⟩, ⟨j8, by omega, j10⟩, by omega, by omega, j13⟩
        have KA : SKl X a b p t bb h r g v := ⟨KL.1, ⟨KL.2.1.1, KL.2.1.2.1, rfs_t (a := a) (b := b) rfs_r KL.2.1.2.2 ⟨Int.le_refl _, Int.le_refl _⟩ ⟨by omega, Int.le_refl _⟩⟩, KL.2.2⟩
        have pt2 := KL.1.2.2.1
        generalize ezz : up_M (up_M g 2 10 ((t + 1 : Nat) : Int)) 34 7 (h 34 7) = z at k2
        have ez := ezz.symm
        have EZ : ∀ cc x : Nat, ¬ ((cc = 2 ∧ x = 10) ∨ (cc = 34 ∧ x = 7)) → z cc x = g cc x := fun cc x q => by rw [ez, up_n (by omega), up_n (by omega)]
        have z7 : z 34 7 = h 34 7 := by rw [ez, up_s]
        refine .inr ?_
        rw [k2, k3]
        refine ⟨⟨rfl, k1⟩, sk_out Q Wb KA EZ z7 (by show z 2 10 = _; rw [ez, up_n (by omega), up_s]) rfl (by omega), ?_⟩
        intro d2 PB WL L lb lh m I
        obtain ⟨⟨M, AM⟩, ⟨m57, m88, m54, m51⟩, LB, WN, CO⟩ := I
        have MT := (mk_t M).1
        cases d2 with
        | zero => exact fun _ z => nomatch z
        | succ d2 =>
          refine sjm_1 ((MT 167 _ (by omega)).trans nd) ?_
          refine pc_rA ?_; intro _ _ v49 e49
          rw [MT 170 _ (by omega)] at e49
          rw [e49]
          have I30 : MGi X PB WL L lb lh (s + 1) b (p + 1) t h30 r v m := ⟨⟨mkx_c M (fun cc x q1 q2 q3 => E30 cc x (by omega)), an_s AM ⟨by omega, Int.le_refl _⟩ (fun cc x c1 c2 c4 c5 => by show up_M v 160 50 (r 160 50) cc x = _; rw [up_n (by omega)])⟩, ⟨m57, by omega, m54, m51⟩, LB, by rw [E30 34 7 (by omega)]; exact WN, by rw [E30 33 9 (by omega), E30 33 10 (by omega)]; exact CO⟩
          refine pc_imp (k5 nn (m 160 50) d2 PB WL L lb lh m I30) (fun w2 y3 => ?_)
          obtain ⟨z1, w3, z2, z3⟩ := y3
          refine ⟨z1, ?_⟩
          rw [z2]
          have G3 : MGq X PB WL L lb lh p t h r g m w3 := by
            obtain ⟨⟨Z, b1, b2, b3, b4, b5⟩, F, l1, l2⟩ := z3
            rw [E30 33 9 (by omega), E30 33 10 (by omega)] at b1
            rw [E30 33 12 (by omega)] at b4
            rw [E30 33 9 (by omega)] at b5
            exact ⟨⟨Z, b1, b2, b3, b4, b5⟩, F, l1, by omega⟩
          exact mg_out G3 M KA.2.1.2.1 (fun cc x q => EZ cc x (by omega)) z7 rfl (by omega)
theorem s6_tb (Y : CXs X) (hd : 0 ≤ d ∧ d ≤ 40) (kp : bK X p = 42) (H : S8 nn X (d + 1) a b p q s) : S6 nn X d a b p q s := by
  intro dc dr h r bb Q U
  have Q0 := Q
  obtain ⟨⟨B, ⟨q1, q2, q3, q4⟩, -, -⟩, -⟩ := Q0
  cases dc with
  | zero => exact fun _ z => nomatch z
  | succ dc =>
    refine sjc_42 Y B.1.1.1.1 q1 q2 q3 (by omega) kp ?_
    refine pc_add (by omega) ?_; intro v43 e43
    rw [e43]
    exact pc_sv (H dc dr h r bb (spq_d Q (by omega)) U) (fun x Hx => pc_ck (fun _ => pc_ret Hx))
end
end
section
/- S of both sides: what if, while and try stand on -/
def MGy (lb lh : Int) (h r u : ms_M) (Z : List (Int × Int)) : Prop := (∀ e ∈ Z, e.2 = lb ∨ e.2 = lh) ∧ (r 160 54 = 0 → Z = []) ∧ BRl u (h 33 12) (u 33 12) (pl_L lh Z) ∧ (∀ j, (j, lb) ∈ Z → AMd u j (h 33 9)) ∧ ∀ j, (j, lb) ∈ Z → 0 ≤ j ∧ j + 3 ≤ u 34 1
section
variable {nn : Nat} {X : BCx} {dp i a b a1 b1 a2 b2 e s bb lb lh d d1 o en k ix y0 f x j l : Int} {p q t uu : Nat} {h g u r w w1 w2 m z v vF : ms_M} {PB PB2 : Nat → Prop} {WL WL2 : Int → Int → Prop} {L L2 Z1 Z : List (Int × Int)}
theorem mgy_of (G : MGz X PB WL L lb lh h r u w Z) : MGy lb lh h r u Z := ⟨G.2.1, G.2.2.1, G.2.2.2.1, G.2.2.2.2, fun j hj => by
  have jb := (jlb_m G.1.1.2.1.2).1 (j, lb) (List.mem_append_right _ hj)
  have jb : 0 ≤ j ∧ j + 3 ≤ w 160 68 ∧ lb ≤ w 160 88 := jb
  have c1 := G.1.1.1.1
  omega⟩
theorem mgy_k (G : MGy lb lh h r g Z) (C : CFs g u) (e12 : u 33 12 = g 33 12) (c0 : 0 ≤ h 33 12) : MGy lb lh h r u Z := by
  obtain ⟨y1, y2, y3, y4, y5⟩ := G
  have l1 := C.2.2.2.2.1
  refine ⟨y1, y2, ⟨by rw [e12]; exact y3.1, fun i hi => ?_⟩, fun j hj lt => ?_, fun j hj => by have := y5 j hj; omega⟩
  · rw [C.2.2.2.1.1 _ (by have := y3.1; omega)]; exact y3.2 i hi
  · have jb := y5 j hj
    rw [C.2.2.2.2.2 _ (by omega), C.2.2.2.2.2 _ (by omega)]
    exact y4 j hj lt
theorem mg_seq2 (A : MGy lb lh h r g Z1) (A2 : MWf m w1 ∧ m 160 88 ≤ w1 160 88 ∧ w1 160 88 + 4 * (p : Int) ≤ m 160 88 + 4 * (t : Int)) (e54 : v 160 54 = r 160 54) (C : CFs g u) (c9 : g 33 9 = h 33 9 ∧ g 33 10 = h 33 10) (c0 : 0 ≤ h 33 12) (B : MGq X (PBz PB lb Z1) (WLz WL (h 33 9) (h 33 10) lb Z1) (L ++ Z1) lb lh t q g v u w1 w) : MGq X PB WL L lb lh p q h r u m w := by
  obtain ⟨⟨Z2, M2, z1, z2, z3, z4⟩, F, l1, l2⟩ := B
  obtain ⟨y1, y2, y3, y4, y5⟩ := A
  rw [c9.1, c9.2] at M2
  rw [pbz_a, wlz_a, List.append_assoc] at M2
  refine ⟨⟨Z1 ++ Z2, M2, fun e he => (List.mem_append.mp he).elim (y1 e) (z1 e), fun z => by rw [y2 z, z2 (by omega)]; rfl, by rw [pl_app]; exact brl_app y3 z3 c0 C.2.2.2.1.1, fun j hj => ?_⟩, mwf_t A2.1 F, by omega, by omega⟩
  rcases List.mem_append.mp hj with hj | hj
  · have jb := y5 j hj
    intro lt
    rw [C.2.2.2.2.2 _ (by omega), C.2.2.2.2.2 _ (by omega)]
    exact y4 j hj lt
  · rw [← c9.1]; exact z4 j hj
theorem mgi_n2 (I : MGi X PB WL L lb lh a b p q h r vF m) (LP : LPx bb h r) (k7 : CFs h g) (k8 : RFz a1 b1 r v) (M : MKx X (PBz PB lb Z1) (WLz WL (h 33 9) (h 33 10) lb Z1) L2 g w1) (Zy : r 160 54 = 0 → Z1 = []) (F : MWf m w1 ∧ m 160 88 ≤ w1 160 88 ∧ w1 160 88 + 4 * (p : Int) ≤ m 160 88 + 4 * (t : Int)) (A2 : AN a2 b2 vF w1) (uq : uu ≤ q) : MGi X (PBz PB lb Z1) (WLz WL (h 33 9) (h 33 10) lb Z1) L2 lb lh a2 b2 t uu g v vF w1 := by
  obtain ⟨-, ⟨m57, m88, m54, m51⟩, LB, WN, CO⟩ := I
  have v54 := k8.2.2.1.1
  have l7 := k7.2.1.2.2.2
  have LP10 : 0 < r 160 54 → h 33 10 ≤ h 34 7 := fun y => by
    rcases LP.2 with z | z
    · omega
    · exact z.2.2.1.2
  have Z0 : ∀ j, (j, lb) ∈ Z1 → 0 < r 160 54 ∨ r 160 54 < 0 := fun j hj => by
    by_cases y : r 160 54 = 0
    · rw [Zy y] at hj; exact nomatch hj
    · omega
  have LPn : 0 ≤ r 160 54 := by
    rcases LP.2 with z | z <;> omega
  refine ⟨⟨M, A2⟩, ⟨by rw [F.1.1.1]; exact m57, by omega, by rw [F.1.1.2.1, m54, v54], by rw [F.1.1.2.2, m51]; exact (k8.1 160 51 (by omega)).symm⟩, fun y => ?_, fun p' n' y => ?_, fun y k' y2 => ?_⟩
  · rw [v54] at y ⊢
    obtain ⟨b1, b2, b3, b4⟩ := LB y
    have f := F.1.2.2 (r 160 54).toNat (by rw [m54]; omega)
    exact ⟨f.1.trans b1, f.2.trans b2, b3, by omega⟩
  · rcases y with y | ⟨⟨j, y1⟩, y2, y3⟩
    · have := WN p' n' y; omega
    · have := Z0 j y1
      have := LP10 (by omega)
      omega
  · rw [v54] at y
    rw [k7.2.1.1] at y2
    rw [k7.2.1.2.1]
    rcases y2 with y2 | ⟨-, -, y3⟩
    · exact CO y k' y2
    · exact y3
theorem hs_z (y1 : ∀ e ∈ Z, e.2 = lb ∨ e.2 = lh) (n : ¬ f = lb ∧ ¬ f = lh) : ¬ hs_L f Z := fun y => by
  obtain ⟨j, hj⟩ := (hs_mem Z).mp y
  have y : f = lb ∨ f = lh := y1 (j, f) hj
  omega
theorem cah_o {n0 : Int} (Fc : FRc g) (hj : n0 ≤ j ∨ j = -1) (n00 : 0 ≤ n0) (A : CAH j g z) : (∀ cc x : Nat, ¬ (cc = 35 ∧ n0 ≤ (x : Int)) → ¬ (40 ≤ cc ∧ cc ≤ 42) → ¬ (cc = 34 ∧ (x = 14 ∨ x = 15)) → z cc x = g cc x) ∧ ∀ x : Nat, ¬ x = (j + 1).toNat → ¬ x = (j + 2).toNat → z 35 x = g 35 x := by
  have A0 := A
  obtain ⟨g1, s, g2, CA, SL, FL⟩ := A
  have E := (cah_fr Fc A0).2
  have F1 : FRc g1 := frc_k Fc (fun cc y z => CA.2 cc y (fun y => by omega))
  obtain ⟨K3, -⟩ := sl_sk F1 SL
  have Z35 : ∀ x : Nat, z 35 x = g1 35 x := fun x => by
    rcases FL with ⟨-, -, a3⟩ | ⟨-, -, a3⟩
    · rw [a3 35 x (by omega)]; exact K3 35 x (by omega) (by omega) (by omega)
    · rw [a3 35 x (by omega)]; exact K3 35 x (by omega) (by omega) (by omega)
  refine ⟨fun cc x q1 q2 q3 => ?_, fun x q1 q2 => ?_⟩
  · by_cases q : cc = 35
    · rw [q, Z35 x]
      exact CA.2 35 x (fun _ y => by omega)
    · exact E cc x q q2 q3
  · rw [Z35 x]
    exact CA.2 35 x (fun _ y => by omega)
/-- an aim behind an S: its jump stands within -/
theorem sk_aim (K : SKk X a b p q bb h r g v) (f2 : 0 ≤ h 34 1) (hj : h 34 1 ≤ j) (A : CAH j g z) : SKk X a b p q bb h r z v := by
  obtain ⟨⟨k1, k2, k3, k4, k5⟩, ⟨k6, k7, k8⟩, ⟨k9, k10, k11, k12, k13⟩, k14, k15, k16⟩ := K
  obtain ⟨E, -⟩ := cah_o k9 (.inl hj) f2 A
  have z1 := E 34 1 (by omega) (by omega) (by omega)
  have z7 := E 34 7 (by omega) (by omega) (by omega)
  have z12 := E 33 12 (by omega) (by omega) (by omega)
  refine ⟨⟨by rw [E 2 10 (by omega) (by omega) (by omega)]; exact k1, k2, k3, by rw [E 2 11 (by omega) (by omega) (by omega)]; exact k4, k5⟩, ⟨bx_k k6 (fun cc x q => E cc x (by omega) (by omega) (by omega)) (fun _ _ _ => rfl), ?_, k8⟩, ⟨(cah_fr k9 A).1, by omega, by rw [E 34 3 (by omega) (by omega) (by omega)]; exact k11, by rw [E 49 10 (by omega) (by omega) (by omega)]; exact k12, by rw [E 49 18 (by omega) (by omega) (by omega)]; exact k13⟩, by omega, by omega, lpx_k k16 (E 33 9 (by omega) (by omega) (by omega)) (E 33 10 (by omega) (by omega) (by omega)) z12 (by omega) (by omega) rfl rfl⟩
  obtain ⟨a1, ⟨a2, a3, a4, a5⟩, a6, a7, a8, a9⟩ := k7
  exact ⟨fun cc x q => by rw [E cc x (by omega) (by omega) (by omega)]; exact a1 cc x q, ⟨by rw [E 33 9 (by omega) (by omega) (by omega)]; exact a2, by rw [E 33 10 (by omega) (by omega) (by omega)]; exact a3, by omega, by omega⟩, fun x hx => ⟨by rw [E 37 x (by omega) (by omega) (by omega)]; exact (a6 x hx).1, by rw [E 38 x (by omega) (by omega) (by omega)]; exact (a6 x hx).2⟩, ⟨fun x hx => by rw [E 44 x (by omega) (by omega) (by omega)]; exact a7.1 x hx, fun x c1 c2 => by
    have y := a7.2 x c1 (by omega)
    rw [E 44 x (by omega) (by omega) (by omega)]; omega⟩, by omega, fun x hx => by rw [E 35 x (by omega) (by omega) (by omega)]; exact a9 x hx⟩
theorem mwf_st {l x : Int} (ew : qf_X13_stands nn l x m = some w) : MWf m w := mwf_o (fun cc y q => ff_X13_stands nn w ew cc y (nw_of (by unfold wl_X13_stands; simp only [List.mem_cons, List.not_mem_nil, or_false]; omega) (by unfold wf_X13_stands; simp only [List.mem_cons, List.not_mem_nil, or_false, Prod.mk.injEq]; omega)))
/-- one waiting jump gets its aim, jumps of loops before and behind it -/
theorem mk_aim2 {f x j : Int} {A B : List (Int × Int)} (M : MKx X PB WL (A ++ (j, f) :: B) g w) (nA : ¬ hs_L f A) (nB : ¬ hs_L f B) (C : CAH j g z) (ex : x = w 160 68) (bl : g 34 1 ≤ 990000) (b3 : g 34 3 ≤ 3000) : Pc (qf_X13_stands nn f x w) (fun w2 => MKx X PB WL (A ++ B) z w2 ∧ MWf w w2 ∧ w2 160 88 = w 160 88) := fun w2 ew => by
  obtain ⟨M2, -, l2⟩ := mk_aim M rfl nA nB C ex bl b3 w2 ew
  exact ⟨M2, mwf_st ew, l2⟩
/-- .. the aims of a loop's jumps stay -/
theorem amd_aim {A : Int} (hA : AMd g j A) (E : ∀ x : Nat, ¬ x = (k + 1).toNat → ¬ x = (k + 2).toNat → z 35 x = g 35 x) (d1 : 0 ≤ j ∧ 0 ≤ k ∧ (j + 3 ≤ k ∨ k + 3 ≤ j)) : AMd z j A := fun lt => by
  rw [E _ (by omega) (by omega), E _ (by omega) (by omega)]
  exact hA lt
theorem mgq_aim (G : MGq X PB WL (L ++ [(j, f)]) lb lh p q h r g m w) (nf : ¬ hs_L f L ∧ ¬ f = lb ∧ ¬ f = lh) (Fc : FRc g) (C : CAH j g z) (j0 : 0 ≤ j) (ex : x = w 160 68) (bl : g 34 1 ≤ 990000) (b3 : g 34 3 ≤ 3000) : Pc (qf_X13_stands nn f x w) (fun w2 => MGq X PB WL L lb lh p q h r z m w2) := by
  obtain ⟨⟨Z, M, y1, y2, y3, y4⟩, F, l1, l2⟩ := G
  rw [List.append_assoc] at M
  obtain ⟨E, E35⟩ := cah_o (n0 := 0) Fc (.inl j0) (by omega) C
  have PW := (jlb_m M.1.2.1.2).2
  refine pc_imp (mk_aim2 (A := L) (B := Z) M nf.1 (hs_z y1 nf.2) C ex bl b3) (fun w2 q => ?_)
  obtain ⟨M2, F2, l3⟩ := q
  refine ⟨⟨Z, M2, y1, y2, ⟨by rw [E 33 12 (by omega) (by omega) (by omega)]; exact y3.1, fun i hi => by rw [E 44 _ (by omega) (by omega) (by omega)]; exact y3.2 i hi⟩, fun j2 hj2 => ?_⟩, mwf_t F F2, by omega, by omega⟩
  have p2 := List.pairwise_append.mp PW
  have p3 := List.pairwise_cons.mp p2.2.1
  have p4 : j + 3 ≤ j2 := p3.1 (j2, lb) hj2
  exact amd_aim (y4 j2 hj2) E35 ⟨by omega, j0, .inr p4⟩
end
end
section
/- S of both sides: if, its condition and its first S -/
section
variable {nn : Nat} {X : BCx} {dp i a b a1 b1 a2 b2 e s bb lb lh d d1 o en k ix y0 f x j l : Int} {p q t uu : Nat} {h g u r w w1 w2 m z v vF : ms_M} {PB PB2 : Nat → Prop} {WL WL2 : Int → Int → Prop} {L L2 Z1 Z : List (Int × Int)}
theorem skk_l (K : SKl X a b p q bb h r u v) (pq : p < q) : SKk X a b p q bb h r u v := ⟨⟨K.1.1, K.1.2.1, pq, K.1.2.2.2⟩, K.2⟩
/-- behind a condition -/
theorem cd_sk (Q : SPq X d p bb h r) (Wb : BRw X) (t1c : t + 1 < bc X) (pt : p + 2 < t) (K : EOz nn X i a1 b1 (p + 2) t e (up_M h 2 10 ((p + 2 : Nat) : Int)) r u (1, v)) (kt : ¬ bK X t = 51) (u12 : u 49 12 = 302) (FX : FM01 nn X i a1 b1 (p + 2) t e (up_M h 2 10 ((p + 2 : Nat) : Int)) u v) (SE : SEq h r u v) (J : CJu 153 1 (up_M u 2 10 ((t + 1 : Nat) : Int)) g) : SKl X a1 b1 p (t + 1) bb h r g v ∧ g 34 1 = u 34 1 + 3 ∧ h 34 1 ≤ u 34 1 ∧ g 34 7 = h 34 7 ∧ g 33 12 = h 33 12 ∧ v 160 50 = r 160 50 := by
  have Q0 := Q
  obtain ⟨⟨B, ⟨q1, q2, q3, q4⟩, ⟨f1, f2, f3⟩, o1⟩, ⟨h3, h10, r57, h7⟩, ⟨LP, l54, br⟩, -⟩ := Q0
  obtain ⟨⟨x1, x2, x3, x4, x5⟩, ⟨x6, x7, x8⟩, ⟨x9, x10, x11⟩, ⟨x12, x13, x14⟩, -⟩ := K.1
  obtain ⟨⟨y1, -⟩, -⟩ := FX.2.2 kt
  have E14 : ∀ cc x : Nat, ¬ (cc = 2 ∧ x = 10) → up_M h 2 10 ((p + 2 : Nat) : Int) cc x = h cc x := fun cc x z => up_n z
  rw [if_neg (by omega), E14 34 3 (by omega)] at y1
  rw [E14 34 1 (by omega)] at x13
  have CE : CFe h u := fun cc x a1 a2 a3 a4 a5 a6 a7 a8 => by rw [x9 cc x a1 a2 a3 a4 a5 a6 a7 a8]; exact E14 cc x (by omega)
  have CE1 : ∀ cc x : Nat, ¬ ((cc = 2 ∧ (x = 10 ∨ x = 11 ∨ x = 12)) ∨ (cc = 34 ∧ (x = 1 ∨ x = 3 ∨ x = 4 ∨ x = 14 ∨ x = 15)) ∨ cc = 35 ∨ cc = 36 ∨ (40 ≤ cc ∧ cc ≤ 42) ∨ (cc = 45 ∧ (x = 4 ∨ x = 5)) ∨ cc = 46 ∨ cc = 47 ∨ (cc = 49 ∧ 10 ≤ x ∧ x ≤ 15) ∨ (50 ≤ cc ∧ cc ≤ 54)) → u cc x = h cc x := fun cc x q => CE cc x (by omega) (by omega) (by omega) (by omega) (by omega) (by omega) (by omega) (by omega)
  have ju : up_M u 2 10 ((t + 1 : Nat) : Int) 34 1 = u 34 1 := up_n (by omega)
  have ju3 : up_M u 2 10 ((t + 1 : Nat) : Int) 34 3 = u 34 3 := up_n (by omega)
  have g1 : g 34 1 = u 34 1 + 3 := by rw [J.1, ju]
  have g3 : g 34 3 = 0 := by rw [J.2.1, ju3]; split <;> omega
  have GU : ∀ cc x : Nat, ¬ ((cc = 2 ∧ x = 10) ∨ (cc = 34 ∧ (x = 1 ∨ x = 3)) ∨ (cc = 35 ∧ u 34 1 ≤ (x : Int))) → g cc x = u cc x := fun cc x q => by rw [J.2.2.2 cc x (by omega) (by rw [ju]; omega)]; exact up_n (by omega)
  have gp : g 2 10 = ((t + 1 : Nat) : Int) := by rw [J.2.2.2 2 10 (by omega) (by omega), up_s]
  have g7 : g 34 7 = h 34 7 := by rw [GU 34 7 (by omega)]; exact CE1 34 7 (by omega)
  have g12 : g 33 12 = h 33 12 := by rw [GU 33 12 (by omega)]; exact CE1 33 12 (by omega)
  have Cu : CFs h u := cfs_e CE SE.1.1 SE.1.2
  have Cg : CFs h g := cfs_t Cu (cfs_o (fun cc x q => GU cc x (by omega)) (by omega))
  have B14 : BX X (up_M h 2 10 ((p + 2 : Nat) : Int)) r := bx_k B (fun cc x z => E14 cc x (by omega)) (fun _ _ _ => rfl)
  have Bg : BX X g v := bx_k (bx_e B14 x9 x10) (fun cc x q => GU cc x (by omega)) (fun _ _ _ => rfl)
  have bm := brw_l Wb (p := p) (q := t + 1) (by omega) t1c
  have R1 : RFz a1 b1 r v := rfs_e x10 SE.2 ⟨Int.le_refl _, Int.le_refl _⟩
  refine ⟨⟨⟨gp, t1c, by omega, by rw [GU 2 11 (by omega)]; exact x4, x5⟩, ⟨Bg, Cg, R1⟩, ⟨frc_k x12 (fun cc x q => GU cc x (by omega)), by omega, g3, by rw [GU 49 10 (by omega), x11.1, E14 49 10 (by omega)]; exact h10, by rw [GU 49 18 (by omega), CE1 49 18 (by omega)]; omega⟩, by omega, by omega, lpx_k LP Cg.2.1.1 Cg.2.1.2.1 g12 Cg.2.2.2.2.1 Cg.2.1.2.2.2 R1.2.2.1.1 (x10.1 198 _ (by omega) (by omega) (by omega))⟩, g1, SE.1.1, g7, g12, x10.1 160 50 (by omega) (by omega) (by omega)⟩
/-- .. in the making, l its label -/
theorem cd_mk {Rr : Int × ms_M → Prop} {Fm : ms_M → Option (Int × ms_M)} (K : EOz nn X i a1 b1 (p + 2) t e (up_M h 2 10 ((p + 2 : Nat) : Int)) r u (1, v)) (kt : ¬ bK X t = 51) (u12 : u 49 12 = 302) (FX : FM01 nn X i a1 b1 (p + 2) t e (up_M h 2 10 ((p + 2 : Nat) : Int)) u v) (J : CJu 153 1 (up_M u 2 10 ((t + 1 : Nat) : Int)) g) (u1 : u 34 1 ≤ 900000) (u3 : u 34 3 ≤ 3000) (M : MKx X PB WL L h m) (A : AN a1 b1 v m) (m57 : m 160 57 = 0) (nb : 0 ≤ a1 ∧ a1 ≤ b1 ∧ b1 ≤ 8999) (lb' : m 160 88 + 4 * (t : Int) ≤ 2000000000 + 4 * ((p + 2 : Nat) : Int)) (hl : l ≤ m 160 88) (HR : ∀ w : ms_M, MKx X PB WL (L ++ [(u 34 1, l)]) g w → MWf m w → (m 160 88 ≤ w 160 88 ∧ w 160 88 + 4 * ((p + 2 : Nat) : Int) ≤ m 160 88 + 4 * (t : Int)) → (∀ cc x : Nat, ((163 ≤ cc ∧ cc ≤ 173) ∨ cc = 177) → w cc x = m cc x) → w 160 50 = m 160 50 → Pc (Fm w) Rr) : Pc (mx_sv (qf_X13_work nn e m) fun u70 => xl (oq_sub (u70 160 70) 1) fun v72 => xl (up_M u70 160 70 v72) fun h73 => mx_sv (qf_X13_jump nn 153 l h73) fun u75 => Fm u75) Rr := by
  obtain ⟨⟨y1, -⟩, y2⟩ := FX.2.2 kt
  rw [if_neg (by omega)] at y1
  obtain ⟨-, -, -, ⟨-, -, x14⟩, -⟩ := K.1
  have x3 : 1 ≤ u 34 3 := by
    have h0 := M.2.1.2.2.1
    rw [show up_M h 2 10 ((p + 2 : Nat) : Int) 34 3 = h 34 3 from up_n (by omega)] at y1
    omega
  refine pc_sv (se_m y2 (mkx_c M (fun cc x q1 q2 q3 => up_n (by omega))) A m57 nb lb') ?_; intro w0 ⟨⟨Mw, lw⟩, Fw, Ew⟩
  have sk := Mw.2.1
  have cb := Mw.1.1.1
  have b70 : w0 160 70 ≤ 3000 := by omega
  refine pc_sub (by omega) ?_; intro v72 e72
  refine pc_xl ?_; intro h73 e73
  refine pc_sv (r_jump (by rw [e73, up_n (by omega)]; omega)) ?_; intro w2 RJ
  have W5 := RJ.2.2.2.2.2.2
  have M2 : MKx X PB WL (L ++ [(w0 160 68, l)]) g w2 := mk_jump (mkx_c Mw (fun cc x q1 q2 q3 => up_n (by omega))) J ⟨by omega, by rw [up_n (by omega)]; exact x3⟩ (by rw [e73, e72]) RJ (by unfold in_R; omega) (by omega)
  have E2 : ∀ cc x : Nat, ¬ ((cc = 160 ∧ (x = 68 ∨ x = 70 ∨ x = 87)) ∨ cc = 206 ∨ cc = 217 ∨ cc = 218) → w2 cc x = w0 cc x := fun cc x q => by rw [W5 cc x (by omega) (by omega) (by omega), e73, up_n (by omega)]
  rw [← cb.1] at M2
  exact HR w2 M2 (mwf_t Fw (mwf_o (fun cc x q => E2 cc x (by omega)))) (by rw [E2 160 88 (by omega)]; exact lw) (fun cc x q => by rw [E2 cc x (by omega)]; exact Ew cc x (by omega)) (by rw [E2 160 50 (by omega)]; exact Ew 160 50 (by omega))
/-- a start that changes no jumps of loops -/
theorem mg_pre (A2 : MWf m w1 ∧ m 160 88 ≤ w1 160 88 ∧ w1 160 88 + 4 * (p : Int) ≤ m 160 88 + 4 * (t : Int)) (e54 : v 160 54 = r 160 54) (c9 : g 33 9 = h 33 9 ∧ g 33 10 = h 33 10) (c12 : g 33 12 = h 33 12) (B : MGq X PB WL L lb lh t q g v u w1 w) : MGq X PB WL L lb lh p q h r u m w := by
  obtain ⟨⟨Z2, M2, z1, z2, z3, z4⟩, F, l1, l2⟩ := B
  rw [c9.1, c9.2] at M2
  rw [c12] at z3
  exact ⟨⟨Z2, M2, z1, fun y => z2 (by omega), z3, fun j hj => by rw [← c9.1]; exact z4 j hj⟩, mwf_t A2.1 F, by omega, by omega⟩
end
end

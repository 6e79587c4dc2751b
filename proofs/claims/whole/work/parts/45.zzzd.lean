/- S of both sides: return -/
section
variable {nn : Nat} {X : BCx} {dp i a b a1 b1 a2 b2 e s bb lb lh d o en k ix : Int} {p q t p2 : Nat} {h g u r w m z h16 g1 g2 m1 : ms_M} {v : Int × ms_M} {PB : Nat → Prop} {WL : Int → Int → Prop} {L : List (Int × Int)}
theorem s6_tr (Y : CXs X) (Wb : BRw X) (ne : 0 ≤ a ∧ a ≤ s ∧ s < b) (nb : b ≤ 8999) (hd : 0 ≤ d ∧ d ≤ 40) (nd : bT X 167 s.toNat = 7 ∧ bT X 168 s.toNat = (p : Int)) (kk : bK X p = 24 ∧ ¬ bK X (p + 1) = 46) (r1 : s + 1 ≤ bT X 170 s.toNat) (H : E0 nn X (d + 1) ix (s + 1) b (p + 1) t (bT X 170 s.toNat)) (kt : bK X t = 46) (pt : p + 1 < t) : S6 nn X d a b p (t + 1) s := by
  intro dc dr h r bb Q U
  have Q0 := Q
  obtain ⟨Qe, ⟨h3, h10, r57, h7⟩, -, ⟨vR, nR⟩, b51, rR⟩ := Q0
  have Qe0 := Qe
  obtain ⟨B, ⟨q1, q2, q3, q4⟩, ⟨f1, f2, f3⟩, o1⟩ := Qe0
  have T : ∀ cc y : Nat, ((163 ≤ cc ∧ cc ≤ 173) ∨ cc = 177) → r cc y = bT X cc y := B.2.2.2.2.2.1
  have c3 := Y.1.2.1
  have n8 := Y.2.2.1
  have tc : t < bc X := tb_lt Y.1 (by omega)
  have t1c : t + 1 < bc X := jp_lt Y.1 tc (by omega)
  have tyR := ty_c (vtn_v n8 vR)
  cases dc with
  | zero => exact fun _ z => nomatch z
  | succ dc =>
    refine sjc_24 Y B.1.1.1.1 q1 q2 q3 (by omega) kk.1 ?_
    refine pc_add (by omega) ?_; intro v27 e27
    rw [e27]
    refine pc_sv (P := fun x => Pc ((qg_X13_ruled nn dr) s r) (fun y => SFj x.2 y.2 ∨ SOk nn X s a b p (t + 1) bb h r x y)) ?_ (fun x Hx => pc_ck (fun _ => pc_ret Hx))
    unfold qf_X0_readReturn
    rw [q1]
    refine pc_add (by omega) ?_; intro v41 e41
    refine pc_xl ?_; intro h16 e16
    have E16 : ∀ cc x : Nat, ¬ (cc = 2 ∧ x = 10) → h16 cc x = h cc x := fun cc x z => by rw [e16, up_n z]
    have h16p : h16 2 10 = ((p + 1 : Nat) : Int) := by rw [e16, up_s]; omega
    have Q16 : EPr X (d + 1) (p + 1) h16 r := epr_in (epr_d Qe (by omega)) E16 h16p (by omega) (by omega)
    have h38 := E16 33 8 (by omega)
    refine pc_sv (c_kind Y.1 Q16.1.1.1.1.1 (by omega) h16p (by rw [E16 2 11 (by omega)]; exact q3)) ?_; intro u45 q45
    refine pc_if (fun _ => ?_) (fun z => absurd (show ¬ u45 = 46 by omega) z)
    -- the reference
    have R503 : ∀ {Z : Int × ms_M → Prop}, (∀ rc : tq_X13_ruled, (∃ dd, rc = qg_X13_ruled nn dd) → (h 33 8 = 303 → Pc (rd_A 9000 168 s r fun v75 => mx_sv (qf_X13_wrong nn 7 v75 r) fun u77 => qj_X13_ruled_536 nn rc s u77) Z) ∧ (¬ h 33 8 = 303 → Pc (qj_X13_ruled_536 nn rc s r) Z)) → Pc ((qg_X13_ruled nn dr) s r) Z := fun {Z} HH => by
      cases dr with
      | zero => exact fun _ z => nomatch z
      | succ dr =>
        refine sju_7 q4 ((T 167 _ (by omega)).trans nd.1) ?_
        refine pc_rA ?_; intro _ _ v220 e220
        rw [T 170 _ (by omega)] at e220
        refine pc_if (fun _ => ?_) (fun z => absurd (show ¬ v220 = -1 by omega) z)
        unfold qj_X13_ruled_503
        refine pc_rA ?_; intro _ _ v81 e81
        rw [rR] at e81
        obtain ⟨H1, H2⟩ := HH (qg_X13_ruled nn dr) ⟨dr, rfl⟩
        refine pc_if (fun z => ?_) (fun z => ?_)
        · unfold qj_X13_ruled_521
          exact pc_if (fun z => absurd rfl z) (fun _ => H1 (by omega))
        · unfold qj_X13_ruled_521
          exact pc_if (fun _ => H2 (by omega)) (fun z => absurd (by decide) z)
    unfold qj_X0_readReturn_38
    refine pc_if (fun nv => ?_) (fun nv => ?_)
    · -- a value is wanted
      unfold qj_X0_readReturn_55
      refine pc_if (fun _ => ?_) (fun z => absurd rfl z)
      unfold qj_X0_readReturn_68
      refine pc_if (fun _ => ?_) (fun z => absurd rfl z)
      refine pc_sv (se_g Y H (.inr (.inr (.inl kt))) Q16 r57 (by omega) (fun _ => by rw [E16 49 18 (by omega)]; omega) (by omega)) ?_; intro u19 H19
      intro x ex
      refine R503 (fun rc hrc => ⟨fun z => absurd (h38.trans z) nv, fun _ => ?_⟩)
      obtain ⟨dd, erc⟩ := hrc
      unfold qj_X13_ruled_536
      refine pc_rA ?_; intro _ _ v58 e58
      rw [T 170 _ (by omega)] at e58
      refine pc_if (fun z => absurd z (by omega)) (fun _ => ?_)
      refine pc_rA ?_; intro _ _ v60 e60
      rw [T 170 _ (by omega)] at e60
      rw [e60]
      refine pc_sv H19 ?_; intro v hv
      rcases hv with S | ⟨⟨K, n3, FM⟩, SE⟩
      · have FX : Pc (mx_sv (qf_X4_fits nn 12 (u19 49 12) (u19 33 8) u19) fun u22 => if ¬ u22 = 0 then (qj_X0_readReturn_124 nn u19) else (mx_sv (qf_X9_tell nn 6 (p : Int) u19) fun u25 => qj_X0_readReturn_124 nn u25)) (fun x => FSc u19 x.2) := by
          refine pc_se ?_; intro u22 _
          refine pc_if (fun _ => fs_qj_X0_readReturn_124 S.1) (fun _ => ?_)
          refine pc_sv (fs_qf_X9_tell S.1) ?_; intro u25 F
          exact pc_imp (fs_qj_X0_readReturn_124 (fs_n S.1 F)) (fun _ q => fs_t F q)
        have S2 := sf_c S (FX x ex)
        refine pc_rA ?_; intro _ _ v65 _
        refine pc_se ?_; intro u67 _
        refine pc_if (fun _ => pc_ret (.inl S2)) (fun _ => ?_)
        refine pc_rA ?_; intro _ _ v69 _
        exact rw_sf S2 _ (fun y hy => .inl hy)
      · obtain ⟨⟨x1, x2, x3, x4, x5⟩, ⟨x6, x7, x8⟩, ⟨x9, x10, x11⟩, ⟨x12, x13, x14⟩, -⟩ := K.1
        have B16 : BX X h16 r := Q16.1
        have Bu : BX X u19 v.2 := bx_e B16 x9 x10
        have e1 := E16 34 1 (by omega)
        have e3 := E16 34 3 (by omega)
        have e8 : v.2 180 = bB X 180 := funext (fun y => Bu.2.2.2.2.2.2.1 180 y (by omega))
        have u38 : u19 33 8 = h 33 8 := by rw [x9 33 8 (by omega) (by omega) (by omega) (by omega) (by omega) (by omega) (by omega) (by omega)]; exact h38
        have v51 : v.2 160 51 = r 160 51 := x10.1 160 51 (by omega) (by omega) (by omega)
        have v187 : v.2 187 (r 160 51).toNat = ty_T (h 33 8) := by rw [x10.1 187 _ (by omega) (by omega) (by omega)]; exact rR
        rw [v51]
        refine pc_rA ?_; intro _ _ v65 e65
        rw [v187] at e65
        rw [x6, e65]
        refine pc_sv (r_fit Y e8 x7 vR) ?_; intro u67 q67
        by_cases ft : FTS (bB X 180) (u19 49 12) (h 33 8)
        · have CC : Pc (mx_sv (qf_X4_fits nn 12 (u19 49 12) (u19 33 8) u19) fun u22 => if ¬ u22 = 0 then (qj_X0_readReturn_124 nn u19) else (mx_sv (qf_X9_tell nn 6 (p : Int) u19) fun u25 => qj_X0_readReturn_124 nn u25)) (fun x => ∃ g1 g2, COp (if h 33 8 = 301 ∨ h 33 8 = 302 then 172 else 176) u19 g1 ∧ CPo 1 g1 g2 ∧ x = (0, up_M g2 2 10 ((t + 1 : Nat) : Int))) := by
            rw [u38]
            refine pc_sv (c_fit Y Bu x7 vR) ?_; intro u24 q24
            refine pc_if (fun _ => ?_) (fun z => absurd (yn_1 q24 ft) z)
            have T147 : ∀ o : Int, Pc (qj_X0_readReturn_147 nn o u19) (fun x => ∃ g1 g2, COp o u19 g1 ∧ CPo 1 g1 g2 ∧ x = (0, up_M g2 2 10 ((t + 1 : Nat) : Int))) := fun o => by
              unfold qj_X0_readReturn_147
              refine pc_sv (c_op (by omega)) ?_; intro u3 A1
              have l3 := A1.2.2 34 3 (by omega) (by omega)
              refine pc_sv (c_pop (by omega) (by omega)) ?_; intro u6 A2
              have l10 : u6 2 10 = (t : Int) := by rw [A2.2 2 10 (by omega), A1.2.2 2 10 (by omega) (by omega)]; exact x1
              unfold qj_X0_readReturn_158
              refine pc_add (by omega) ?_; intro v9 e9
              refine pc_xl ?_; intro h10' e10
              exact pc_ret ⟨u3, u6, A1, A2, by rw [e10, show v9 = ((t + 1 : Nat) : Int) by omega]⟩
            unfold qj_X0_readReturn_124
            rw [u38]
            refine pc_sv c_isNum ?_; intro u12 q12
            refine pc_if (fun z => ?_) (fun z => ?_)
            · rw [if_neg (show ¬ (h 33 8 = 301 ∨ h 33 8 = 302) by omega)]; exact T147 176
            · rw [if_pos (show h 33 8 = 301 ∨ h 33 8 = 302 by omega)]; exact T147 172
          obtain ⟨g1, g2, A1, A2, ex2⟩ := CC x ex
          refine pc_if (fun _ => ?_) (fun z => absurd (yn_1 q67 ft) z)
          refine pc_ret (.inr ?_)
          rw [ex2]
          refine sl_eo Y Wb Q ne nb E16 K (FM (by omega)) n3 (by omega) SE A1 A2 rfl (by omega) (by unfold in_R; split <;> omega) (.inl rfl) (fun d2 m R MT MTB m51 HW => ?_)
          cases d2 with
          | zero => exact fun _ z => nomatch z
          | succ d2 =>
            refine sjm_7 ((MT 167 _ (by omega)).trans nd.1) ?_
            refine pc_rA ?_; intro _ _ v96 e96
            rw [MT 170 _ (by omega)] at e96
            refine pc_if (fun _ => ?_) (fun z => absurd (show ¬ v96 = -1 by omega) z)
            refine pc_rA ?_; intro _ _ v98 e98
            rw [MT 170 _ (by omega)] at e98
            rw [e98]
            refine pc_sv HW ?_; intro w ⟨Ew, Hw⟩
            refine pc_xl ?_; intro v102 e102
            refine pc_xl ?_; intro h103 e103
            have w51 : h103 160 51 = r 160 51 := by rw [e103, up_n (by omega), Ew 160 51 (by omega)]; exact m51
            rw [w51]
            refine pc_rA ?_; intro _ _ v106 e106
            have v106e : v106 = ty_T (h 33 8) := by
              rw [e106, e103, up_n (by omega), Ew 187 _ (by omega), MTB 187 _ (by omega), ← B.2.2.2.2.2.2.1 187 _ (by omega)]; exact rR
            have Hw2 : Pc (mx_sv (qf_X13_put nn (if h 33 8 = 301 ∨ h 33 8 = 302 then 172 else 176) h103) fun u5 => some (0, u5)) R := by rw [e103, e102]; exact Hw
            refine pc_if (fun z => ?_) (fun z => ?_)
            · rw [if_neg (show ¬ (h 33 8 = 301 ∨ h 33 8 = 302) by omega)] at Hw2; exact Hw2
            · rw [if_pos (show h 33 8 = 301 ∨ h 33 8 = 302 by omega)] at Hw2; exact Hw2
        · have CC : Pc (mx_sv (qf_X4_fits nn 12 (u19 49 12) (u19 33 8) u19) fun u22 => if ¬ u22 = 0 then (qj_X0_readReturn_124 nn u19) else (mx_sv (qf_X9_tell nn 6 (p : Int) u19) fun u25 => qj_X0_readReturn_124 nn u25)) (fun x => x.2 2 11 = 6 ∧ x.2 2 12 = bP X p) := by
            rw [u38]
            refine pc_sv (c_fit Y Bu x7 vR) ?_; intro u24 q24
            refine pc_if (fun z => absurd (yn_0 q24 ft) z) (fun _ => ?_)
            refine pc_sv (c_tell Bu.1.1.1.1 x4 q2 rfl) ?_; intro u25 ⟨s1, _⟩
            exact pc_imp (fs_qj_X0_readReturn_124 (by omega)) (fun x F => ⟨by rw [F.1]; exact s1.1, by rw [F.2]; exact s1.2⟩)
          obtain ⟨s1, s2⟩ := CC x ex
          refine pc_if (fun z => absurd (yn_0 q67 ft) z) (fun _ => ?_)
          refine pc_rA ?_; intro _ _ v69 e69
          rw [Bu.2.2.2.2.2.1 168 _ (by omega), nd.2] at e69
          refine pc_sv (r_wrong Bu.1.1.2.2.1 q2 x5 e69) ?_; intro u71 w1
          exact pc_ret (.inl (sf_mk (c := 6) (pl := bP X p) (by decide) s1 s2 w1.1 w1.2))
    · -- none is wanted
      have rt : h 33 8 = 303 := by rw [← h38]; exact Classical.byContradiction nv
      unfold qj_X0_readReturn_55
      refine pc_if (fun z => absurd z (by decide)) (fun _ => ?_)
      refine pc_sv (c_tell Q16.1.1.1.1.1 (by rw [E16 2 11 (by omega)]; exact q3) q2 rfl) ?_; intro u33 ⟨s1, _⟩
      refine pc_imp (fs_qj_X0_readReturn_68 (h := u33) (by omega)) (fun x F => ?_)
      refine R503 (fun rc hrc => ⟨fun _ => ?_, fun z => absurd rt z⟩)
      obtain ⟨dd, erc⟩ := hrc
      refine pc_rA ?_; intro _ _ v75 e75
      rw [T 168 _ (by omega), nd.2] at e75
      refine pc_sv (r_wrong B.1.1.2.2.1 q2 q4 e75) ?_; intro u77 w1
      refine pc_imp (ft_qj_X13_ruled_536 (by rw [erc]; exact ftg_X13_ruled nn dd) (h := u77) (by omega)) (fun y Fy => ?_)
      exact .inl (sf_mk (c := 7) (pl := bP X p) (by decide) (by rw [F.1]; exact s1.1) (by rw [F.2]; exact s1.2) (Fy.1.trans w1.1) (Fy.2.trans w1.2))
/-- a leaf without an E: one op -/
theorem s6_tg (Y : CXs X) (Wb : BRw X) (ne : 0 ≤ a ∧ a ≤ s ∧ s < b) (nb : b ≤ 8999) (hd : 0 ≤ d ∧ d ≤ 40) (nd : bT X 167 s.toNat = 7 ∧ bT X 168 s.toNat = (p : Int) ∧ bT X 170 s.toNat = -1) (kk : bK X p = 24 ∧ bK X (p + 1) = 46) : S6 nn X d a b p (p + 2) s := by
  intro dc dr h r bb Q U
  have Q0 := Q
  obtain ⟨Qe, ⟨h3, h10, r57, h7⟩, -, ⟨vR, nR⟩, b51, rR⟩ := Q0
  have Qe0 := Qe
  obtain ⟨B, ⟨q1, q2, q3, q4⟩, ⟨f1, f2, f3⟩, o1⟩ := Qe0
  have T : ∀ cc y : Nat, ((163 ≤ cc ∧ cc ≤ 173) ∨ cc = 177) → r cc y = bT X cc y := B.2.2.2.2.2.1
  have c3 := Y.1.2.1
  have n8 := Y.2.2.1
  have p1c : p + 1 < bc X := jp_lt Y.1 q2 (by omega)
  have p2c : p + 2 < bc X := jp_lt Y.1 p1c (by omega)
  have tyR := ty_c (vtn_v n8 vR)
  cases dc with
  | zero => exact fun _ z => nomatch z
  | succ dc =>
    refine sjc_24 Y B.1.1.1.1 q1 q2 q3 (by omega) kk.1 ?_
    refine pc_add (by omega) ?_; intro v27 e27
    rw [e27]
    refine pc_sv (P := fun x => Pc ((qg_X13_ruled nn dr) s r) (fun y => SFj x.2 y.2 ∨ SOk nn X s a b p (p + 2) bb h r x y)) ?_ (fun x Hx => pc_ck (fun _ => pc_ret Hx))
    unfold qf_X0_readReturn
    rw [q1]
    refine pc_add (by omega) ?_; intro v41 e41
    refine pc_xl ?_; intro h16 e16
    have E16 : ∀ cc x : Nat, ¬ (cc = 2 ∧ x = 10) → h16 cc x = h cc x := fun cc x z => by rw [e16, up_n z]
    have h16p : h16 2 10 = ((p + 1 : Nat) : Int) := by rw [e16, up_s]; omega
    have B16 : BX X h16 r := bx_k B (fun cc x z => E16 cc x (by omega)) (fun _ _ _ => rfl)
    have h38 := E16 33 8 (by omega)
    have f16 : h16 2 11 = 0 := by rw [E16 2 11 (by omega)]; exact q3
    refine pc_sv (c_kind Y.1 B16.1.1.1.1 (by omega) h16p f16) ?_; intro u45 q45
    refine pc_if (fun z => absurd (show u45 = 46 by omega) z) (fun _ => ?_)
    have R503 : ∀ {Z : Int × ms_M → Prop}, (∀ rc : tq_X13_ruled, (∃ dd, rc = qg_X13_ruled nn dd) → (¬ h 33 8 = 303 → Pc (rd_A 9000 168 s r fun v75 => mx_sv (qf_X13_wrong nn 7 v75 r) fun u77 => qj_X13_ruled_536 nn rc s u77) Z) ∧ (h 33 8 = 303 → Z (0, r))) → Pc ((qg_X13_ruled nn dr) s r) Z := fun {Z} HH => by
      cases dr with
      | zero => exact fun _ z => nomatch z
      | succ dr =>
        refine sju_7 q4 ((T 167 _ (by omega)).trans nd.1) ?_
        refine pc_rA ?_; intro _ _ v220 e220
        rw [T 170 _ (by omega), nd.2.2] at e220
        refine pc_if (fun z => absurd e220 z) (fun _ => ?_)
        unfold qj_X13_ruled_503
        refine pc_rA ?_; intro _ _ v81 e81
        rw [rR] at e81
        obtain ⟨H1, H2⟩ := HH (qg_X13_ruled nn dr) ⟨dr, rfl⟩
        refine pc_if (fun z => ?_) (fun z => ?_)
        · unfold qj_X13_ruled_521
          refine pc_if (fun _ => ?_) (fun z => absurd (by decide) z)
          unfold qj_X13_ruled_536
          refine pc_rA ?_; intro _ _ v58 e58
          rw [T 170 _ (by omega), nd.2.2] at e58
          exact pc_if (fun _ => pc_ret (H2 (by omega))) (fun z => absurd e58 z)
        · unfold qj_X13_ruled_521
          exact pc_if (fun z => absurd rfl z) (fun _ => H1 (by omega))
    unfold qj_X0_readReturn_38
    refine pc_if (fun nv => ?_) (fun nv => ?_)
    · unfold qj_X0_readReturn_55
      refine pc_if (fun z => absurd z (by decide)) (fun _ => ?_)
      refine pc_sv (c_tell B16.1.1.1.1 f16 q2 rfl) ?_; intro u33 ⟨s1, _⟩
      refine pc_imp (fs_qj_X0_readReturn_68 (h := u33) (by omega)) (fun x F => ?_)
      refine R503 (fun rc hrc => ⟨fun _ => ?_, fun z => absurd (h38.trans z) nv⟩)
      obtain ⟨dd, erc⟩ := hrc
      refine pc_rA ?_; intro _ _ v75 e75
      rw [T 168 _ (by omega), nd.2.1] at e75
      refine pc_sv (r_wrong B.1.1.2.2.1 q2 q4 e75) ?_; intro u77 w1
      refine pc_imp (ft_qj_X13_ruled_536 (by rw [erc]; exact ftg_X13_ruled nn dd) (h := u77) (by omega)) (fun y Fy => ?_)
      exact .inl (sf_mk (c := 7) (pl := bP X p) (by decide) (by rw [F.1]; exact s1.1) (by rw [F.2]; exact s1.2) (Fy.1.trans w1.1) (Fy.2.trans w1.2))
    · have rt : h 33 8 = 303 := by rw [← h38]; exact Classical.byContradiction nv
      unfold qj_X0_readReturn_55
      refine pc_if (fun _ => ?_) (fun z => absurd rfl z)
      unfold qj_X0_readReturn_68
      refine pc_if (fun z => absurd z (by decide)) (fun _ => ?_)
      have e1 := E16 34 1 (by omega)
      refine pc_sv (c_op (by omega)) ?_; intro u29 A1
      unfold qj_X0_readReturn_158
      have l10 : u29 2 10 = ((p + 1 : Nat) : Int) := by rw [A1.2.2 2 10 (by omega) (by omega)]; exact h16p
      refine pc_add (by omega) ?_; intro v3 e3
      refine pc_xl ?_; intro z ez
      rw [show v3 = ((p + 2 : Nat) : Int) by omega] at ez
      have Zf : ∀ cc x : Nat, ¬ ((cc = 2 ∧ x = 10) ∨ (cc = 34 ∧ x = 1) ∨ (cc = 35 ∧ x = (h 34 1).toNat)) → z cc x = h cc x := fun cc x q => by rw [ez, up_n (by omega), A1.2.2 cc x (by omega) (by rw [e1]; omega)]; exact E16 cc x (by omega)
      have z1 : z 34 1 = h 34 1 + 1 := by rw [ez, up_n (by omega), A1.1]; omega
      refine pc_ret (R503 (fun rc hrc => ⟨fun y => absurd rt y, fun _ => .inr ⟨⟨rfl, .inl rfl⟩, ?_, ?_⟩⟩))
      · refine sk_leaf Q Wb ⟨by show z 2 10 = _; rw [ez, up_s], p2c, by omega, by show z 2 11 = 0; rw [Zf 2 11 (by omega)]; exact q3, q4⟩ (bx_k B (fun cc x q => Zf cc x (by omega)) (fun _ _ _ => rfl)) (cfs_o (fun cc x q => Zf cc x (by omega)) (by show _ ≤ z 34 1; omega)) rfs_r (Zf 33 12 (by omega)) (Zf 34 7 (by omega)) rfl (frc_k f1 (fun cc x q => Zf cc x (by omega))) (by show z 34 1 + _ ≤ _; omega) (by show z 34 3 = 0; rw [Zf 34 3 (by omega)]; exact h3) (by show z 49 10 = 0; rw [Zf 49 10 (by omega)]; exact h10) (by show z 49 18 ≤ _; rw [Zf 49 18 (by omega)]; omega)
      · intro d2 PB WL L lb lh m I
        obtain ⟨⟨M, AM⟩, ⟨m57, m88, m54, m51⟩, -, WN, CO⟩ := I
        obtain ⟨MT, MTB, -⟩ := mk_t M
        cases d2 with
        | zero => exact fun _ z => nomatch z
        | succ d2 =>
          refine sjm_7 ((MT 167 _ (by omega)).trans nd.1) ?_
          refine pc_rA ?_; intro _ _ v96 e96
          rw [MT 170 _ (by omega), nd.2.2] at e96
          refine pc_if (fun z => absurd e96 z) (fun _ => ?_)
          have cb := M.1.1.1
          refine pc_sv (r_put (by omega)) ?_; intro u113 B1
          have M1 : MKx X PB WL L u29 u113 := mk_op (mkx_c M (fun cc x q1 q2 q3 => E16 cc x (by omega))) A1 B1 (fun _ => rfl) (by unfold in_R; omega)
          have l88 := B1.2.2 160 88 (by omega) (by omega)
          exact pc_ret ⟨rfl, mg_nil (mkx_c M1 (fun cc x q1 q2 q3 => by show z cc x = _; rw [ez, up_n (by omega)])) (mwf_o (fun cc x q => B1.2.2 cc x (by omega) (by omega))) (by show _ ≤ u113 160 88; omega) (by show u113 160 88 + _ ≤ _; omega) (Zf 33 12 (by omega))⟩
end

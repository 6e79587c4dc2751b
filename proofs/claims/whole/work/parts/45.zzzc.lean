/- S of both sides: print, throw, return -/
section
variable {nn : Nat} {X : BCx} {dp i a b a1 b1 a2 b2 e s bb lb lh d o en k ix : Int} {p q t p2 : Nat} {h g u r w m z h16 g1 g2 m1 : ms_M} {v : Int × ms_M} {PB : Nat → Prop} {WL : Int → Int → Prop} {L : List (Int × Int)}
theorem yn_1 {x : Int} {P : Prop} (q : (x = 1 ∧ P) ∨ (x = 0 ∧ ¬ P)) (y : P) : ¬ x = 0 := by
  rcases q with z | z
  · omega
  · exact absurd y z.2
theorem yn_0 {x : Int} {P : Prop} (q : (x = 1 ∧ P) ∨ (x = 0 ∧ ¬ P)) (y : ¬ P) : x = 0 := by
  rcases q with z | z
  · exact absurd z.2 y
  · exact z.1
/-- the reference's wrong behind a FAULT -/
theorem rw_sf {k x : Int} {en : Int} (S : SFj u r) (Z : Int × ms_M → Prop) (H : ∀ y : Int × ms_M, SFj u y.2 → Z y) : Pc (mx_sv (qf_X13_wrong nn k x r) fun u6 => some (en, u6)) Z := by
  refine pc_sv (ft_qf_X13_wrong (sf_r S)) ?_; intro u6 F6
  exact pc_ret (H _ ⟨S.1, by show u6 160 9 = _; rw [F6.1]; exact S.2.1, by show u6 160 10 = _; rw [F6.2]; exact S.2.2⟩)
/-- a FAULT on both sides -/
theorem sf_mk {c pl : Int} (c0 : ¬ c = 0) (a1 : u 2 11 = c) (a2 : u 2 12 = pl) (a3 : r 160 9 = c) (a4 : r 160 10 = pl) : SFj u r := ⟨by rw [a1]; exact c0, by rw [a3, a1], by rw [a4, a2]⟩
theorem s6_tp (Y : CXs X) (Wb : BRw X) (ne : 0 ≤ a ∧ a ≤ s ∧ s < b) (nb : b ≤ 8999) (hd : 0 ≤ d ∧ d ≤ 40) (nd : bT X 167 s.toNat = 10 ∧ bT X 168 s.toNat = (p : Int)) (kk : bK X p = 23 ∧ bK X (p + 1) = 40) (H : E0 nn X (d + 1) ix (s + 1) b (p + 2) t (bT X 170 s.toNat)) (kt : bK X t = 41 ∧ bK X (t + 1) = 46) (pt : p + 2 < t) : S6 nn X d a b p (t + 2) s := by
  intro dc dr h r bb Q U
  have Q0 := Q
  obtain ⟨Qe, ⟨h3, h10, r57, h7⟩, -, -⟩ := Q0
  have Qe0 := Qe
  obtain ⟨B, ⟨q1, q2, q3, q4⟩, ⟨f1, f2, f3⟩, o1⟩ := Qe0
  have T : ∀ cc y : Nat, ((163 ≤ cc ∧ cc ≤ 173) ∨ cc = 177) → r cc y = bT X cc y := B.2.2.2.2.2.1
  have c3 := Y.1.2.1
  have n8 := Y.2.2.1
  have t1c : t + 1 < bc X := tb_lt Y.1 (by omega)
  have t2c : t + 2 < bc X := jp_lt Y.1 t1c (by omega)
  cases dc with
  | zero => exact fun _ z => nomatch z
  | succ dc =>
    refine sjc_23 Y B.1.1.1.1 q1 q2 q3 (by omega) kk.1 ?_
    refine pc_add (by omega) ?_; intro v23 e23
    rw [e23]
    refine pc_sv (P := fun x => Pc ((qg_X13_ruled nn dr) s r) (fun y => SFj x.2 y.2 ∨ SOk nn X s a b p (t + 2) bb h r x y)) ?_ (fun x Hx => pc_ck (fun _ => pc_ret Hx))
    unfold qf_X0_readPrint
    rw [q1]
    refine pc_add (by omega) ?_; intro v15 e15
    refine pc_xl ?_; intro h16 e16
    have E16 : ∀ cc x : Nat, ¬ (cc = 2 ∧ x = 10) → h16 cc x = h cc x := fun cc x z => by rw [e16, up_n z]
    have Q16 : EPr X (d + 1) (p + 2) h16 r := epr_in (epr_d Qe (by omega)) E16 (by rw [e16, up_s]; omega) (by omega) (by omega)
    refine pc_sv (se_g Y H (.inl kt.1) Q16 r57 (by omega) (fun z => by omega) (by omega)) ?_; intro u19 H19
    intro x ex
    have RULE : ∀ {Z : Int × ms_M → Prop}, (∀ v : Int × ms_M, (SFj u19 v.2 ∨ ((EOz nn X ix (s + 1) b (p + 2) t (bT X 170 s.toNat) h16 r u19 v ∧ ¬ u19 49 12 = 303 ∧ (¬ bK X t = 51 → FM01 nn X ix (s + 1) b (p + 2) t (bT X 170 s.toNat) h16 u19 v.2)) ∧ SEq h16 r u19 v.2)) → Pc (if v.1 ≤ 1 then (some (1, v.2)) else (rd_A 9000 168 s v.2 fun v251 => mx_sv (qf_X13_wrong nn 6 v251 v.2) fun u253 => some (1, u253))) Z) → Pc ((qg_X13_ruled nn dr) s r) Z := fun {Z} HH => by
      cases dr with
      | zero => exact fun _ z => nomatch z
      | succ dr =>
        refine sju_10 q4 ((T 167 _ (by omega)).trans nd.1) ?_
        refine pc_rA ?_; intro _ _ v247 e247
        rw [T 170 _ (by omega)] at e247
        rw [e247]
        exact pc_sv H19 (fun v hv => HH v hv)
    refine RULE (fun v hv => ?_)
    rcases hv with S | ⟨⟨K, n3, FM⟩, SE⟩
    · have FX : Pc (mx_sv (qf_X4_isNumber nn (u19 49 12) u19) fun u22 => if ¬ u22 = 0 then (qj_X0_readPrint_52 nn u19) else (mx_sv (qf_X9_tell nn 6 (p : Int) u19) fun u25 => qj_X0_readPrint_52 nn u25)) (fun x => FSc u19 x.2) := by
        refine pc_se ?_; intro u22 _
        refine pc_if (fun _ => fs_qj_X0_readPrint_52 S.1) (fun _ => ?_)
        refine pc_sv (fs_qf_X9_tell S.1) ?_; intro u25 F
        exact pc_imp (fs_qj_X0_readPrint_52 (fs_n S.1 F)) (fun _ q => fs_t F q)
      have S2 := sf_c S (FX x ex)
      refine pc_if (fun _ => pc_ret (.inl S2)) (fun _ => ?_)
      refine pc_rA ?_; intro _ _ v251 _
      exact rw_sf S2 _ (fun y hy => .inl hy)
    · obtain ⟨⟨x1, x2, x3, x4, x5⟩, ⟨x6, x7, x8⟩, ⟨x9, x10, x11⟩, ⟨x12, x13, x14⟩, -⟩ := K.1
      have tyc := ty_c (vtn_v n8 x7)
      have B16 : BX X h16 r := Q16.1
      have Bu : BX X u19 v.2 := bx_e B16 x9 x10
      have e1 := E16 34 1 (by omega)
      have e3 := E16 34 3 (by omega)
      by_cases num : u19 49 12 = 301 ∨ u19 49 12 = 302
      · rw [if_pos (show v.1 ≤ 1 by omega)]
        have CC : Pc (mx_sv (qf_X4_isNumber nn (u19 49 12) u19) fun u22 => if ¬ u22 = 0 then (qj_X0_readPrint_52 nn u19) else (mx_sv (qf_X9_tell nn 6 (p : Int) u19) fun u25 => qj_X0_readPrint_52 nn u25)) (fun x => ∃ g1 g2, COp 186 u19 g1 ∧ CPo 1 g1 g2 ∧ x = (1, up_M g2 2 10 ((t + 2 : Nat) : Int))) := by
          refine pc_sv c_isNum ?_; intro u22 q22
          refine pc_if (fun _ => ?_) (fun z => absurd (show ¬ u22 = 0 by omega) z)
          unfold qj_X0_readPrint_52
          refine pc_sv (c_op (by omega)) ?_; intro u3 A1
          have l3 := A1.2.2 34 3 (by omega) (by omega)
          refine pc_sv (c_pop (by omega) (by omega)) ?_; intro u6 A2
          have l10 : u6 2 10 = (t : Int) := by rw [A2.2 2 10 (by omega), A1.2.2 2 10 (by omega) (by omega)]; exact x1
          refine pc_add (by omega) ?_; intro v9 e9
          refine pc_xl ?_; intro h10' e10
          exact pc_ret ⟨u3, u6, A1, A2, by rw [e10, show v9 = ((t + 2 : Nat) : Int) by omega]⟩
        obtain ⟨g1, g2, A1, A2, ex2⟩ := CC x ex
        refine pc_ret (.inr ?_)
        rw [ex2]
        refine sl_eo Y Wb Q ne nb E16 K (FM (by omega)) n3 (by omega) SE A1 A2 rfl (by omega) (by unfold in_R; omega) (.inr rfl) (fun d2 m R MT MTB m51 HW => ?_)
        cases d2 with
        | zero => exact fun _ z => nomatch z
        | succ d2 =>
          refine sjm_10 ((MT 167 _ (by omega)).trans nd.1) ?_
          refine pc_rA ?_; intro _ _ v128 e128
          rw [MT 170 _ (by omega)] at e128
          rw [e128]
          refine pc_sv HW ?_; intro w ⟨_, Hw⟩
          exact Hw
      · rw [if_neg (show ¬ v.1 ≤ 1 by omega)]
        have CC : Pc (mx_sv (qf_X4_isNumber nn (u19 49 12) u19) fun u22 => if ¬ u22 = 0 then (qj_X0_readPrint_52 nn u19) else (mx_sv (qf_X9_tell nn 6 (p : Int) u19) fun u25 => qj_X0_readPrint_52 nn u25)) (fun x => x.2 2 11 = 6 ∧ x.2 2 12 = bP X p) := by
          refine pc_sv c_isNum ?_; intro u22 q22
          refine pc_if (fun z => absurd (show u22 = 0 by omega) z) (fun _ => ?_)
          refine pc_sv (c_tell Bu.1.1.1.1 x4 q2 rfl) ?_; intro u25 ⟨s1, _⟩
          exact pc_imp (fs_qj_X0_readPrint_52 (by omega)) (fun x F => ⟨by rw [F.1]; exact s1.1, by rw [F.2]; exact s1.2⟩)
        obtain ⟨s1, s2⟩ := CC x ex
        refine pc_rA ?_; intro _ _ v251 e251
        rw [Bu.2.2.2.2.2.1 168 _ (by omega), nd.2] at e251
        refine pc_sv (r_wrong Bu.1.1.2.2.1 q2 x5 e251) ?_; intro u253 w1
        exact pc_ret (.inl (sf_mk (c := 6) (pl := bP X p) (by decide) s1 s2 w1.1 w1.2))
theorem fts_1 {U : Nat → Int} {t : Int} (F : FTS U t 1) : t = 300 ∨ (0 ≤ t ∧ t ≤ 200) := by
  rcases F with y | y | y | y | y
  · omega
  · omega
  · omega
  · omega
  · omega
theorem s6_tt (Y : CXs X) (Wb : BRw X) (ne : 0 ≤ a ∧ a ≤ s ∧ s < b) (nb : b ≤ 8999) (hd : 0 ≤ d ∧ d ≤ 40) (nd : bT X 167 s.toNat = 8 ∧ bT X 168 s.toNat = (p : Int)) (kk : bK X p = 27) (H : E0 nn X (d + 1) ix (s + 1) b (p + 1) t (bT X 170 s.toNat)) (kt : bK X t = 46) (pt : p + 1 < t) : S6 nn X d a b p (t + 1) s := by
  intro dc dr h r bb Q U
  have Q0 := Q
  obtain ⟨Qe, ⟨h3, h10, r57, h7⟩, -, -⟩ := Q0
  have Qe0 := Qe
  obtain ⟨B, ⟨q1, q2, q3, q4⟩, ⟨f1, f2, f3⟩, o1⟩ := Qe0
  have T : ∀ cc y : Nat, ((163 ≤ cc ∧ cc ≤ 173) ∨ cc = 177) → r cc y = bT X cc y := B.2.2.2.2.2.1
  have c3 := Y.1.2.1
  have n8 := Y.2.2.1
  have tc : t < bc X := tb_lt Y.1 (by omega)
  have t1c : t + 1 < bc X := jp_lt Y.1 tc (by omega)
  cases dc with
  | zero => exact fun _ z => nomatch z
  | succ dc =>
    refine sjc_27 Y B.1.1.1.1 q1 q2 q3 (by omega) kk ?_
    refine pc_add (by omega) ?_; intro v31 e31
    rw [e31]
    refine pc_sv (P := fun x => Pc ((qg_X13_ruled nn dr) s r) (fun y => SFj x.2 y.2 ∨ SOk nn X s a b p (t + 1) bb h r x y)) ?_ (fun x Hx => pc_ck (fun _ => pc_ret Hx))
    unfold qf_X0_readThrow
    rw [q1]
    refine pc_add (by omega) ?_; intro v15 e15
    refine pc_xl ?_; intro h16 e16
    have E16 : ∀ cc x : Nat, ¬ (cc = 2 ∧ x = 10) → h16 cc x = h cc x := fun cc x z => by rw [e16, up_n z]
    have Q16 : EPr X (d + 1) (p + 1) h16 r := epr_in (epr_d Qe (by omega)) E16 (by rw [e16, up_s]; omega) (by omega) (by omega)
    refine pc_sv (se_g Y H (.inr (.inr (.inl kt))) Q16 r57 (by omega) (fun _ => by rw [E16 49 18 (by omega)]; omega) (by omega)) ?_; intro u19 H19
    intro x ex
    have RULE : ∀ {Z : Int × ms_M → Prop}, (∀ v : Int × ms_M, (SFj u19 v.2 ∨ ((EOz nn X ix (s + 1) b (p + 1) t (bT X 170 s.toNat) h16 r u19 v ∧ ¬ u19 49 12 = 303 ∧ (¬ bK X t = 51 → FM01 nn X ix (s + 1) b (p + 1) t (bT X 170 s.toNat) h16 u19 v.2)) ∧ SEq h16 r u19 v.2)) → ∀ rc : tq_X13_ruled, Pc (mx_sv (qf_X13_isThing nn v.1 v.2) fun u226 => if u226 = 0 then (qj_X13_ruled_617 nn rc s v.2) else (mx_sv (qf_X13_fits nn v.1 10 v.2) fun u228 => if ¬ u228 = 0 then (some (0, v.2)) else (qj_X13_ruled_617 nn rc s v.2))) Z) → Pc ((qg_X13_ruled nn dr) s r) Z := fun {Z} HH => by
      cases dr with
      | zero => exact fun _ z => nomatch z
      | succ dr =>
        refine sju_8 q4 ((T 167 _ (by omega)).trans nd.1) ?_
        refine pc_rA ?_; intro _ _ v223 e223
        rw [T 170 _ (by omega)] at e223
        rw [e223]
        exact pc_sv H19 (fun v hv => HH v hv _)
    refine RULE (fun v hv rc => ?_)
    rcases hv with S | ⟨⟨K, n3, FM⟩, SE⟩
    · have FX : Pc (mx_sv (qf_X4_fits nn 12 (u19 49 12) 1 u19) fun u24 => if ¬ u24 = 0 then (qj_X0_readThrow_57 nn u19) else (mx_sv (qf_X9_tell nn 6 (p : Int) u19) fun u27 => qj_X0_readThrow_57 nn u27)) (fun x => FSc u19 x.2) := by
        refine pc_se ?_; intro u22 _
        refine pc_if (fun _ => fs_qj_X0_readThrow_57 S.1) (fun _ => ?_)
        refine pc_sv (fs_qf_X9_tell S.1) ?_; intro u25 F
        exact pc_imp (fs_qj_X0_readThrow_57 (fs_n S.1 F)) (fun _ q => fs_t F q)
      have S2 := sf_c S (FX x ex)
      have R617 : Pc (qj_X13_ruled_617 nn rc s v.2) (fun y => SFj x.2 y.2 ∨ SOk nn X s a b p (t + 1) bb h r x y) := by
        unfold qj_X13_ruled_617
        refine pc_rA ?_; intro _ _ v54 _
        exact rw_sf S2 _ (fun y hy => .inl hy)
      refine pc_se ?_; intro u226 _
      refine pc_if (fun _ => R617) (fun _ => ?_)
      refine pc_se ?_; intro u228 _
      exact pc_if (fun _ => pc_ret (.inl S2)) (fun _ => R617)
    · obtain ⟨⟨x1, x2, x3, x4, x5⟩, ⟨x6, x7, x8⟩, ⟨x9, x10, x11⟩, ⟨x12, x13, x14⟩, -⟩ := K.1
      have B16 : BX X h16 r := Q16.1
      have Bu : BX X u19 v.2 := bx_e B16 x9 x10
      have e1 := E16 34 1 (by omega)
      have e3 := E16 34 3 (by omega)
      have e8 : v.2 180 = bB X 180 := funext (fun y => Bu.2.2.2.2.2.2.1 180 y (by omega))
      have v1f : VTn (bn X) 1 := .inr (.inr (.inr (.inr (.inr (.inl (by omega))))))
      have ty1 : ty_T 1 = 10 := rfl
      rw [x6]
      by_cases ft : FTS (bB X 180) (u19 49 12) 1
      · have th := fts_1 ft
        have CC : Pc (mx_sv (qf_X4_fits nn 12 (u19 49 12) 1 u19) fun u24 => if ¬ u24 = 0 then (qj_X0_readThrow_57 nn u19) else (mx_sv (qf_X9_tell nn 6 (p : Int) u19) fun u27 => qj_X0_readThrow_57 nn u27)) (fun x => ∃ g1 g2, COp 191 u19 g1 ∧ CPo 1 g1 g2 ∧ x = (0, up_M g2 2 10 ((t + 1 : Nat) : Int))) := by
          refine pc_sv (c_fit Y Bu x7 v1f) ?_; intro u24 q24
          refine pc_if (fun _ => ?_) (fun z => absurd (yn_1 q24 ft) z)
          unfold qj_X0_readThrow_57
          refine pc_sv (c_op (by omega)) ?_; intro u3 A1
          have l3 := A1.2.2 34 3 (by omega) (by omega)
          refine pc_sv (c_pop (by omega) (by omega)) ?_; intro u6 A2
          have l10 : u6 2 10 = (t : Int) := by rw [A2.2 2 10 (by omega), A1.2.2 2 10 (by omega) (by omega)]; exact x1
          refine pc_add (by omega) ?_; intro v9 e9
          refine pc_xl ?_; intro h10' e10
          exact pc_ret ⟨u3, u6, A1, A2, by rw [e10, show v9 = ((t + 1 : Nat) : Int) by omega]⟩
        obtain ⟨g1, g2, A1, A2, ex2⟩ := CC x ex
        refine pc_sv (r_isTh n8 x7) ?_; intro u226 q226
        refine pc_if (fun z => absurd z (by omega)) (fun _ => ?_)
        rw [← ty1]
        refine pc_sv (r_fit Y e8 x7 v1f) ?_; intro u228 q228
        refine pc_if (fun _ => ?_) (fun z => absurd (yn_1 q228 ft) z)
        refine pc_ret (.inr ?_)
        rw [ex2]
        refine sl_eo Y Wb Q ne nb E16 K (FM (by omega)) n3 (by omega) SE A1 A2 rfl (by omega) (by unfold in_R; omega) (.inl rfl) (fun d2 m R MT MTB m51 HW => ?_)
        cases d2 with
        | zero => exact fun _ z => nomatch z
        | succ d2 =>
          refine sjm_8 ((MT 167 _ (by omega)).trans nd.1) ?_
          refine pc_rA ?_; intro _ _ v128 e128
          rw [MT 170 _ (by omega)] at e128
          rw [e128]
          refine pc_sv HW ?_; intro w ⟨_, Hw⟩
          exact Hw
      · have CC : Pc (mx_sv (qf_X4_fits nn 12 (u19 49 12) 1 u19) fun u24 => if ¬ u24 = 0 then (qj_X0_readThrow_57 nn u19) else (mx_sv (qf_X9_tell nn 6 (p : Int) u19) fun u27 => qj_X0_readThrow_57 nn u27)) (fun x => x.2 2 11 = 6 ∧ x.2 2 12 = bP X p) := by
          refine pc_sv (c_fit Y Bu x7 v1f) ?_; intro u24 q24
          refine pc_if (fun z => absurd (yn_0 q24 ft) z) (fun _ => ?_)
          refine pc_sv (c_tell Bu.1.1.1.1 x4 q2 rfl) ?_; intro u25 ⟨s1, _⟩
          exact pc_imp (fs_qj_X0_readThrow_57 (by omega)) (fun x F => ⟨by rw [F.1]; exact s1.1, by rw [F.2]; exact s1.2⟩)
        obtain ⟨s1, s2⟩ := CC x ex
        have R617 : Pc (qj_X13_ruled_617 nn rc s v.2) (fun y => SFj x.2 y.2 ∨ SOk nn X s a b p (t + 1) bb h r x y) := by
          unfold qj_X13_ruled_617
          refine pc_rA ?_; intro _ _ v54 e54
          rw [Bu.2.2.2.2.2.1 168 _ (by omega), nd.2] at e54
          refine pc_sv (r_wrong Bu.1.1.2.2.1 q2 x5 e54) ?_; intro u56 w1
          exact pc_ret (.inl (sf_mk (c := 6) (pl := bP X p) (by decide) s1 s2 w1.1 w1.2))
        refine pc_se ?_; intro u226 _
        refine pc_if (fun _ => R617) (fun _ => ?_)
        rw [← ty1]
        refine pc_sv (r_fit Y e8 x7 v1f) ?_; intro u228 q228
        exact pc_if (fun z => absurd (yn_0 q228 ft) z) (fun _ => R617)
end

/- S of both sides: a variable, whole -/
section
variable {nn : Nat} {X : BCx} {dp i a b a1 b1 a2 b2 e s bb lb lh d o en k ix bs rw : Int} {p q t uu : Nat} {h g u r w m z k0 k1 k2 k3 : ms_M} {v : Int × ms_M} {PB : Nat → Prop} {WL : Int → Int → Prop} {L : List (Int × Int)}
/-- store and the new variable, the making -/
theorem m_store {n ty : Int} {g1 g2 g3 k3 : ms_M} (M : MKx X PB WL L u m) (A1 : COp (if ty = 301 ∨ ty = 302 then 54 else 58) u g1) (A2 : COp n g1 g2) (A3 : CPo 1 g2 g3) (A4 : CLa (bV X t) ty g3 k3) (kt : bK X t = 2) (hn : n = u 34 7) (h7 : u 34 7 < 750) (h3 : 1 ≤ u 34 3) (vt : VTy ty) (n3 : ¬ ty = 300 ∧ ¬ ty = 303) (vq : VTn (bn X) ty) (WN : ∀ p k, WL p k → k ≤ u 34 7) (b1 : u 34 1 ≤ 900000) (b3 : u 34 3 ≤ 3000) {ty2 : Int} (ty2e : (ty2 = ty_T ty) ∨ (ty2 = 2 ∧ ¬ (ty = 301 ∨ ty = 302))) : Pc (qf_X13_store nn ty2 (m 160 50) m) (fun w => (∀ cc x : Nat, ¬ (cc = 160 ∧ (x = 68 ∨ x = 70)) → ¬ cc = 206 → w cc x = m cc x) ∧ Pc (qf_X13_comes nn (t : Int) (ty_T ty) w) (fun w2 => MKx X PB WL L k3 w2 ∧ ∀ cc x : Nat, ¬ (cc = 160 ∧ (x = 50 ∨ x = 68 ∨ x = 70 ∨ x = 72)) → ¬ (cc = 206 ∨ cc = 196 ∨ cc = 197) → w2 cc x = m cc x)) := by
  have SG := M.1.2.2.2.1
  have SC := M.1.2.2.2.2.2.2.2
  have cb := M.1.1.1
  have sk := M.2.1
  have s1 := SG.1
  have tyc := ty_c vt
  have T13 : ∀ o : Int, o = (if ty = 301 ∨ ty = 302 then 54 else 58) → Pc (qj_X13_store_13 nn (m 160 50) o m) (fun w => (∀ cc x : Nat, ¬ (cc = 160 ∧ (x = 68 ∨ x = 70)) → ¬ cc = 206 → w cc x = m cc x) ∧ Pc (qf_X13_comes nn (t : Int) (ty_T ty) w) (fun w2 => MKx X PB WL L k3 w2 ∧ ∀ cc x : Nat, ¬ (cc = 160 ∧ (x = 50 ∨ x = 68 ∨ x = 70 ∨ x = 72)) → ¬ (cc = 206 ∨ cc = 196 ∨ cc = 197) → w2 cc x = m cc x)) := fun o eo => by
    unfold qj_X13_store_13
    refine pc_sv (r_put (by omega)) ?_; intro u2 B1
    refine pc_sv (r_local (F := bF X) (by rw [B1.2.2 160 53 (by omega) (by omega)]; exact SC.2.1) (by omega)) ?_; intro u4 q4
    have l68 := B1.1
    refine pc_sv (r_put (by omega)) ?_; intro u6 B2
    refine pc_sub (by rw [B2.2.2 160 70 (by omega) (by omega), B1.2.2 160 70 (by omega) (by omega)]; omega) ?_; intro v8 e8
    refine pc_xl ?_; intro h9 e9
    have M1 : MKx X PB WL L g1 u2 := mk_op M A1 B1 (fun _ => eo) (by unfold in_R; split <;> omega)
    have M2 : MKx X PB WL L g2 u6 := mk_op M1 A2 B2 (fun _ => by rw [q4]; omega) (by unfold in_R; omega)
    have g23 : g2 34 3 = u 34 3 := by rw [A2.2.2 34 3 (by omega) (by omega)]; exact A1.2.2 34 3 (by omega) (by omega)
    have g37 : g3 34 7 = u 34 7 := by rw [A3.2 34 7 (by omega), A2.2.2 34 7 (by omega) (by omega)]; exact A1.2.2 34 7 (by omega) (by omega)
    have M3 : MKx X PB WL L g3 h9 := mk_pop M2 A3 (by omega) (by rw [e9, e8])
    have E9 : ∀ cc x : Nat, ¬ (cc = 160 ∧ (x = 68 ∨ x = 70)) → ¬ cc = 206 → h9 cc x = m cc x := fun cc x q1 q2 => by rw [e9, up_n (by omega), B2.2.2 cc x (by omega) (by omega)]; exact B1.2.2 cc x (by omega) (by omega)
    refine pc_ret ⟨E9, ?_⟩
    unfold qf_X13_comes
    refine pc_sv r_come ?_; intro u2' RC
    refine pc_xl ?_; intro v5 e5
    refine pc_xl ?_; intro h6 e6
    refine pc_ret ⟨mk_loc M3 A4 RC (by rw [e6, e5]) rfl kt (by omega) ⟨vq, n3.2⟩ (fun p k y => by rw [g37]; exact WN p k y), fun cc x q1 q2 => ?_⟩
    rw [e6, up_n (by omega), RC.2.2.2.2 cc x (by omega) (by omega)]
    exact E9 cc x (by omega) (by omega)
  unfold qf_X13_store
  refine pc_if (fun z => T13 58 ?_) (fun z => T13 54 ?_)
  · rw [if_neg (by rcases ty2e with y | y <;> omega)]
  · rw [if_pos (by rcases ty2e with y | y <;> omega)]
theorem c_store {n ty : Int} (hl : 0 ≤ h 34 1 ∧ h 34 1 ≤ 900000) (h3 : 0 ≤ h 34 3 ∧ h 34 3 ≤ 2000000) : Pc (qf_X1_store nn n ty h) (fun u => ∃ g1 g2, COp (if ty = 301 ∨ ty = 302 then 54 else 58) h g1 ∧ COp n g1 g2 ∧ CPo 1 g2 u) := by
  have T15 : ∀ o : Int, Pc (qj_X1_store_15 nn n o h) (fun u => ∃ g1 g2, COp o h g1 ∧ COp n g1 g2 ∧ CPo 1 g2 u) := fun o => by
    unfold qj_X1_store_15
    refine pc_sv (c_op2 (by omega)) ?_; intro u2 ⟨g1, A1, A2⟩
    refine pc_sv (c_pop (by omega) (by rw [A2.2.2 34 3 (by omega) (by omega), A1.2.2 34 3 (by omega) (by omega)]; exact h3)) ?_; intro u4 A3
    exact pc_ret ⟨g1, u2, A1, A2, A3⟩
  unfold qf_X1_store
  refine pc_sv c_isNum ?_; intro u5 q5
  refine pc_if (fun z => ?_) (fun z => ?_)
  · rw [if_neg (show ¬ (ty = 301 ∨ ty = 302) by omega)]; exact T15 58
  · rw [if_pos (show ty = 301 ∨ ty = 302 by omega)]; exact T15 54
theorem s6_tv (Y : CXs X) (Wb : BRw X) (ne : 0 ≤ a ∧ a ≤ s ∧ s < b) (nb : b ≤ 8999) (hd : 0 ≤ d ∧ d ≤ 40) (nd : bT X 167 s.toNat = 2 ∧ bT X 168 s.toNat = (t : Int) ∧ bT X 172 s.toNat = 4 * (p : Int) + 2 * rw ∧ bT X 175 s.toNat = bs ∧ bT X 176 s.toNat = ((t + 1 : Nat) : Int)) (ty : TYk (bK X) (p : Int) (t : Int) bs rw ∧ TYp (bK X) (p : Int)) (kk : bK X t = 2 ∧ bK X (t + 1) = 51) (H : E0 nn X (d + 1) ix (s + 1) b (t + 2) uu (bT X 170 s.toNat)) (ku : bK X uu = 46) (tu : t + 2 < uu) : S6 nn X d a b p (uu + 1) s := by
  intro dc dr h r bb Q U
  have Q0 := Q
  obtain ⟨Qe, ⟨h3, h10, r57, h7⟩, ⟨LP, l54, br⟩, -⟩ := Q0
  have Qe0 := Qe
  obtain ⟨B, ⟨q1, q2, q3, q4⟩, ⟨f1, f2, f3⟩, o1⟩ := Qe0
  have T : ∀ cc y : Nat, ((163 ≤ cc ∧ cc ≤ 173) ∨ cc = 177) → r cc y = bT X cc y := B.2.2.2.2.2.1
  have c3 := Y.1.2.1
  have n8 := Y.2.2.1
  have uc : uu < bc X := tb_lt Y.1 (by omega)
  have u1c : uu + 1 < bc X := jp_lt Y.1 uc (by omega)
  have TK : (bK X p = 10 ∧ bs = 1 ∧ rw = 0 ∧ (t : Int) = (p : Int) + 1) ∨ (((bK X p = 20 ∧ bs = 0) ∨ (bK X p = 2 ∧ bs = 3)) ∧ ((bK X (p + 1) = 44 ∧ bK X (p + 2) = 45 ∧ rw = 1 ∧ (t : Int) = (p : Int) + 3) ∨ (¬ bK X (p + 1) = 44 ∧ rw = 0 ∧ (t : Int) = (p : Int) + 1))) := ty.1
  have kpb : ¬ bK X p = 11 ∧ ¬ bK X p = 14 ∧ ¬ bK X p = 18 ∧ ¬ bK X p = 23 ∧ ¬ bK X p = 24 ∧ ¬ bK X p = 27 ∧ ¬ bK X p = 29 ∧ ¬ bK X p = 31 ∧ ¬ bK X p = 42 := by omega
  have hrw : rw = 0 ∨ rw = 1 := by omega
  have hbs : bs = 0 ∨ bs = 1 ∨ bs = 2 ∨ (bs = 3 ∧ bK X p = 2) := by omega
  have kp3 : bs = 3 → bK X (p : Int).toNat = 2 := fun z => by rw [Int.toNat_natCast]; omega
  have pt : p < t := by omega
  obtain ⟨us1, us2⟩ := U s.toNat (by omega) (by omega)
  cases dc with
  | zero => exact fun _ z => nomatch z
  | succ dc =>
    refine sjc_d Y B.1.1.1.1 q1 q2 q3 (by omega) kpb ?_
    unfold qj_X0_readStatement_217
    refine pc_sv (c_bv1 Y B.1.1.1.1 q1 q2 q3 ty.2) ?_; intro u3 q3'
    refine pc_if (fun z => absurd z (by omega)) (fun _ => ?_)
    refine pc_add (by omega) ?_; intro v8 e8
    rw [e8]
    refine pc_sv (P := fun x => Pc ((qg_X13_ruled nn dr) s r) (fun y => SFj x.2 y.2 ∨ SOk nn X s a b p (uu + 1) bb h r x y)) ?_ (fun x Hx => pc_ck (fun _ => pc_ret Hx))
    unfold qf_X0_readVariable
    -- the rules up to the type
    have R179 : ∀ {Z : Int × ms_M → Prop}, (∀ rc : tq_X13_ruled, (∃ dd, rc = qg_X13_ruled nn dd) → Pc (qj_X13_ruled_179 nn rc s rw (p : Int) bs r) Z) → Pc ((qg_X13_ruled nn dr) s r) Z := fun {Z} HH => by
      cases dr with
      | zero => exact fun _ z => nomatch z
      | succ dr =>
        refine sju_2 q4 ((T 167 _ (by omega)).trans nd.1) ?_
        refine pc_rA ?_; intro _ _ v178 e178
        rw [us1, nd.2.2.2.1] at e178
        refine pc_rA ?_; intro _ _ v180 e180
        rw [T 172 _ (by omega), nd.2.2.1] at e180
        refine pc_xl ?_; intro v181 e181
        refine pc_rA ?_; intro _ _ v183 e183
        rw [T 172 _ (by omega), nd.2.2.1] at e183
        refine pc_xl ?_; intro v184 e184
        rw [Int.tdiv_eq_ediv_of_nonneg (by omega)] at e181
        rw [Int.tmod_eq_emod_of_nonneg (by omega)] at e184
        have H1 := HH (qg_X13_ruled nn dr) ⟨dr, rfl⟩
        rw [e178, show v181 = (p : Int) by omega]
        refine pc_if (fun z => ?_) (fun z => ?_)
        · rw [show rw = 0 by omega] at H1; exact H1
        · rw [show rw = 1 by omega] at H1; exact H1
    refine pc_sv (c_type Y.1 Y.2.1 n8 B.1.1.1.1 B.1.1.1.2.1 B.1.1.2.1 q3 q1 ty.1 (by omega)) ?_; intro u16 q16
    rcases q16 with ⟨TS, t10, E16⟩ | ⟨b3, cl, s1, s2⟩
    · have ts := tys_n Y.2.1 n8 kp3 TS
      have tsv := tys_v Y.2.1 n8 kp3 TS
      generalize ety : u16.1 = tt at TS ts tsv ⊢
      have nv : ¬ tt = 303 := tsv.2.1.elim (fun y => absurd y (by omega)) id
      have B16 : BX X u16.2 r := bx_k B (fun cc x z => E16 cc x (by omega)) (fun _ _ _ => rfl)
      have f16 : u16.2 2 11 = 0 := by rw [E16 2 11 (by omega)]; exact q3
      -- the rules behind the type
      have R209 : ∀ {Z : Int × ms_M → Prop}, (∀ rc : tq_X13_ruled, (∃ dd, rc = qg_X13_ruled nn dd) → Pc (mx_sv (qf_X13_sightOf nn (t : Int) r) fun u135 => if u135 = (-1) then (qj_X13_ruled_209 nn rc s (ty_T tt) r) else (rd_A 9000 168 s r fun v137 => mx_sv (qf_X13_wrong nn 4 v137 r) fun u139 => qj_X13_ruled_209 nn rc s (ty_T tt) u139)) Z) → Pc ((qg_X13_ruled nn dr) s r) Z := fun {Z} HH => by
        refine R179 (fun rc hrc => ?_)
        unfold qj_X13_ruled_179
        refine pc_sv (r_type Y.1 Y.2.1 n8 B.1.1.2.2 q4 hbs hrw) ?_; intro u131 q131
        rcases q131 with ⟨⟨ty3, TS3, e131⟩, e2⟩ | ⟨b3, cl, -⟩
        · have := tys_d TS3 TS
          rw [e131, e2, this]
          refine pc_rA ?_; intro _ _ v133 e133
          rw [T 168 _ (by omega), nd.2.1] at e133
          rw [e133]
          exact HH rc hrc
        · exfalso
          rcases TS with y | y | y | y | ⟨-, c2, c3, c4, -⟩
          · omega
          · omega
          · omega
          · omega
          · rw [Int.toNat_natCast] at c3
            exact c4 (cls_d c3 cl)
      rw [t10]
      have CT : Pc (qf_X0_checkTwice nn (t : Int) u16.2) (fun u => ∃ n : Int, qf_X1_localOf nn (bV X t) u16.2 = some n ∧ ((n = -1 ∧ u = u16.2) ∨ (¬ n = -1 ∧ u 2 11 = 4 ∧ u 2 12 = bP X t))) := by
        unfold qf_X0_checkTwice
        refine pc_sv (c_valueAt Y.1 B16.1.1.1.1 B16.1.1.1.2.1 kk.1 rfl) ?_; intro u4 q4'
        rw [q4']
        refine pc_se ?_; intro u6 e6
        refine pc_if (fun z => pc_ret ⟨u6, e6, .inl ⟨z, rfl⟩⟩) (fun z => ?_)
        refine pc_sv (c_tell B16.1.1.1.1 f16 (t := t) (by omega) rfl) ?_; intro u9 ⟨s9, _⟩
        exact pc_ret ⟨u6, e6, .inr ⟨z, s9.1, s9.2⟩⟩
      refine pc_sv CT ?_; intro u20 ⟨ln, e47, q20⟩
      have JL := j_loc Y.1 B16.1.1.2.2.2.1 B16.2.1 kk.1 rfl rfl ln e47
      rcases q20 with ⟨ln1, e20⟩ | ⟨ln1, s1, s2⟩
      · rw [e20]
        refine pc_add (by omega) ?_; intro v22 e22
        refine pc_xl ?_; intro h23 e23
        rw [show v22 = ((t + 2 : Nat) : Int) by omega] at e23
        have E23 : ∀ cc x : Nat, ¬ (cc = 2 ∧ x = 10) → h23 cc x = h cc x := fun cc x z => by rw [e23, up_n z]; exact E16 cc x z
        have Q23 : EPr X (d + 1) (t + 2) h23 r := epr_in (epr_d Qe (by omega)) E23 (by rw [e23, up_s]) (by omega) (by omega)
        refine pc_sv (se_g Y H (.inr (.inr (.inl ku))) Q23 r57 (by omega) (fun _ => by rw [E23 49 18 (by omega)]; omega) (by omega)) ?_; intro u26 H26
        intro x ex
        refine R209 (fun rc hrc => ?_)
        obtain ⟨dd, erc⟩ := hrc
        refine pc_sv JL ?_; intro u135 L135
        have n135 : u135 = -1 := by
          rcases L135 with y | ⟨y, y1, y2, y3⟩
          · exact y.2
          · omega
        refine pc_if (fun _ => ?_) (fun z => absurd n135 z)
        unfold qj_X13_ruled_209
        refine pc_rA ?_; intro _ _ v120 e120
        rw [T 170 _ (by omega)] at e120
        rw [e120]
        refine pc_sv H26 ?_; intro v hv
        rcases hv with S | ⟨⟨K, n3, FM⟩, SE⟩
        · have FX : Pc (mx_sv (qf_X4_fits nn 12 (u26 49 12) tt u26) fun u31 => if ¬ u31 = 0 then (qj_X0_readVariable_69 nn tt (t : Int) u26) else (xl (oq_add (t : Int) 1) fun v33 => mx_sv (qf_X9_tell nn 6 v33 u26) fun u35 => qj_X0_readVariable_69 nn tt (t : Int) u35)) (fun x => FSc u26 x.2) := by
            refine pc_se ?_; intro u31 _
            refine pc_if (fun _ => fs_qj_X0_readVariable_69 S.1) (fun _ => ?_)
            refine pc_xl ?_; intro v33 _
            refine pc_sv (fs_qf_X9_tell S.1) ?_; intro u35 F
            exact pc_imp (fs_qj_X0_readVariable_69 (fs_n S.1 F)) (fun _ q => fs_t F q)
          have S2 := sf_c S (FX x ex)
          have R244 : ∀ g : ms_M, SFj x.2 g → Pc (qj_X13_ruled_244 nn rc s (ty_T tt) g) (fun y => SFj x.2 y.2 ∨ SOk nn X s a b p (uu + 1) bb h r x y) := fun g Sg => pc_imp (ft_qj_X13_ruled_244 (by rw [erc]; exact ftg_X13_ruled nn dd) (sf_r Sg)) (fun y Fy => .inl ⟨Sg.1, by rw [Fy.1]; exact Sg.2.1, by rw [Fy.2]; exact Sg.2.2⟩)
          refine pc_se ?_; intro u124 _
          refine pc_if (fun _ => R244 v.2 S2) (fun _ => ?_)
          refine pc_rA ?_; intro _ _ v126 _
          refine pc_sv (ft_qf_X13_wrong (sf_r S2)) ?_; intro u128 F6
          exact R244 u128 ⟨S2.1, by rw [F6.1]; exact S2.2.1, by rw [F6.2]; exact S2.2.2⟩
        · obtain ⟨⟨x1, x2, x3, x4, x5⟩, ⟨x6, x7, x8⟩, ⟨x9, x10, x11⟩, ⟨x12, x13, x14⟩, -⟩ := K.1
          have FX := FM (by omega)
          obtain ⟨⟨y1, -⟩, y2⟩ := FX.2.2 (by omega)
          rw [if_neg n3] at y1
          have Bu : BX X u26 v.2 := bx_e Q23.1 x9 x10
          have e1 := E23 34 1 (by omega)
          have e3 := E23 34 3 (by omega)
          have e7 := E23 34 7 (by omega)
          have e8' : v.2 180 = bB X 180 := funext (fun y => Bu.2.2.2.2.2.2.1 180 y (by omega))
          have CE : CFe h u26 := fun cc x a1 a2 a3 a4 a5 a6 a7 a8 => by rw [x9 cc x a1 a2 a3 a4 a5 a6 a7 a8]; exact E23 cc x (by omega)
          have u7 : u26 34 7 = h 34 7 := CE 34 7 (by omega) (by omega) (by omega) (by omega) (by omega) (by omega) (by omega) (by omega)
          have u12' : u26 33 12 = h 33 12 := CE 33 12 (by omega) (by omega) (by omega) (by omega) (by omega) (by omega) (by omega) (by omega)
          have u18 : u26 49 18 = h 49 18 := CE 49 18 (by omega) (by omega) (by omega) (by omega) (by omega) (by omega) (by omega) (by omega)
          rw [x6]
          refine pc_sv (r_fit Y e8' x7 ts.1) ?_; intro u124 q124
          by_cases ft : FTS (bB X 180) (u26 49 12) tt
          · have CC : Pc (mx_sv (qf_X4_fits nn 12 (u26 49 12) tt u26) fun u31 => if ¬ u31 = 0 then (qj_X0_readVariable_69 nn tt (t : Int) u26) else (xl (oq_add (t : Int) 1) fun v33 => mx_sv (qf_X9_tell nn 6 v33 u26) fun u35 => qj_X0_readVariable_69 nn tt (t : Int) u35)) (fun x => ∃ k0 k1 k2 k3, CLa (bV X t) tt u26 k0 ∧ COp (if tt = 301 ∨ tt = 302 then 54 else 58) k0 k1 ∧ COp (h 34 7) k1 k2 ∧ CPo 1 k2 k3 ∧ x = (1, up_M k3 2 10 ((uu + 1 : Nat) : Int))) := by
              refine pc_sv (c_fit Y Bu x7 ts.1) ?_; intro u31 q31
              refine pc_if (fun _ => ?_) (fun z => absurd (yn_1 q31 ft) z)
              unfold qj_X0_readVariable_69
              refine pc_sv (c_valueAt Y.1 Bu.1.1.1.1 Bu.1.1.1.2.1 kk.1 rfl) ?_; intro u5 q5
              rw [q5]
              have s7 := Bu.2.1.1
              refine pc_sv (c_addLocal (by omega)) ?_; intro u7' ⟨n7, A0⟩
              have k1' := A0.2.2.2 34 1 (by omega) (by omega)
              have k3' := A0.2.2.2 34 3 (by omega) (by omega)
              refine pc_sv (c_store (by omega) (by omega)) ?_; intro u9 ⟨g1, g2, A1, A2, A3⟩
              have l10 : u9 2 10 = (uu : Int) := by rw [A3.2 2 10 (by omega), A2.2.2 2 10 (by omega) (by omega), A1.2.2 2 10 (by omega) (by omega), A0.2.2.2 2 10 (by omega) (by omega)]; exact x1
              refine pc_add (by omega) ?_; intro v12 e12
              refine pc_xl ?_; intro h13 e13
              exact pc_ret ⟨u7'.2, g1, g2, u9, A0, A1, by rw [← u7, ← n7]; exact A2, A3, by rw [e13, show v12 = ((uu + 1 : Nat) : Int) by omega]⟩
            obtain ⟨k0, k1, k2, k3, A0, A1, A2, A3, ex2⟩ := CC x ex
            refine pc_if (fun _ => ?_) (fun z => absurd (yn_1 q124 ft) z)
            unfold qj_X13_ruled_244
            refine pc_wA ?_; intro _ _ h114 e114
            have E114 : ∀ cc x : Nat, ¬ (cc = 174 ∧ x = s.toNat) → h114 cc x = v.2 cc x := fun cc x q => by rw [e114, up_n q]
            refine pc_rA ?_; intro _ _ v116 e116
            rw [E114 168 _ (by omega), Bu.2.2.2.2.2.1 168 _ (by omega), nd.2.1] at e116
            rw [e116]
            refine pc_sv r_come ?_; intro u118 RC
            obtain ⟨g1, g2, g3, G1, G2, G3, G4⟩ := cla_swap A0 A1 A2 A3
            have g3E : ∀ cc y : Nat, ¬ ((cc = 34 ∧ (y = 1 ∨ y = 3)) ∨ (cc = 35 ∧ u26 34 1 ≤ (y : Int))) → g3 cc y = u26 cc y := fun cc y q => by
              have l1 := G1.1
              rw [G3.2 cc y (by omega), G2.2.2 cc y (by omega) (by omega)]; exact G1.2.2 cc y (by omega) (by omega)
            have g37 := g3E 34 7 (by omega)
            have g31 : g3 34 1 = u26 34 1 + 2 := by rw [G3.2 34 1 (by omega), G2.1, G1.1]; omega
            have g33 : g3 34 3 = 0 := by rw [G3.1, G2.2.2 34 3 (by omega) (by omega), G1.2.2 34 3 (by omega) (by omega)]; split <;> omega
            have B3 : BX X g3 h114 := bx_k Bu (fun cc x z => g3E cc x (by omega)) (fun cc x z => E114 cc x (by omega))
            have B4 : BX X k3 u118 := bx_loc B3 G4 RC rfl kk.1 (by omega) ⟨ts.1, nv⟩
            generalize ezz : up_M k3 2 10 ((uu + 1 : Nat) : Int) = z at ex2
            have ez := ezz.symm
            have ZK : ∀ cc y : Nat, ¬ (cc = 2 ∧ y = 10) → z cc y = k3 cc y := fun cc y q => by rw [ez, up_n q]
            have ZU : ∀ cc y : Nat, ¬ ((cc = 2 ∧ y = 10) ∨ (cc = 34 ∧ (y = 1 ∨ y = 3 ∨ y = 7 ∨ y = 8)) ∨ (cc = 35 ∧ u26 34 1 ≤ (y : Int)) ∨ ((cc = 37 ∨ cc = 38) ∧ y = (u26 34 7).toNat)) → z cc y = u26 cc y := fun cc y q => by
              rw [ZK cc y (by omega), G4.2.2.2 cc y (by omega) (by omega)]; exact g3E cc y (by omega)
            have z7 : z 34 7 = h 34 7 + 1 := by rw [ZK 34 7 (by omega), G4.1]; omega
            have z1 : z 34 1 = u26 34 1 + 2 := by rw [ZK 34 1 (by omega), G4.2.2.2 34 1 (by omega) (by omega)]; exact g31
            have z3 : z 34 3 = 0 := by rw [ZK 34 3 (by omega), G4.2.2.2 34 3 (by omega) (by omega)]; exact g33
            have z12 : z 33 12 = h 33 12 := by rw [ZU 33 12 (by omega)]; exact u12'
            have Cu : CFs h u26 := cfs_e CE (by have := SE.1.1; omega) (fun x hx => by rw [SE.1.2 x (by omega)]; exact E23 35 x (by omega))
            have Cz : CFs h z := by
              refine cfs_t Cu ⟨fun cc x q => ZU cc x (by omega), ⟨ZU 33 9 (by omega), ZU 33 10 (by omega), by rw [ZU 33 12 (by omega)]; exact Int.le_refl _, by omega⟩, fun x hx => ⟨ZU 37 x (by omega), ZU 38 x (by omega)⟩, ⟨fun x hx => ZU 44 x (by omega), fun x c1 c2 => by have := ZU 33 12 (by omega); omega⟩, by omega, fun x hx => ZU 35 x (by omega)⟩
            have RR : RFz a b r u118 := by
              have R1 : RFz (s + 1) b r v.2 := rfs_e x10 SE.2 ⟨Int.le_refl _, Int.le_refl _⟩
              have R2 : RFz a b v.2 u118 := by
                have h50 := E114 160 50 (by omega)
                refine ⟨fun cc x q => by rw [RC.2.2.2.2 cc x (by omega) (by omega)]; exact E114 cc x (by omega), fun cc x c1 c2 c4 => by rw [RC.2.2.2.2 cc x (by omega) (by omega)]; exact E114 cc x (by omega), ⟨by rw [RC.2.2.2.2 160 54 (by omega) (by omega)]; exact E114 160 54 (by omega), by rw [RC.2.2.2.2 160 57 (by omega) (by omega)]; exact E114 160 57 (by omega), by rw [RC.2.1]; omega⟩, fun x hx => ⟨by rw [RC.2.2.2.2 196 x (by omega) (by omega)]; exact E114 196 x (by omega), by rw [RC.2.2.2.2 197 x (by omega) (by omega)]; exact E114 197 x (by omega)⟩, fun x hx => by rw [RC.2.2.2.2 198 x (by omega) (by omega)]; exact E114 198 x (by omega)⟩
              exact rfs_t R1 R2 ⟨by omega, Int.le_refl _⟩ ⟨Int.le_refl _, Int.le_refl _⟩
            have v98 : u118 198 (r 160 54).toNat = r 198 (r 160 54).toNat := by rw [RC.2.2.2.2 198 _ (by omega) (by omega), E114 198 _ (by omega)]; exact x10.1 198 _ (by omega) (by omega) (by omega)
            have bm := brw_l Wb (p := p) (q := uu + 1) (by omega) u1c
            have u10' : u26 49 10 = 0 := by rw [x11.1, E23 49 10 (by omega)]; exact h10
            refine pc_ret (.inr ?_)
            rw [ex2]
            refine ⟨⟨rfl, .inr rfl⟩, ⟨⟨by show z 2 10 = _; rw [ez, up_s], u1c, by omega, by show z 2 11 = 0; rw [ZU 2 11 (by omega)]; exact x4, by show u118 160 9 = 0; rw [RC.2.2.2.2 160 9 (by omega) (by omega), E114 160 9 (by omega)]; exact x5⟩, ⟨bx_k B4 (fun cc x q => ZK cc x (by omega)) (fun _ _ _ => rfl), Cz, RR⟩, ⟨frc_k x12 (fun cc x q => ZU cc x (by omega)), by show z 34 1 + _ ≤ _; omega, z3, by show z 49 10 = 0; rw [ZU 49 10 (by omega)]; exact u10', by show z 49 18 ≤ _; rw [ZU 49 18 (by omega)]; omega⟩, by show 5 * z 34 7 + _ ≤ _; omega, by show 6 * z 33 12 + _ ≤ _; omega, lpx_k LP Cz.2.1.1 Cz.2.1.2.1 z12 Cz.2.2.2.2.1 Cz.2.1.2.2.2 RR.2.2.1.1 v98⟩, ?_⟩
            intro d2 PB WL L lb lh m I
            obtain ⟨⟨M, AM⟩, ⟨m57, m88, m54, m51⟩, -, WN, CO⟩ := I
            obtain ⟨MT, MTB, -⟩ := mk_t M
            have a174 : m 174 s.toNat = ty_T tt := by
              rw [AM 174 s.toNat (by omega) (by omega) (by omega) (by omega)]
              show u118 174 s.toNat = _
              rw [RC.2.2.2.2 174 _ (by omega) (by omega), e114, up_s]
            cases d2 with
            | zero => exact fun _ z => nomatch z
            | succ d2 =>
              refine sjm_2 ((MT 167 _ (by omega)).trans nd.1) ?_
              refine pc_rA ?_; intro _ _ v51 e51
              rw [MT 170 _ (by omega)] at e51
              rw [e51]
              refine pc_sv (se_m (a := s + 1) (b := b) y2 (mkx_c M (fun cc x q1 q2 q3 => E23 cc x (by omega))) (an_s AM ⟨by omega, Int.le_refl _⟩ (fun cc x c1 c2 c4 c5 => by show u118 cc x = _; rw [RC.2.2.2.2 cc x (by omega) (by omega)]; exact E114 cc x (by omega))) m57 (by omega) (by omega)) ?_; intro w1 ⟨⟨Mw, lw⟩, Fw, Ew⟩
              refine pc_rA ?_; intro _ _ v55 e55
              rw [Ew 174 _ (by omega), a174] at e55
              rw [e55]
              refine pc_sv (m_store (t := t) Mw G1 G2 G3 G4 kk.1 u7.symm (by omega) (by omega) tsv.1 ⟨ts.2, nv⟩ ts.1 (fun p k y => by rw [u7]; exact WN p k y) (by omega) (by omega) (.inl rfl)) ?_; intro w2 ⟨E2, P2⟩
              refine pc_rA ?_; intro _ _ v60 e60
              rw [E2 168 _ (by omega) (by omega), Ew 168 _ (by omega), MT 168 _ (by omega), nd.2.1] at e60
              refine pc_rA ?_; intro _ _ v62 e62
              rw [E2 174 _ (by omega) (by omega), Ew 174 _ (by omega), a174] at e62
              rw [e60, e62]
              refine pc_sv P2 ?_; intro w3 ⟨M3, E3⟩
              have l88 := E3 160 88 (by omega) (by omega)
              exact pc_ret ⟨rfl, mg_nil (mkx_c M3 (fun cc x q1 q2 q3 => by show z cc x = _; exact ZK cc x (by omega))) (mwf_t Fw (mwf_o (fun cc x q => E3 cc x (by omega) (by omega)))) (by show _ ≤ w3 160 88; omega) (by show w3 160 88 + _ ≤ _; omega) z12⟩
          · have CC : Pc (mx_sv (qf_X4_fits nn 12 (u26 49 12) tt u26) fun u31 => if ¬ u31 = 0 then (qj_X0_readVariable_69 nn tt (t : Int) u26) else (xl (oq_add (t : Int) 1) fun v33 => mx_sv (qf_X9_tell nn 6 v33 u26) fun u35 => qj_X0_readVariable_69 nn tt (t : Int) u35)) (fun x => x.2 2 11 = 6 ∧ x.2 2 12 = bP X (t + 1)) := by
              refine pc_sv (c_fit Y Bu x7 ts.1) ?_; intro u31 q31
              refine pc_if (fun z => absurd (yn_0 q31 ft) z) (fun _ => ?_)
              refine pc_add (by omega) ?_; intro v33 e33
              refine pc_sv (c_tell Bu.1.1.1.1 x4 (t := t + 1) (by omega) (by omega)) ?_; intro u35 ⟨s1, _⟩
              exact pc_imp (fs_qj_X0_readVariable_69 (by omega)) (fun x F => ⟨by rw [F.1]; exact s1.1, by rw [F.2]; exact s1.2⟩)
            obtain ⟨s1, s2⟩ := CC x ex
            refine pc_if (fun z => absurd (yn_0 q124 ft) z) (fun _ => ?_)
            refine pc_rA ?_; intro _ _ v126 e126
            rw [x10.2 176 _ (by omega) (by omega) (by omega), us2, nd.2.2.2.2] at e126
            refine pc_sv (r_wrong Bu.1.1.2.2.1 (p := t + 1) (by omega) x5 e126) ?_; intro u128 w1
            refine pc_imp (ft_qj_X13_ruled_244 (by rw [erc]; exact ftg_X13_ruled nn dd) (h := u128) (by omega)) (fun y Fy => ?_)
            exact .inl (sf_mk (c := 6) (pl := bP X (t + 1)) (by decide) s1 s2 (Fy.1.trans w1.1) (Fy.2.trans w1.2))
      · -- the name is there already
        have S20 : ¬ u20 2 11 = 0 := by omega
        refine pc_xl ?_; intro v22 e22
        refine pc_xl ?_; intro h23 e23
        have F23 : FSc u20 h23 := ⟨by rw [e23, up_n (by omega)], by rw [e23, up_n (by omega)]⟩
        refine pc_sv (fs_qf_X10_readWhole (fs_n S20 F23)) ?_; intro u26 F26'
        have F26 := fs_t F23 F26'
        have FX : Pc (mx_sv (qf_X4_fits nn 12 (u26 49 12) tt u26) fun u31 => if ¬ u31 = 0 then (qj_X0_readVariable_69 nn tt (t : Int) u26) else (xl (oq_add (t : Int) 1) fun v33 => mx_sv (qf_X9_tell nn 6 v33 u26) fun u35 => qj_X0_readVariable_69 nn tt (t : Int) u35)) (fun x => FSc u20 x.2) := by
          have S26 := fs_n S20 F26
          refine pc_se ?_; intro u31 _
          refine pc_if (fun _ => pc_imp (fs_qj_X0_readVariable_69 S26) (fun _ q => fs_t F26 q)) (fun _ => ?_)
          refine pc_xl ?_; intro v33 _
          refine pc_sv (fs_qf_X9_tell S26) ?_; intro u35 F
          exact pc_imp (fs_qj_X0_readVariable_69 (fs_n S26 F)) (fun _ q => fs_t F26 (fs_t F q))
        refine pc_imp FX (fun x F => ?_)
        refine R209 (fun rc hrc => ?_)
        obtain ⟨dd, erc⟩ := hrc
        refine pc_sv JL ?_; intro u135 L135
        have n135 : ¬ u135 = -1 := by
          rcases L135 with y | ⟨y, y1, y2, y3⟩
          · exact absurd y.1 ln1
          · omega
        refine pc_if (fun z => absurd z n135) (fun _ => ?_)
        refine pc_rA ?_; intro _ _ v137 e137
        rw [T 168 _ (by omega), nd.2.1] at e137
        refine pc_sv (r_wrong B.1.1.2.2.1 (p := t) (by omega) q4 e137) ?_; intro u139 w1
        refine pc_imp (ft_qj_X13_ruled_209 (by rw [erc]; exact ftg_X13_ruled nn dd) (h := u139) (by omega)) (fun y Fy => ?_)
        exact .inl (sf_mk (c := 4) (pl := bP X t) (by decide) (by rw [F.1]; exact s1) (by rw [F.2]; exact s2) (Fy.1.trans w1.1) (Fy.2.trans w1.2))
    · -- no such class
      have S16 : ¬ u16.2 2 11 = 0 := by omega
      refine pc_sv (fs_qf_X0_checkTwice S16) ?_; intro u20 F20
      refine pc_xl ?_; intro v22 e22
      refine pc_xl ?_; intro h23 e23
      have F23 : FSc u16.2 h23 := fs_t F20 ⟨by rw [e23, up_n (by omega)], by rw [e23, up_n (by omega)]⟩
      refine pc_sv (fs_qf_X10_readWhole (fs_n S16 F23)) ?_; intro u26 F26'
      have F26 := fs_t F23 F26'
      have FX : Pc (mx_sv (qf_X4_fits nn 12 (u26 49 12) u16.1 u26) fun u31 => if ¬ u31 = 0 then (qj_X0_readVariable_69 nn u16.1 (u16.2 2 10) u26) else (xl (oq_add (u16.2 2 10) 1) fun v33 => mx_sv (qf_X9_tell nn 6 v33 u26) fun u35 => qj_X0_readVariable_69 nn u16.1 (u16.2 2 10) u35)) (fun x => FSc u16.2 x.2) := by
        have S26 := fs_n S16 F26
        refine pc_se ?_; intro u31 _
        refine pc_if (fun _ => pc_imp (fs_qj_X0_readVariable_69 S26) (fun _ q => fs_t F26 q)) (fun _ => ?_)
        refine pc_xl ?_; intro v33 _
        refine pc_sv (fs_qf_X9_tell S26) ?_; intro u35 F
        exact pc_imp (fs_qj_X0_readVariable_69 (fs_n S26 F)) (fun _ q => fs_t F26 (fs_t F q))
      refine pc_imp FX (fun x F => ?_)
      refine R179 (fun rc hrc => ?_)
      obtain ⟨dd, erc⟩ := hrc
      unfold qj_X13_ruled_179
      refine pc_sv (r_type Y.1 Y.2.1 n8 B.1.1.2.2 q4 hbs hrw) ?_; intro u131 q131
      rcases q131 with ⟨⟨ty3, TS3, e131⟩, e2⟩ | ⟨b3', cl', w1, w2⟩
      · exfalso
        rcases TS3 with y | y | y | y | ⟨-, c2, c3', c4, -⟩
        · omega
        · omega
        · omega
        · omega
        · rw [Int.toNat_natCast] at c3'
          exact c4 (cls_d c3' cl)
      · have R1 : ¬ u131.2 160 9 = 0 := by omega
        refine pc_rA ?_; intro _ _ v133 _
        refine pc_se ?_; intro u135 _
        have FIN : ∀ g : ms_M, FSr u131.2 g → Pc (qj_X13_ruled_209 nn rc s u131.1 g) (fun y => SFj x.2 y.2 ∨ SOk nn X s a b p (uu + 1) bb h r x y) := fun g Fg => by
          refine pc_imp (ft_qj_X13_ruled_209 (by rw [erc]; exact ftg_X13_ruled nn dd) (h := g) (by rw [Fg.1]; exact R1)) (fun y Fy => ?_)
          exact .inl (sf_mk (c := 5) (pl := bP X p) (by decide) (by rw [F.1]; exact s1) (by rw [F.2]; exact s2) (Fy.1.trans (Fg.1.trans w1)) (Fy.2.trans (Fg.2.trans w2)))
        refine pc_if (fun _ => FIN u131.2 ⟨rfl, rfl⟩) (fun _ => ?_)
        refine pc_rA ?_; intro _ _ v137 _
        refine pc_sv (ft_qf_X13_wrong R1) ?_; intro u139 F6
        exact FIN u139 F6
end

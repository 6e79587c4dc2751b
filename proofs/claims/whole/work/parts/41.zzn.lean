/- RUN: elements and kinds -/
section
variable {nn : Nat} {Bf : Nat → Nat → Int} {nf : Nat → Nat} {cnt : Int} {k i t P H d : Nat} {A B g r u z p h A1 B1 g0 : ms_M} {ω : Int → ms_M} {op o v w c kk tt n ty x y s e : Int} {N a : Nat} {T U : Nat → ms_M}
/-- a cell is written on both sides, the place moves on -/
theorem jo_hw (S : SXc Bf nf cnt A B k i t P op o) (C : CPp A u t H) (D : RPp B z t H) (hl : (H : Int) ≤ B 254 t) (hw : -10000 ≤ w ∧ w ≤ 10000) : Pc (wr_A 20000 147 x v u fun h2 => mx_sv (qf_X5_goOn nn w h2) fun u4 => some u4) (fun g => Pc (wr_A 20000 249 x v z fun h14 => qj_X13_step_1150 nn w h14) (STQ nn Bf nf cnt t B g)) := by
  obtain ⟨q, q4, q5, q6, q7, q8⟩ := sxc_p S
  have f := rr_fra S.2.1 (t := t) (by omega)
  refine pc_wA ?_; intro x0 x1 h2 e2
  refine pc_tw (pc_wA ?_); intro _ _ h14 e14
  refine pc_tw ?_
  refine pc_sv (P := fun g => Pc _ (STQ nn Bf nf cnt t B g)) ?_ (fun u q => pc_ret q)
  have C2 : CPp (up_M A 147 x.toNat v) h2 t H := by
    refine ⟨fun c j w => ?_, by rw [e2, up_n (by omega)]; exact C.2⟩
    by_cases y : c = 147 ∧ j = x.toNat
    · rw [y.1, y.2, e2, up_s, up_s]
    · rw [e2, up_n y, up_n y, C.1 c j w]
  have D2 : RPp (up_M B 249 x.toNat v) h14 t H := by
    refine ⟨fun c j w => ?_, by rw [e14, up_n (by omega)]; exact D.2⟩
    by_cases y : c = 249 ∧ j = x.toNat
    · rw [y.1, y.2, e14, up_s, up_s]
    · rw [e14, up_n y, up_n y, D.1 c j w]
  refine pc_imp (rc_gop C2 (by rw [up_n (by omega)]; exact q.1) (by rw [up_n (by omega)]; exact q4) (w := w) (by omega)) (fun g G => ?_)
  refine pc_imp (rr_on1 D2 (by rw [up_n (by omega)]; exact q.2.1) q.2.2 (by rw [up_n (by omega)]; exact q5) (w := w) (by omega)) (fun r Rr => ?_)
  obtain ⟨G1, ⟨G2, G3⟩, G4, G5⟩ := G
  obtain ⟨r1, ⟨r2, r3⟩, r5⟩ := Rr
  refine fin_h (H := H) S (rr_hw S.2.1 x0 rfl rfl) G1 r1 (fun c j w => by rw [up_n (by omega)]) (fun x j w => by rw [up_n (by omega)]) hl ?_ ?_ (by rw [G3, r3]) (fun n hn => ?_) (fun n hn n1 n2 => ?_)
  · rw [G4, up_n (by omega)]; exact S.2.2.1
  · rw [G2, r2, up_n (by omega), up_n (by omega), q6]
  · rw [G5 n hn, r5 n hn, up_n (by omega), up_n (by omega)]; exact f.2.2.1 n hn
  · exfalso; omega
/-- an element is read -/
theorem js_46 (S : SXc Bf nf cnt A B k i t P op o) (X : RTP nn g0 ω B (t : Int) c kk N T U tt a p) (y : op = 46 ∨ op = 50) (po : B 254 t = ((H + 1 + 1 : Nat) : Int)) (cv : ¬ B 255 (60 * t + 30 + H) = 0 → 1 ≤ B 255 (60 * t + 30 + H) ∧ B 255 (60 * t + 30 + H) ≤ B 160 141) : Pc (qf_X5_step nn A) (fun g => Pc (qf_X13_step nn B) (STQ nn Bf nf cnt t B g)) := by
  refine j_two (fun Q => cz_g46 S.2.2.2.1 y) (fun Q => rz_g46 S.2.2.2.2 (by omega)) ?_
  have h := rtp_h X
  have q := (sxc_p S).1
  have E := S.2.1.2.2.2.1
  have g141 := gF_160_141 X.vs
  obtain ⟨c0, r0⟩ := sx_c0 S po
  have vv := sx_v S (H := H) (by omega) (by omega)
  have vw := sx_v S (H := H + 1) (by omega) (by omega)
  unfold qj_X5_stepObject_164 qj_X13_step_958
  refine pc_sv (P := fun g => Pc _ (STQ nn Bf nf cnt t B g)) ?_ (fun u q => pc_ret q)
  refine pc_tw (pc_sv (P := fun r => Pc _ (fun g => STQ nn Bf nf cnt t B g r)) ?_ (fun u q => pc_ret q))
  unfold qf_X13_element
  rw [if_pos (show op ≤ 50 by omega)]
  unfold qj_X13_element_14
  refine pc_sv (rr_pp r0 q.2.1 q.2.2 (by omega)) ?_; intro u19 ⟨v19, D19⟩
  refine pc_sv (rr_pp D19 q.2.1 q.2.2 (by omega)) ?_; intro u21 ⟨v21, D21⟩
  refine pc_tw ?_
  unfold qf_X5_stepElement
  refine pc_sv (rc_pp c0 q.1 q.2.2 (by omega)) ?_; intro u2 ⟨v2, C2⟩
  refine pc_sv (rc_pp C2 q.1 q.2.2 (by omega)) ?_; intro u4 ⟨v4, C4⟩
  have ea : u4.1 = u21.1 := by rw [v4, v21, vv]
  have ei : u2.1 = u19.1 := by rw [v2, v19, vw]
  rw [← v21] at cv
  rw [ea, ei]
  refine pc_sv (rc_cell S X C4 (by by_cases w : u21.1 = 0; exact .inl w; exact .inr (cv w))) ?_; intro u6 q6
  have F54 : u6.2 = up_M u4.2 143 20 (-3) → Pc (some u6.2) (fun g => Pc (qj_X13_element_54 nn u21.2) (STQ nn Bf nf cnt t B g)) := fun e => by
    unfold qj_X13_element_54
    exact pc_ret (pc_se (fun r er => pc_ret (fin_f S C4 D21 (by omega) (c := 3) (by omega) e er)))
  rcases q6 with ⟨w1, w2, w3⟩ | ⟨w1, w2, w3, w4⟩ | ⟨w1, w2, w3, w4⟩
  · rw [if_pos (show u6.1 < 0 by omega), if_neg (fun n => n w1)]
    exact pc_ret (pc_se (fun r er => pc_ret (fin_f S C4 D21 (by omega) (c := 2) (by omega) w3 er)))
  · rw [if_pos (show u6.1 < 0 by omega), if_pos w1]
    by_cases i0 : u19.1 < 0
    · rw [if_pos i0]; exact F54 w4
    · rw [if_neg i0]
      refine pc_tw (pc_rA ?_); intro _ _ v23 e23
      rw [D21.1 248 _ (by omega)] at e23
      rw [if_neg (show ¬ u19.1 < v23 by omega)]
      exact pc_tw (F54 w4)
  · obtain ⟨⟨_, _, o3, o4⟩, ⟨o5, o6, o7⟩, o8, o9, _⟩ := sx_ob S X (cv w1)
    rw [if_neg (show ¬ u6.1 < 0 by omega), if_neg (show ¬ 20000 ≤ u6.1 by omega), if_pos w1, if_neg (show ¬ u19.1 < 0 by omega)]
    refine pc_tw (pc_rA ?_); intro _ _ v23 e23
    rw [D21.1 248 _ (by omega)] at e23
    rw [if_pos (show u19.1 < v23 by omega), if_pos (show ¬ op = 83 by omega)]
    unfold qj_X13_element_99
    rw [if_pos (show op ≤ 50 by omega)]
    refine pc_rA ?_; intro _ _ v5 e5
    rw [D21.1 247 _ (by omega)] at e5
    refine pc_add (by omega) ?_; intro v6 e6
    refine pc_rA ?_; intro _ _ v7 e7
    rw [D21.1 249 _ (by omega)] at e7
    refine pc_tw (pc_rA ?_); intro _ _ v8 e8
    rw [w4, C4.1 147 _ (by omega), w3, E.2.2.2 _ (by omega)] at e8
    rw [w4, show v7 = v8 by rw [e7, e8, e6, e5]]
    exact pc_sv (jo_gv S C4 D21 (by omega) (by omega) (by omega)) (fun u q => pc_ret q)
/-- an element is written -/
theorem js_79 (S : SXc Bf nf cnt A B k i t P op o) (X : RTP nn g0 ω B (t : Int) c kk N T U tt a p) (y : op = 79 ∨ op = 83) (po : B 254 t = ((H + 1 + 1 + 1 : Nat) : Int)) (cv : ¬ B 255 (60 * t + 30 + H) = 0 → (1 ≤ B 255 (60 * t + 30 + H) ∧ B 255 (60 * t + 30 + H) ≤ B 160 141) ∧ (op = 83 → 100 ≤ B 246 (B 255 (60 * t + 30 + H)).toNat)) (cw : op = 83 → ¬ B 255 (60 * t + 30 + (H + 1 + 1)) = 0 → 1 ≤ B 255 (60 * t + 30 + (H + 1 + 1)) ∧ B 255 (60 * t + 30 + (H + 1 + 1)) ≤ B 160 141) : Pc (qf_X5_step nn A) (fun g => Pc (qf_X13_step nn B) (STQ nn Bf nf cnt t B g)) := by
  refine j_two (fun Q => cz_g79 S.2.2.2.1 y) (fun Q => rz_g46 S.2.2.2.2 (by omega)) ?_
  have h := rtp_h X
  have q := (sxc_p S).1
  have E := S.2.1.2.2.2.1
  have g141 := gF_160_141 X.vs
  obtain ⟨c0, r0⟩ := sx_c0 S po
  have vv := sx_v S (H := H) (by omega) (by omega)
  have vw := sx_v S (H := H + 1) (by omega) (by omega)
  have vx := sx_v S (H := H + 1 + 1) (by omega) (by omega)
  unfold qj_X5_stepObject_171 qj_X13_step_958
  refine pc_sv (P := fun g => Pc _ (STQ nn Bf nf cnt t B g)) ?_ (fun u q => pc_ret q)
  refine pc_tw (pc_sv (P := fun r => Pc _ (fun g => STQ nn Bf nf cnt t B g r)) ?_ (fun u q => pc_ret q))
  unfold qf_X13_element
  rw [if_neg (show ¬ op ≤ 50 by omega)]
  refine pc_sv (rr_pp r0 q.2.1 q.2.2 (by omega)) ?_; intro u40 ⟨v40, D40⟩
  unfold qj_X13_element_14
  refine pc_sv (rr_pp D40 q.2.1 q.2.2 (by omega)) ?_; intro u19 ⟨v19, D19⟩
  refine pc_sv (rr_pp D19 q.2.1 q.2.2 (by omega)) ?_; intro u21 ⟨v21, D21⟩
  refine pc_tw ?_
  unfold qf_X5_stepGiveElement
  refine pc_sv (rc_pp c0 q.1 q.2.2 (by omega)) ?_; intro u1 ⟨v1, C1⟩
  refine pc_sv (rc_pp C1 q.1 q.2.2 (by omega)) ?_; intro u2 ⟨v2, C2⟩
  refine pc_sv (rc_pp C2 q.1 q.2.2 (by omega)) ?_; intro u4 ⟨v4, C4⟩
  have ea : u4.1 = u21.1 := by rw [v4, v21, vv]
  have ei : u2.1 = u19.1 := by rw [v2, v19, vw]
  have ev : u1.1 = u40.1 := by rw [v1, v40, vx]
  rw [← v21] at cv
  rw [← v40] at cw
  rw [ea, ei, ev]
  refine pc_sv (rc_cell S X C4 (by by_cases w : u21.1 = 0; exact .inl w; exact .inr (cv w).1)) ?_; intro u6 q6
  have F54 : u6.2 = up_M u4.2 143 20 (-3) → Pc (some u6.2) (fun g => Pc (qj_X13_element_54 nn u21.2) (STQ nn Bf nf cnt t B g)) := fun e => by
    unfold qj_X13_element_54
    exact pc_ret (pc_se (fun r er => pc_ret (fin_f S C4 D21 (by omega) (c := 3) (by omega) e er)))
  rcases q6 with ⟨w1, w2, w3⟩ | ⟨w1, w2, w3, w4⟩ | ⟨w1, w2, w3, w4⟩
  · rw [if_pos (show u6.1 < 0 by omega), if_neg (fun n => n w1)]
    exact pc_ret (pc_se (fun r er => pc_ret (fin_f S C4 D21 (by omega) (c := 2) (by omega) w3 er)))
  · rw [if_pos (show u6.1 < 0 by omega), if_pos w1]
    by_cases i0 : u19.1 < 0
    · rw [if_pos i0]; exact F54 w4
    · rw [if_neg i0]
      refine pc_tw (pc_rA ?_); intro _ _ v23 e23
      rw [D21.1 248 _ (by omega)] at e23
      rw [if_neg (show ¬ u19.1 < v23 by omega)]
      exact pc_tw (F54 w4)
  · obtain ⟨⟨o1, o2, o3, o4⟩, ⟨o5, o6, o7⟩, o8, o9, _⟩ := sx_ob S X (cv w1).1
    rw [if_neg (show ¬ u6.1 < 0 by omega), if_pos (show u6.1 < 20000 by omega), if_pos w1, if_neg (show ¬ u19.1 < 0 by omega)]
    refine pc_tw (pc_rA ?_); intro _ _ v23 e23
    rw [D21.1 248 _ (by omega)] at e23
    rw [if_pos (show u19.1 < v23 by omega)]
    refine pc_tw ?_
    have WR : Pc (qj_X5_stepGiveElement_89 nn u40.1 u6.1 u6.2) (fun g => Pc (qj_X13_element_99 nn op u40.1 u19.1 u21.1 u21.2) (STQ nn Bf nf cnt t B g)) := by
      unfold qj_X5_stepGiveElement_89 qj_X13_element_99
      rw [if_neg (show ¬ op ≤ 50 by omega), w4, w3]
      refine pc_tw (pc_rA ?_); intro _ _ v12 e12
      rw [D21.1 247 _ (by omega)] at e12
      refine pc_add (by omega) ?_; intro v13 e13
      rw [show v13 = B 247 u21.1.toNat + u19.1 by omega]
      exact pc_tw (jo_hw S C4 D21 (by omega) (by omega))
    by_cases y83 : op = 83
    · rw [if_neg (fun n => n y83), if_neg (fun n => n y83)]
      refine pc_sv (rc_iso (B := B) (v := u40.1) (by rw [w4, C4.1 143 4 (by omega)]; exact E.1.1) (by omega) (by by_cases w : u40.1 = 0; exact .inl w; exact .inr (cw y83 w))) ?_; intro u14 q14
      by_cases v0 : u40.1 = 0
      · rw [if_pos (show u14 = 0 by omega), if_pos v0]; exact WR
      · rw [if_neg (show ¬ u14 = 0 by omega), if_neg v0]
        obtain ⟨⟨s1, s2, s3, s4⟩, _⟩ := sx_ob S X (cw y83 v0)
        have a100 := (cv w1).2 y83
        obtain ⟨⟨c1, c2, _⟩, ⟨d1, d2⟩, Nk, _⟩ := S.1
        have c8 := c1.1.1
        have CU : CSw Bf nf u4.2 := csw_r c1 (fun c j _ w => C4.1 c j (by omega))
        have e56 : u4.2 56 3 = cnt := (C4.1 56 3 (by omega)).trans c2
        have RZ : RSv Bf nf u21.2 := rsv_k d1 (fun x j w => D21.1 x j (by omega)) (D21.1 160 98 (by omega))
        have e98 : u21.2 160 98 = cnt := (D21.1 160 98 (by omega)).trans d2
        have hc : ISc cnt (B 246 u21.1.toNat - 100) := by unfold STs at o1; unfold ISc; omega
        have KF := kf_one (Bf := Bf) (nf := nf) (by omega) s1 hc
        rw [w4]
        refine pc_rA ?_; intro _ _ v18 e18
        rw [C4.1 145 _ (by omega), s2] at e18
        refine pc_rA ?_; intro _ _ v20 e20
        rw [C4.1 145 _ (by omega), o2] at e20
        refine pc_sv (P := fun e => e = B 246 u21.1.toNat - 100) ?_ ?_
        · have e20b : v20 = B 246 u21.1.toNat := by rw [e20]; unfold sr_T; rw [if_neg (by omega)]
          unfold qf_X4_elementOf
          unfold ISc at hc
          refine pc_if (fun _ => ?_) (fun z => absurd z (by omega))
          refine pc_if (fun z => absurd z (by omega)) (fun _ => ?_)
          refine pc_if (fun z => absurd z (by omega)) (fun _ => ?_)
          refine pc_sub (by omega) ?_; intro v1 e1
          exact pc_ret (by omega)
        intro u21' q21
        rw [q21, e18]
        have TI : TIs cnt (sr_T (B 246 u40.1.toNat)) := by
          unfold STs at s1
          unfold TIs ISc sr_T
          by_cases w9 : B 246 u40.1.toNat = 99
          · rw [if_pos w9]; exact ⟨fun w => by omega, fun w => by omega⟩
          · rw [if_neg w9]; exact ⟨fun w => by omega, fun w => by omega⟩
        have VF := vc_kfits (nn := nn) (y := B 246 u21.1.toNat - 100) CU (x := sr_T (B 246 u40.1.toNat)) (by rw [e56]; exact TI)
        rw [e56, KF] at VF
        refine pc_sv VF ?_; intro u23 q23
        refine pc_tw ?_
        refine pc_rA ?_; intro _ _ v25 e25
        rw [D21.1 246 _ (by omega)] at e25
        have hc' := hc
        unfold ISc at hc'
        refine pc_sub (by omega) ?_; intro v26 e26
        rw [show v26 = B 246 u21.1.toNat - 100 by omega]
        have RO := rr_one (nn := nn) (o := u40.1) (c := B 246 u21.1.toNat - 100) (h := u21.2) (by rw [e98]; exact Nk) RZ (by rw [e98, D21.1 246 _ (by omega)]; exact s1) (by omega)
        rw [e98, D21.1 246 _ (by omega)] at RO
        refine pc_sv (P := fun u => (u = 1 ∧ ONe Bf nf cnt (B 246 u40.1.toNat) (B 246 u21.1.toNat - 100)) ∨ (u = 0 ∧ ¬ ONe Bf nf cnt (B 246 u40.1.toNat) (B 246 u21.1.toNat - 100))) ?_ ?_
        · unfold qf_X13_storesIn
          exact pc_sv RO (fun u q => pc_ck (fun _ => pc_ret q))
        intro u28 q28
        refine pc_tw ?_
        rw [w4] at WR
        by_cases on : ONe Bf nf cnt (B 246 u40.1.toNat) (B 246 u21.1.toNat - 100)
        · have a1 : u23 = 1 := by
            rcases q23 with q | q
            · exact q.1
            · exact absurd on q.2
          have a2 : u28 = 1 := by
            rcases q28 with q | q
            · exact q.1
            · exact absurd on q.2
          rw [if_pos (show ¬ u23 = 0 by omega), if_pos (show ¬ u28 = 0 by omega)]
          exact WR
        · have a1 : u23 = 0 := by
            rcases q23 with q | q
            · exact absurd q.2 on
            · exact q.1
          have a2 : u28 = 0 := by
            rcases q28 with q | q
            · exact absurd q.2 on
            · exact q.1
          rw [if_neg (show ¬ ¬ u23 = 0 by omega), if_neg (show ¬ ¬ u28 = 0 by omega)]
          refine pc_xl ?_; intro h24 e24
          exact pc_ret (pc_se (fun r er => pc_ret (fin_f S C4 D21 (by omega) (c := 7) (by omega) e24 er)))
    · rw [if_pos y83, if_pos y83]; exact WR
end

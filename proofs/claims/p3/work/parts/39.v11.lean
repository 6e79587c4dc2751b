set_option maxRecDepth 4000 in
theorem vj_X5_step_247 {nn : Nat} (hn : 1000000 ≤ nn) {l2 : Int} {l3 : Int} {h : ms_M} (a_l2 : 21 ≤ l2) (b_l2 : l2 ≤ 58) (a_l3 : 0 ≤ l3) (b_l3 : l3 ≤ 255) (V_h : VS_ h) (x_0 : 1 ≤ h 143 6) (x_1 : h 143 7 ≤ 1900000000) (N_h : SI_ h)  : Ok_ (qj_X5_step_247 nn l2 l3 h) (QVR_ (fun r => (¬ r 143 1 = 1 ∨ 1 ≤ r 143 6) ∧ (r 143 7 ≤ h 143 7 + 1))) := by
  unfold qj_X5_step_247
  have T1 := gF_143_1 V_h
  have T2 := gF_143_6 V_h
  have T3 := gF_143_7 V_h
  refine ok_cV (vf_X5_stepLocal hn (by omega) (by omega) (by omega) (by omega) V_h) ?_; intro u2 E_u2 V_u2
  have T4 : u2 143 6 = h 143 6 := (ff_X5_stepLocal nn) _ E_u2 143 6 rfl
  have T5 : u2 143 7 = h 143 7 := (ff_X5_stepLocal nn) _ E_u2 143 7 rfl
  have T6 := gF_143_1 V_u2
  exact ok_rVR V_u2 (by omega)
set_option maxRecDepth 4000 in
theorem vj_X5_step_213 {nn : Nat} (hn : 1000000 ≤ nn) {l2 : Int} {h : ms_M} (a_l2 : 2 ≤ l2) (b_l2 : l2 ≤ 8) (V_h : VS_ h) (x_0 : 1 ≤ h 143 6) (x_1 : h 143 7 ≤ 1900000000) (N_h : SI_ h)  : Ok_ (qj_X5_step_213 nn l2 h) (QVR_ (fun r => (¬ r 143 1 = 1 ∨ 1 ≤ r 143 6) ∧ (r 143 7 ≤ h 143 7 + 1))) := by
  unfold qj_X5_step_213
  have T1 := gF_143_1 V_h
  have T2 := gF_143_6 V_h
  have T3 := gF_143_7 V_h
  refine ok_sub (by omega) ?_; intro v3 e_v3
  refine ok_cV (vf_X5_give hn (by omega) (by omega) (by omega) (by omega) V_h) ?_; intro u5 E_u5 V_u5
  have T4 : u5 143 6 = h 143 6 := (ff_X5_give nn) _ E_u5 143 6 rfl
  have T5 : u5 143 7 = h 143 7 := (ff_X5_give nn) _ E_u5 143 7 rfl
  have T6 := gF_143_1 V_u5
  exact ok_rVR V_u5 (by omega)
set_option maxRecDepth 4000 in
theorem vf_X5_step {nn : Nat} (hn : 1000000 ≤ nn) {h : ms_M} (V_h : VS_ h) (x_0 : 1 ≤ h 143 6) (x_1 : h 143 7 ≤ 1900000000) (x_2 : LKs_ nn h) (N_h : SI_ h)  : Ok_ (qf_X5_step nn h) (QVR_ (fun r => (¬ r 143 1 = 1 ∨ 1 ≤ r 143 6) ∧ (r 143 7 ≤ h 143 7 + 1))) := by
  unfold qf_X5_step
  have T1 := gF_143_1 V_h
  have T2 := gF_143_6 V_h
  have T3 := gF_143_7 V_h
  have T4 := gF_143_17 V_h
  refine ok_rd (by omega) (gA_149 V_h) ?_; intro v8 e_v8 a_v8 b_v8
  refine ok_ck (vi_r V_h).2.2.1 ?_
  have T5 := gF_143_19 V_h
  refine ok_addE ?_; intro v11 e_v11 a_v11 b_v11
  have hb1 : kc_O (h 143 18).toNat = 3 := (vi_r V_h).2.2.2
  refine ok_ck hb1 ?_
  refine ok_cP (vf_X3_byteAt hn hb1 (by omega) (by omega) V_h) ?_; intro u13 e_u13 a_u13 b_u13
  refine ok_ck (vi_r V_h).2.2.1 ?_
  refine ok_addE ?_; intro v16 e_v16 a_v16 b_v16
  refine ok_addE ?_; intro v17 e_v17 a_v17 b_v17
  refine ok_cP (vf_X3_byteAt hn hb1 (by omega) (by omega) V_h) ?_; intro u19 e_u19 a_u19 b_u19
  refine ok_if ?_ ?_
  · intro C5
    refine ok_cV (vf_X5_goOn hn (by omega) (by omega) V_h) ?_; intro u31 E_u31 V_u31
    have T7 : u31 143 1 = h 143 1 := (ff_X5_goOn nn) _ E_u31 143 1 rfl
    have T8 : u31 143 6 = h 143 6 := (ff_X5_goOn nn) _ E_u31 143 6 rfl
    have T9 : u31 143 7 = h 143 7 := (ff_X5_goOn nn) _ E_u31 143 7 rfl
    exact ok_rVR V_u31 (by omega)
  · intro C5
    refine ok_if ?_ ?_
    · intro C9
      refine ok_cV (vf_X5_give hn (by omega) (by omega) (by omega) (by omega) V_h) ?_; intro u33 E_u33 V_u33
      have T11 : u33 143 6 = h 143 6 := (ff_X5_give nn) _ E_u33 143 6 rfl
      have T12 : u33 143 7 = h 143 7 := (ff_X5_give nn) _ E_u33 143 7 rfl
      have T13 := gF_143_1 V_u33
      exact ok_rVR V_u33 (by omega)
    · intro C9
      refine ok_if ?_ ?_
      · intro C13
        exact ok_mV (vj_X5_step_213 hn (by omega) (by omega) V_h (by omega) (by omega) N_h) (fun _ V_r R_r => by have := gF_143_1 V_r; have := gF_143_6 V_r; have := gF_143_7 V_r; omega)
      · intro C13
        refine ok_if ?_ ?_
        · intro C14
          exact ok_mV (vj_X5_step_213 hn (by omega) (by omega) V_h (by omega) (by omega) N_h) (fun _ V_r R_r => by have := gF_143_1 V_r; have := gF_143_6 V_r; have := gF_143_7 V_r; omega)
        · intro C14
          refine ok_if ?_ ?_
          · intro C15
            exact ok_mV (vj_X5_step_213 hn (by omega) (by omega) V_h (by omega) (by omega) N_h) (fun _ V_r R_r => by have := gF_143_1 V_r; have := gF_143_6 V_r; have := gF_143_7 V_r; omega)
          · intro C15
            refine ok_if ?_ ?_
            · intro C16
              exact ok_mV (vj_X5_step_213 hn (by omega) (by omega) V_h (by omega) (by omega) N_h) (fun _ V_r R_r => by have := gF_143_1 V_r; have := gF_143_6 V_r; have := gF_143_7 V_r; omega)
            · intro C16
              refine ok_if ?_ ?_
              · intro C17
                exact ok_mV (vj_X5_step_213 hn (by omega) (by omega) V_h (by omega) (by omega) N_h) (fun _ V_r R_r => by have := gF_143_1 V_r; have := gF_143_6 V_r; have := gF_143_7 V_r; omega)
              · intro C17
                refine ok_if ?_ ?_
                · intro C18
                  exact ok_mV (vj_X5_step_213 hn (by omega) (by omega) V_h (by omega) (by omega) N_h) (fun _ V_r R_r => by have := gF_143_1 V_r; have := gF_143_6 V_r; have := gF_143_7 V_r; omega)
                · intro C18
                  refine ok_if ?_ ?_
                  · intro C19
                    exact ok_mV (vj_X5_step_213 hn (by omega) (by omega) V_h (by omega) (by omega) N_h) (fun _ V_r R_r => by have := gF_143_1 V_r; have := gF_143_6 V_r; have := gF_143_7 V_r; omega)
                  · intro C19
                    refine ok_if ?_ ?_
                    · intro C20
                      refine ok_b ?_; intro v34 a_v34 b_v34
                      refine ok_cV (vf_X5_give hn (by omega) (by omega) (by omega) (by omega) V_h) ?_; intro u36 E_u36 V_u36
                      have T22 : u36 143 6 = h 143 6 := (ff_X5_give nn) _ E_u36 143 6 rfl
                      have T23 : u36 143 7 = h 143 7 := (ff_X5_give nn) _ E_u36 143 7 rfl
                      have T24 := gF_143_1 V_u36
                      exact ok_rVR V_u36 (by omega)
                    · intro C20
                      refine ok_if ?_ ?_
                      · intro C24
                        refine ok_cP (vf_X5_link hn (by omega) (by omega) V_h) ?_; intro u38 e_u38 a_u38 b_u38
                        refine ok_cV (vf_X5_give hn (by omega) (by omega) (by omega) (by omega) V_h) ?_; intro u40 E_u40 V_u40
                        have T26 : u40 143 6 = h 143 6 := (ff_X5_give nn) _ E_u40 143 6 rfl
                        have T27 : u40 143 7 = h 143 7 := (ff_X5_give nn) _ E_u40 143 7 rfl
                        have T28 := gF_143_1 V_u40
                        exact ok_rVR V_u40 (by omega)
                      · intro C24
                        refine ok_if ?_ ?_
                        · intro C28
                          exact ok_mV (vj_X5_step_247 hn (by omega) (by omega) (by omega) (by omega) V_h (by omega) (by omega) N_h) (fun _ V_r R_r => by have := gF_143_1 V_r; have := gF_143_6 V_r; have := gF_143_7 V_r; omega)
                        · intro C28
                          refine ok_if ?_ ?_
                          · intro C29
                            exact ok_mV (vj_X5_step_247 hn (by omega) (by omega) (by omega) (by omega) V_h (by omega) (by omega) N_h) (fun _ V_r R_r => by have := gF_143_1 V_r; have := gF_143_6 V_r; have := gF_143_7 V_r; omega)
                          · intro C29
                            refine ok_if ?_ ?_
                            · intro C30
                              exact ok_mV (vj_X5_step_247 hn (by omega) (by omega) (by omega) (by omega) V_h (by omega) (by omega) N_h) (fun _ V_r R_r => by have := gF_143_1 V_r; have := gF_143_6 V_r; have := gF_143_7 V_r; omega)
                            · intro C30
                              refine ok_if ?_ ?_
                              · intro C31
                                exact ok_mV (vj_X5_step_247 hn (by omega) (by omega) (by omega) (by omega) V_h (by omega) (by omega) N_h) (fun _ V_r R_r => by have := gF_143_1 V_r; have := gF_143_6 V_r; have := gF_143_7 V_r; omega)
                              · intro C31
                                refine ok_if ?_ ?_
                                · intro C32
                                  refine ok_cI (vf_X5_pop hn V_h) ?_; intro u42 E_u42 V_u42 a_u42 b_u42
                                  have T34 : u42.2 143 6 = h 143 6 := (ff_X5_pop nn) _ E_u42 143 6 rfl
                                  have T35 : u42.2 143 7 = h 143 7 := (ff_X5_pop nn) _ E_u42 143 7 rfl
                                  have T36 := gF_143_1 V_u42
                                  refine ok_cV (vf_X5_goOn hn (by omega) (by omega) V_u42) ?_; intro u44 E_u44 V_u44
                                  have T37 : u44 143 6 = u42.2 143 6 := (ff_X5_goOn nn) _ E_u44 143 6 rfl
                                  have T38 : u44 143 7 = u42.2 143 7 := (ff_X5_goOn nn) _ E_u44 143 7 rfl
                                  have T39 : u44 143 1 = u42.2 143 1 := (ff_X5_goOn nn) _ E_u44 143 1 rfl
                                  exact ok_rVR V_u44 (by omega)
                                · intro C32
                                  refine ok_if ?_ ?_
                                  · intro C39
                                    refine ok_cI (vf_X5_pop hn V_h) ?_; intro u46 E_u46 V_u46 a_u46 b_u46
                                    have T41 : u46.2 143 6 = h 143 6 := (ff_X5_pop nn) _ E_u46 143 6 rfl
                                    have T42 : u46.2 143 7 = h 143 7 := (ff_X5_pop nn) _ E_u46 143 7 rfl
                                    have T43 := gF_143_1 V_u46
                                    refine ok_cV (vf_X5_push hn (by omega) (by omega) V_u46) ?_; intro u48 E_u48 V_u48
                                    have T44 : u48 143 6 = u46.2 143 6 := (ff_X5_push nn) _ E_u48 143 6 rfl
                                    have T45 : u48 143 7 = u46.2 143 7 := (ff_X5_push nn) _ E_u48 143 7 rfl
                                    have T46 := gF_143_1 V_u48
                                    refine ok_cV (vf_X5_give hn (by omega) (by omega) (by omega) (by omega) V_u48) ?_; intro u50 E_u50 V_u50
                                    have T47 : u50 143 6 = u48 143 6 := (ff_X5_give nn) _ E_u50 143 6 rfl
                                    have T48 : u50 143 7 = u48 143 7 := (ff_X5_give nn) _ E_u50 143 7 rfl
                                    have T49 := gF_143_1 V_u50
                                    exact ok_rVR V_u50 (by omega)
                                  · intro C39
                                    refine ok_if ?_ ?_
                                    · intro C49
                                      refine ok_cI (vf_X5_pop hn V_h) ?_; intro u52 E_u52 V_u52 a_u52 b_u52
                                      have T51 : u52.2 143 6 = h 143 6 := (ff_X5_pop nn) _ E_u52 143 6 rfl
                                      have T52 : u52.2 143 7 = h 143 7 := (ff_X5_pop nn) _ E_u52 143 7 rfl
                                      have T53 := gF_143_1 V_u52
                                      refine ok_i32 ?_; intro v53 a_v53 b_v53
                                      refine ok_cV (vf_X5_give hn (by omega) (by omega) (by omega) (by omega) V_u52) ?_; intro u55 E_u55 V_u55
                                      have T54 : u55 143 6 = u52.2 143 6 := (ff_X5_give nn) _ E_u55 143 6 rfl
                                      have T55 : u55 143 7 = u52.2 143 7 := (ff_X5_give nn) _ E_u55 143 7 rfl
                                      have T56 := gF_143_1 V_u55
                                      exact ok_rVR V_u55 (by omega)
                                    · intro C49
                                      refine ok_cP (vf_X11_isJump hn (by omega) (by omega) V_h) ?_; intro u20 e_u20 a_u20 b_u20
                                      refine ok_if ?_ ?_
                                      · intro C56
                                        refine ok_cP (vf_X11_isArithmetic hn (by omega) (by omega) V_h) ?_; intro u21 e_u21 a_u21 b_u21
                                        refine ok_if ?_ ?_
                                        · intro C57
                                          refine ok_cVR (vf_X5_stepObject hn (by omega) (by omega) (by omega) (by omega) V_h (by omega) (by omega) (x_2 _ _ (by rw [← e_v8, ← e_v11]; exact e_u13) (by rw [← e_v8, ← e_v16, ← e_v17]; exact e_u19)) N_h) ?_; intro u23 E_u23 V_u23 R_u23
                                          have T59 := gF_143_1 V_u23
                                          have T60 := gF_143_6 V_u23
                                          have T61 := gF_143_7 V_u23
                                          exact ok_rVR V_u23 (by omega)
                                        · intro C57
                                          refine ok_cV (vf_X5_stepArithmetic hn (by omega) (by omega) V_h) ?_; intro u25 E_u25 V_u25
                                          have T62 : u25 143 6 = h 143 6 := (ff_X5_stepArithmetic nn) _ E_u25 143 6 rfl
                                          have T63 : u25 143 7 = h 143 7 := (ff_X5_stepArithmetic nn) _ E_u25 143 7 rfl
                                          have T64 := gF_143_1 V_u25
                                          exact ok_rVR V_u25 (by omega)
                                      · intro C56
                                        refine ok_cV (vf_X5_stepJump hn (by omega) (by omega) (by omega) (by omega) V_h) ?_; intro u28 E_u28 V_u28
                                        have T65 : u28 143 6 = h 143 6 := (ff_X5_stepJump nn) _ E_u28 143 6 rfl
                                        have T66 : u28 143 7 = h 143 7 := (ff_X5_stepJump nn) _ E_u28 143 7 rfl
                                        have T67 := gF_143_1 V_u28
                                        exact ok_rVR V_u28 (by omega)
set_option maxRecDepth 4000 in
theorem vj_X5_isCaught_89 {nn : Nat} (hn : 1000000 ≤ nn) {qkk_27 : Int → Int → Int → Int → ms_M → Option (Int × ms_M)} {K_kk_27 : Int} (hk_kk_27 : ∀ {l1 : Int} {l2 : Int} {l3 : Int} {l4 : Int} {h : ms_M} (a_l1 : 1 ≤ l1) (b_l1 : l1 ≤ 2000) (a_l2 : (-11) ≤ l2) (b_l2 : l2 ≤ 11) (a_l3 : (-2147483648) ≤ l3) (b_l3 : l3 ≤ 2147483647) (a_l4 : 0 ≤ l4) (b_l4 : l4 ≤ 65535) (V_h : VS_ h) (_ : 65536 - l4 < K_kk_27), Ok_ (qkk_27 l1 l2 l3 l4 h) (QI_ 0 1)) {l1 : Int} {l2 : Int} {l3 : Int} {l4 : Int} {s0 : Int} {h : ms_M} (a_l1 : 1 ≤ l1) (b_l1 : l1 ≤ 2000) (a_l2 : (-11) ≤ l2) (b_l2 : l2 ≤ 11) (a_l3 : (-2147483648) ≤ l3) (b_l3 : l3 ≤ 2147483647) (a_l4 : 0 ≤ l4) (b_l4 : l4 ≤ 65534) (a_s0 : 0 ≤ s0) (b_s0 : s0 ≤ 1) (V_h : VS_ h) (hm_kk_27 : 65536 - l4 + 0 ≤ K_kk_27) : Ok_ (qj_X5_isCaught_89 nn qkk_27 l1 l2 l3 l4 s0 h) (QI_ 0 1) := by
  unfold qj_X5_isCaught_89
  refine ok_if ?_ ?_
  · intro C0
    refine ok_addW (by omega) ?_; intro v1 a_v1 b_v1 w_v1
    refine ok_add (by omega) ?_; intro v2 e_v2
    exact hk_kk_27 (by omega) (by omega) (by omega) (by omega) (by omega) (by omega) (by omega) (by omega) V_h (by omega)
  · intro C0
    refine ok_rd (by omega) (gA_145 V_h) ?_; intro v6 e_v6 a_v6 b_v6
    refine ok_ck (vi_r V_h).2.2.1 ?_
    refine ok_addW (by omega) ?_; intro v8 a_v8 b_v8 w_v8
    have hb1 : kc_O (h 143 18).toNat = 3 := (vi_r V_h).2.2.2
    refine ok_ck hb1 ?_
    refine ok_cP (vf_X3_byteAt hn hb1 (by omega) (by omega) V_h) ?_; intro u10 e_u10 a_u10 b_u10
    refine ok_cP (vf_X5_link hn (by omega) (by omega) V_h) ?_; intro u12 e_u12 a_u12 b_u12
    refine ok_cP (vf_X4_fits hn rfl (by omega) (by omega) (by omega) (by omega) V_h) ?_; intro u14 e_u14 a_u14 b_u14
    refine ok_if ?_ ?_
    · intro C1
      refine ok_addW (by omega) ?_; intro v15 a_v15 b_v15 w_v15
      refine ok_add (by omega) ?_; intro v16 e_v16
      exact hk_kk_27 (by omega) (by omega) (by omega) (by omega) (by omega) (by omega) (by omega) (by omega) V_h (by omega)
    · intro C1
      have T3 := gF_143_17 V_h
      refine ok_wA (by omega) ?_; intro h19 E_h19; have V_h19 : VS_ h19 := by rw [E_h19]; exact wA_150 V_h (by omega)
      have T4 : h19 143 17 = h 143 17 := by rw [E_h19]; exact up_n (fun z => absurd z.1 (by decide))
      refine ok_ck (vi_r V_h19).2.2.1 ?_
      refine ok_addW (by omega) ?_; intro v21 a_v21 b_v21 w_v21
      have hb2 : kc_O (h19 143 18).toNat = 3 := (vi_r V_h19).2.2.2
      refine ok_ck hb2 ?_
      refine ok_cP (vf_X3_pairAt hn hb2 (by omega) (by omega) V_h19) ?_; intro u23 e_u23 a_u23 b_u23
      refine ok_rd (by omega) (gA_149 V_h19) ?_; intro v26 e_v26 a_v26 b_v26
      refine ok_subW (by omega) ?_; intro v27 a_v27 b_v27 w_v27
      refine ok_cV (vf_X5_give hn (by omega) (by omega) (by omega) (by omega) V_h19) ?_; intro u29 E_u29 V_u29
      exact ok_rI V_u29 (by omega) (by omega)
set_option maxRecDepth 4000 in
theorem vj_X5_isCaught_88 {nn : Nat} (hn : 1000000 ≤ nn) {qkk_27 : Int → Int → Int → Int → ms_M → Option (Int × ms_M)} {K_kk_27 : Int} (hk_kk_27 : ∀ {l1 : Int} {l2 : Int} {l3 : Int} {l4 : Int} {h : ms_M} (a_l1 : 1 ≤ l1) (b_l1 : l1 ≤ 2000) (a_l2 : (-11) ≤ l2) (b_l2 : l2 ≤ 11) (a_l3 : (-2147483648) ≤ l3) (b_l3 : l3 ≤ 2147483647) (a_l4 : 0 ≤ l4) (b_l4 : l4 ≤ 65535) (V_h : VS_ h) (_ : 65536 - l4 < K_kk_27), Ok_ (qkk_27 l1 l2 l3 l4 h) (QI_ 0 1)) {l1 : Int} {l2 : Int} {l3 : Int} {l4 : Int} {h : ms_M} (a_l1 : 1 ≤ l1) (b_l1 : l1 ≤ 2000) (a_l2 : (-11) ≤ l2) (b_l2 : l2 ≤ 11) (a_l3 : (-2147483648) ≤ l3) (b_l3 : l3 ≤ 2147483647) (a_l4 : 0 ≤ l4) (b_l4 : l4 ≤ 65534) (V_h : VS_ h) (hm_kk_27 : 65536 - l4 + 0 ≤ K_kk_27) : Ok_ (qj_X5_isCaught_88 nn qkk_27 l1 l2 l3 l4 h) (QI_ 0 1) := by
  unfold qj_X5_isCaught_88
  exact vj_X5_isCaught_89 hn hk_kk_27 (by omega) (by omega) (by omega) (by omega) (by omega) (by omega) (by omega) (by omega) (by omega) (by omega) V_h (by omega)
set_option maxRecDepth 4000 in
theorem vw_X5_isCaught_27 {nn : Nat} (hn : 1000000 ≤ nn) : ∀ (k : Nat) {l1 : Int} {l2 : Int} {l3 : Int} {l4 : Int} {h : ms_M} (a_l1 : 1 ≤ l1) (b_l1 : l1 ≤ 2000) (a_l2 : (-11) ≤ l2) (b_l2 : l2 ≤ 11) (a_l3 : (-2147483648) ≤ l3) (b_l3 : l3 ≤ 2147483647) (a_l4 : 0 ≤ l4) (b_l4 : l4 ≤ 65535) (V_h : VS_ h)  (hm : 65536 - l4 < (k : Int)), Ok_ (qw_X5_isCaught_27 nn k l1 l2 l3 l4 h) (QI_ 0 1) := by
  intro k
  induction k with
  | zero => intros; exfalso; omega
  | succ k ih =>
    intro l1 l2 l3 l4 h a_l1 b_l1 a_l2 b_l2 a_l3 b_l3 a_l4 b_l4 V_h hm
    unfold qw_X5_isCaught_27
    refine ok_ck (vi_r V_h).2.2.1 ?_
    have hb1 : kc_O (h 143 18).toNat = 3 := (vi_r V_h).2.2.2
    refine ok_ck hb1 ?_
    refine ok_cP (vf_X3_of hn hb1 (by omega) (by omega) (by omega) (by omega) V_h) ?_; intro u34 e_u34 a_u34 b_u34
    refine ok_if ?_ ?_
    · intro C0
      exact ok_rI V_h (by omega) (by omega)
    · intro C0
      have T2 := gF_143_17 V_h
      refine ok_rd (by omega) (gA_149 V_h) ?_; intro v37 e_v37 a_v37 b_v37
      refine ok_ck (vi_r V_h).2.2.1 ?_
      refine ok_cP (vf_X3_pairAt hn hb1 (by omega) (by omega) V_h) ?_; intro u40 e_u40 a_u40 b_u40
      refine ok_if ?_ ?_
      · intro C2
        exact vj_X5_isCaught_88 hn ih (by omega) (by omega) (by omega) (by omega) (by omega) (by omega) (by omega) (by omega) V_h (by omega)
      · intro C2
        refine ok_rd (by omega) (gA_149 V_h) ?_; intro v43 e_v43 a_v43 b_v43
        refine ok_ck (vi_r V_h).2.2.1 ?_
        refine ok_addW (by omega) ?_; intro v45 a_v45 b_v45 w_v45
        refine ok_cP (vf_X3_pairAt hn hb1 (by omega) (by omega) V_h) ?_; intro u47 e_u47 a_u47 b_u47
        refine ok_if ?_ ?_
        · intro C3
          exact vj_X5_isCaught_88 hn ih (by omega) (by omega) (by omega) (by omega) (by omega) (by omega) (by omega) (by omega) V_h (by omega)
        · intro C3
          exact vj_X5_isCaught_89 hn ih (by omega) (by omega) (by omega) (by omega) (by omega) (by omega) (by omega) (by omega) (by omega) (by omega) V_h (by omega)
set_option maxRecDepth 4000 in
theorem vf_X5_isCaught {nn : Nat} (hn : 1000000 ≤ nn) {a1 : Int} {h : ms_M} (a_a1 : 1 ≤ a1) (b_a1 : a1 ≤ 2000) (V_h : VS_ h)  : Ok_ (qf_X5_isCaught nn a1 h) (QI_ 0 1) := by
  unfold qf_X5_isCaught
  have T1 := gF_143_17 V_h
  refine ok_rd (by omega) (gA_148 V_h) ?_; intro v53 e_v53 a_v53 b_v53
  refine ok_remT (n := 12) (by decide) ?_; intro v54 a_v54 b_v54
  refine ok_ck (vi_r V_h).2.2.1 ?_
  have hb1 : kc_O (h 143 18).toNat = 3 := (vi_r V_h).2.2.2
  refine ok_ck hb1 ?_
  refine ok_cP (vf_X3_of hn hb1 (by omega) (by omega) (by omega) (by omega) V_h) ?_; intro u57 e_u57 a_u57 b_u57
  exact vw_X5_isCaught_27 hn _ (by omega) (by omega) (by omega) (by omega) (by omega) (by omega) (by omega) (by omega) V_h (by omega)
set_option maxRecDepth 4000 in
theorem vj_X5_throwUp_59 {nn : Nat} (hn : 1000000 ≤ nn) {l1 : Int} {h : ms_M} (a_l1 : 1 ≤ l1) (b_l1 : l1 ≤ 2000) (V_h : VS_ h)  : Ok_ (qj_X5_throwUp_59 nn l1 h) (QVR_ (fun r => (¬ r 143 1 = 1 ∨ 1 ≤ r 143 6))) := by
  unfold qj_X5_throwUp_59
  have T1 := gF_143_1 V_h
  have T2 := gF_143_6 V_h
  refine ok_xl ?_; intro h1 E_h1; have V_h1 : VS_ h1 := by rw [E_h1]; exact wF_143_1 V_h (by omega)
  have T3 : h1 143 6 = h 143 6 := by rw [E_h1]; exact up_n (by decide)
  have T4 : h1 143 1 = 3 := by rw [E_h1]; exact up_s
  refine ok_rd (by omega) (gA_145 V_h1) ?_; intro v3 e_v3 a_v3 b_v3
  refine ok_xl ?_; intro h4 E_h4; have V_h4 : VS_ h4 := by rw [E_h4]; exact wF_143_2 V_h1 (by omega)
  have T5 : h4 143 6 = h1 143 6 := by rw [E_h4]; exact up_n (by decide)
  have T6 : h4 143 1 = h1 143 1 := by rw [E_h4]; exact up_n (by decide)
  exact ok_rVR V_h4 (by omega)
set_option maxRecDepth 4000 in
theorem vw_X5_throwUp_17 {nn : Nat} (hn : 1000000 ≤ nn) : ∀ (k : Nat) {l1 : Int} {l2 : Int} {h : ms_M} (a_l1 : 1 ≤ l1) (b_l1 : l1 ≤ 2000) (a_l2 : 0 ≤ l2) (b_l2 : l2 ≤ 60) (V_h : VS_ h)  (hm : 61 - l2 < (k : Int)), Ok_ (qw_X5_throwUp_17 nn k l1 l2 h) (QVR_ (fun r => (¬ r 143 1 = 1 ∨ 1 ≤ r 143 6))) := by
  intro k
  induction k with
  | zero => intros; exfalso; omega
  | succ k ih =>
    intro l1 l2 h a_l1 b_l1 a_l2 b_l2 V_h hm
    unfold qw_X5_throwUp_17
    have T1 := gF_143_1 V_h
    have T2 := gF_143_6 V_h
    refine ok_if ?_ ?_
    · intro C2
      exact ok_mV (vj_X5_throwUp_59 hn (by omega) (by omega) V_h) (fun _ V_r R_r => by have := gF_143_1 V_r; have := gF_143_6 V_r; omega)
    · intro C2
      refine ok_if ?_ ?_
      · intro C3
        exact ok_mV (vj_X5_throwUp_59 hn (by omega) (by omega) V_h) (fun _ V_r R_r => by have := gF_143_1 V_r; have := gF_143_6 V_r; omega)
      · intro C3
        refine ok_cV (vf_X5_takeTop hn V_h) ?_; intro u7 E_u7 V_u7
        have T5 : u7 143 6 = h 143 6 := (ff_X5_takeTop nn) _ E_u7 143 6 rfl
        have T6 := gF_143_1 V_u7
        refine ok_cI (vf_X5_isCaught hn (by omega) (by omega) V_u7) ?_; intro u9 E_u9 V_u9 a_u9 b_u9
        have T7 : u9.2 143 6 = u7 143 6 := (ff_X5_isCaught nn) _ E_u9 143 6 rfl
        have T8 := gF_143_1 V_u9
        refine ok_if ?_ ?_
        · intro C8
          refine ok_sub (by omega) ?_; intro v11 e_v11
          refine ok_xl ?_; intro h12 E_h12; have V_h12 : VS_ h12 := by rw [E_h12]; exact wF_143_6 V_u9 (by omega)
          have T10 : h12 143 1 = u9.2 143 1 := by rw [E_h12]; exact up_n (by decide)
          have T11 : h12 143 6 = v11 := by rw [E_h12]; exact up_s
          refine ok_add (by omega) ?_; intro v13 e_v13
          exact ok_mV (ih (by omega) (by omega) (by omega) (by omega) V_h12 (by omega)) (fun _ V_r R_r => by have := gF_143_1 V_r; have := gF_143_6 V_r; omega)
        · intro C8
          exact ok_rVR V_u9 (by omega)
set_option maxRecDepth 4000 in
theorem vf_X5_throwUp {nn : Nat} (hn : 1000000 ≤ nn) {a1 : Int} {h : ms_M} (a_a1 : 1 ≤ a1) (b_a1 : a1 ≤ 2147483647) (V_h : VS_ h)  : Ok_ (qf_X5_throwUp nn a1 h) (QVR_ (fun r => (¬ r 143 1 = 1 ∨ 1 ≤ r 143 6))) := by
  unfold qf_X5_throwUp
  have T1 := gF_143_1 V_h
  have T2 := gF_143_6 V_h
  refine ok_cP (vf_X5_isObject hn (by omega) (by omega) V_h) ?_; intro u18 e_u18 a_u18 b_u18
  have T3 := pr_X5_isObject e_u18
  refine ok_if ?_ ?_
  · intro C3
    exact ok_mV (vw_X5_throwUp_17 hn _ (by omega) (by omega) (by omega) (by omega) V_h (by omega)) (fun _ V_r R_r => by have := gF_143_1 V_r; have := gF_143_6 V_r; omega)
  · intro C3
    refine ok_xl ?_; intro h19 E_h19; have V_h19 : VS_ h19 := by rw [E_h19]; exact wF_143_1 V_h (by omega)
    have T5 : h19 143 6 = h 143 6 := by rw [E_h19]; exact up_n (by decide)
    have T6 : h19 143 1 = 6 := by rw [E_h19]; exact up_s
    exact ok_rVR V_h19 (by omega)
set_option maxRecDepth 4000 in
theorem vf_X5_beginRun {nn : Nat} (hn : 1000000 ≤ nn) {a1 : Int} {a2 : Int} {h : ms_M} (a_a1 : 8 ≤ a1) (b_a1 : a1 ≤ 15) (a_a2 : 0 ≤ a2) (b_a2 : a2 ≤ 11) (V_h : VS_ h)  : Ok_ (qf_X5_beginRun nn a1 a2 h) (QVR_ (fun r => (¬ r 143 1 = 1 ∨ 1 ≤ r 143 6))) := by
  unfold qf_X5_beginRun
  have T1 := gF_143_1 V_h
  have T2 := gF_143_6 V_h
  refine ok_cV (vf_X5_forget hn V_h) ?_; intro u2 E_u2 V_u2
  have T3 := gF_143_1 V_u2
  have T4 := gF_143_6 V_u2
  refine ok_xl ?_; intro h3 E_h3; have V_h3 : VS_ h3 := by rw [E_h3]; exact wF_143_1 V_u2 (by omega)
  have T5 : h3 143 6 = u2 143 6 := by rw [E_h3]; exact up_n (by decide)
  have T6 : h3 143 1 = 1 := by rw [E_h3]; exact up_s
  refine ok_sub (by omega) ?_; intro v4 e_v4
  refine ok_mul (by omega) ?_; intro v5 e_v5
  refine ok_add (by omega) ?_; intro v6 e_v6
  refine ok_cVR (vf_X5_beginMethod hn (by omega) (by omega) (by omega) (by omega) (by omega) (by omega) V_h3 (by omega)) ?_; intro u8 E_u8 V_u8 R_u8
  have T7 := gF_143_1 V_u8
  have T8 := gF_143_6 V_u8
  exact ok_rVR V_u8 (by omega)
set_option maxRecDepth 4000 in
theorem vf_X12_start {nn : Nat} (hn : 1000000 ≤ nn) {a1 : Int} {a2 : Int} {h : ms_M} (a_a1 : (-2147483648) ≤ a1) (b_a1 : a1 ≤ 2147483647) (a_a2 : (-2147483648) ≤ a2) (b_a2 : a2 ≤ 2147483647) (V_h : VS_ h) (x_0 : ¬ h 143 1 = 1 ∨ 1 ≤ h 143 6)  : Ok_ (qf_X12_start nn a1 a2 h) (QIR_ 0 1 (fun u r => (¬ r 143 1 = 1 ∨ 1 ≤ r 143 6))) := by
  unfold qf_X12_start
  have T1 := gF_143_1 V_h
  have T2 := gF_143_6 V_h
  refine ok_cO (vf_X7_imageOf hn (by omega) (by omega) V_h) ?_; intro u3 e_u3 o_u3
  have T3 := po_X7_imageOf V_h e_u3
  have T4 := gF_56_4 V_h
  refine ok_if ?_ ?_
  · intro C4
    exact ok_rIR V_h (by omega) (by omega) (by omega)
  · intro C4
    refine ok_if ?_ ?_
    · intro C5
      exact ok_rIR V_h (by omega) (by omega) (by omega)
    · intro C5
      refine ok_if ?_ ?_
      · intro C6
        exact ok_rIR V_h (by omega) (by omega) (by omega)
      · intro C6
        have hb1 : kc_O (u3).toNat = 3 := (o_u3.resolve_left C5)
        refine ok_ck hb1 ?_
        have T8 := gI_12 V_h hb1
        refine ok_if ?_ ?_
        · intro C8
          refine ok_cP (vf_X3_of hn hb1 (by omega) (by omega) (by omega) (by omega) V_h) ?_; intro u10 e_u10 a_u10 b_u10
          refine ok_if ?_ ?_
          · intro C9
            exact ok_rIR V_h (by omega) (by omega) (by omega)
          · intro C9
            refine ok_cP (vf_X3_of hn hb1 (by omega) (by omega) (by omega) (by omega) V_h) ?_; intro u12 e_u12 a_u12 b_u12
            refine ok_if ?_ ?_
            · intro C10
              refine ok_cVR (vf_X5_beginRun hn (by omega) (by omega) (by omega) (by omega) V_h) ?_; intro u15 E_u15 V_u15 R_u15
              have T12 := gF_143_1 V_u15
              have T13 := gF_143_6 V_u15
              exact ok_rIR V_u15 (by omega) (by omega) (by omega)
            · intro C10
              exact ok_rIR V_h (by omega) (by omega) (by omega)
        · intro C8
          exact ok_rIR V_h (by omega) (by omega) (by omega)
set_option maxRecDepth 4000 in
theorem vf_X12_type {nn : Nat} (hn : 1000000 ≤ nn) {a1 : Int} {a2 : Int} {h : ms_M} (a_a1 : (-2147483648) ≤ a1) (b_a1 : a1 ≤ 2147483647) (a_a2 : (-2147483648) ≤ a2) (b_a2 : a2 ≤ 2147483647) (V_h : VS_ h)  : Ok_ (qf_X12_type nn a1 a2 h) (QP_ (-1) 6000) := by
  unfold qf_X12_type
  refine ok_if ?_ ?_
  · intro C0
    exact ok_rP (by omega) (by omega)
  · intro C0
    have T2 := gF_56_3 V_h
    refine ok_add (by omega) ?_; intro v3 e_v3
    refine ok_if ?_ ?_
    · intro C2
      refine ok_if ?_ ?_
      · intro C3
        refine ok_cO (vf_X7_imageOf hn (by omega) (by omega) V_h) ?_; intro u6 e_u6 o_u6
        have T5 := po_X7_imageOf V_h e_u6
        refine ok_if ?_ ?_
        · intro C5
          refine ok_if ?_ ?_
          · intro C6
            exact ok_rP (by omega) (by omega)
          · intro C6
            refine ok_if ?_ ?_
            · intro C7
              exact ok_rP (by omega) (by omega)
            · intro C7
              exact ok_rP (by omega) (by omega)
        · intro C5
          refine ok_if ?_ ?_
          · intro C8
            have hb1 : kc_O (u6).toNat = 3 := (o_u6.resolve_left C5)
            refine ok_ck hb1 ?_
            have T10 := gI_10 V_h hb1
            exact ok_rP (by omega) (by omega)
          · intro C8
            refine ok_if ?_ ?_
            · intro C10
              have hb2 : kc_O (u6).toNat = 3 := (o_u6.resolve_left C5)
              refine ok_ck hb2 ?_
              have T12 := gI_12 V_h hb2
              exact ok_rP (by omega) (by omega)
            · intro C10
              refine ok_if ?_ ?_
              · intro C12
                have hb3 : kc_O (u6).toNat = 3 := (o_u6.resolve_left C5)
                refine ok_ck hb3 ?_
                have T14 := gI_1 V_h hb3
                exact ok_rP (by omega) (by omega)
              · intro C12
                refine ok_if ?_ ?_
                · intro C14
                  have hb4 : kc_O (u6).toNat = 3 := (o_u6.resolve_left C5)
                  refine ok_ck hb4 ?_
                  have T16 := gI_7 V_h hb4
                  exact ok_rP (by omega) (by omega)
                · intro C14
                  exact ok_rP (by omega) (by omega)
      · intro C3
        refine ok_cP (vf_X4_above hn rfl (by omega) (by omega) V_h) ?_; intro u18 e_u18 a_u18 b_u18
        exact ok_rP (by omega) (by omega)
    · intro C2
      exact ok_rP (by omega) (by omega)
set_option maxRecDepth 4000 in
theorem vf_X3_fieldKind {nn : Nat} (hn : 1000000 ≤ nn) {a0 : Nat} {a1 : Int} {h : ms_M} (hb_a0 : kc_O a0 = 3) (a_a1 : 0 ≤ a1) (b_a1 : a1 ≤ 11) (V_h : VS_ h)  : Ok_ (qf_X3_fieldKind nn a0 a1 h) (QP_ 0 255) := by
  unfold qf_X3_fieldKind
  refine ok_if ?_ ?_
  · intro C0
    exfalso; omega
  · intro C0
    have T2 := gI_10 V_h hb_a0
    refine ok_if ?_ ?_
    · intro C2
      exact ok_rP (by omega) (by omega)
    · intro C2
      refine ok_mul (by omega) ?_; intro v3 e_v3
      refine ok_add (by omega) ?_; intro v4 e_v4
      refine ok_rd (by omega) (gIA_5 V_h hb_a0) ?_; intro v5 e_v5 a_v5 b_v5
      exact ok_rP (by omega) (by omega)
set_option maxRecDepth 4000 in
theorem vf_X7_typeOfKind {nn : Nat} (hn : 1000000 ≤ nn) {a1 : Nat} {a2 : Int} {a3 : Int} {h : ms_M} (i_a1 : kc_O a1 = 3) (a_a2 : 0 ≤ a2) (b_a2 : a2 ≤ 6258) (a_a3 : (-1) ≤ a3) (b_a3 : a3 ≤ 6257) (V_h : VS_ h)  : Ok_ (qf_X7_typeOfKind nn a1 a2 a3 h) (QP_ (-1) 303) := by
  unfold qf_X7_typeOfKind
  have hb1 : kc_O a1 = 3 := i_a1
  refine ok_ck hb1 ?_
  refine ok_cP (vf_X3_byteAt hn hb1 (by omega) (by omega) V_h) ?_; intro u2 e_u2 a_u2 b_u2
  refine ok_if ?_ ?_
  · intro C0
    exact ok_rP (by omega) (by omega)
  · intro C0
    refine ok_if ?_ ?_
    · intro C1
      refine ok_if ?_ ?_
      · intro C2
        refine ok_if ?_ ?_
        · intro C3
          refine ok_add (by omega) ?_; intro v3 e_v3
          refine ok_cP (vf_X3_byteAt hn hb1 (by omega) (by omega) V_h) ?_; intro u5 e_u5 a_u5 b_u5
          refine ok_if ?_ ?_
          · intro C4
            refine ok_add (by omega) ?_; intro v6 e_v6
            refine ok_sub (by omega) ?_; intro v7 e_v7
            refine ok_cP (vf_X7_classOf hn hb1 (by omega) (by omega) (by omega) (by omega) V_h) ?_; intro u9 e_u9 a_u9 b_u9
            refine ok_if ?_ ?_
            · intro C5
              refine ok_add (by omega) ?_; intro v10 e_v10
              exact ok_rP (by omega) (by omega)
            · intro C5
              exact ok_rP (by omega) (by omega)
          · intro C4
            exact ok_rP (by omega) (by omega)
        · intro C3
          refine ok_add (by omega) ?_; intro v13 e_v13
          refine ok_sub (by omega) ?_; intro v14 e_v14
          refine ok_cP (vf_X7_classOf hn hb1 (by omega) (by omega) (by omega) (by omega) V_h) ?_; intro u16 e_u16 a_u16 b_u16
          exact ok_rP (by omega) (by omega)
      · intro C2
        exact ok_rP (by omega) (by omega)
    · intro C1
      exact ok_rP (by omega) (by omega)
set_option maxRecDepth 4000 in
theorem vj_X7_readKind_130 {nn : Nat} (hn : 1000000 ≤ nn) {l1 : Nat} {l4 : Int} {l5 : Int} {l6 : Int} {l7 : Int} {h : ms_M} (i_l1 : kc_O l1 = 3) (a_l4 : 0 ≤ l4) (b_l4 : l4 ≤ 1785) (a_l5 : 0 ≤ l5) (b_l5 : l5 ≤ 6255) (a_l6 : (-1) ≤ l6) (b_l6 : l6 ≤ 6257) (a_l7 : 0 ≤ l7) (b_l7 : l7 ≤ 6) (V_h : VS_ h)  : Ok_ (qj_X7_readKind_130 nn l1 l4 l5 l6 l7 h) (QI_ 0 6) := by
  unfold qj_X7_readKind_130
  refine ok_add (by omega) ?_; intro v1 e_v1
  refine ok_cP (vf_X7_typeOfKind hn i_l1 (by omega) (by omega) (by omega) (by omega) V_h) ?_; intro u3 e_u3 a_u3 b_u3
  refine ok_wA (by omega) ?_; intro h4 E_h4; have V_h4 : VS_ h4 := by rw [E_h4]; exact wA_131 V_h (by omega)
  exact ok_rI V_h4 (by omega) (by omega)
set_option maxRecDepth 4000 in
theorem vw_X7_readKind_63 {nn : Nat} (hn : 1000000 ≤ nn) : ∀ (k : Nat) {l1 : Nat} {l4 : Int} {l5 : Int} {l6 : Int} {l7 : Int} {h : ms_M} (i_l1 : kc_O l1 = 3) (a_l4 : 0 ≤ l4) (b_l4 : l4 ≤ 1785) (a_l5 : 0 ≤ l5) (b_l5 : l5 ≤ 6255) (a_l6 : (-1) ≤ l6) (b_l6 : l6 ≤ 6257) (a_l7 : 0 ≤ l7) (b_l7 : l7 ≤ 6) (V_h : VS_ h)  (hm : 7 - l7 < (k : Int)), Ok_ (qw_X7_readKind_63 nn k l1 l4 l5 l6 l7 h) (QI_ 0 6) := by
  intro k
  induction k with
  | zero => intros; exfalso; omega
  | succ k ih =>
    intro l1 l4 l5 l6 l7 h i_l1 a_l4 b_l4 a_l5 b_l5 a_l6 b_l6 a_l7 b_l7 V_h hm
    unfold qw_X7_readKind_63
    refine ok_if ?_ ?_
    · intro C0
      exact vj_X7_readKind_130 hn i_l1 (by omega) (by omega) (by omega) (by omega) (by omega) (by omega) (by omega) (by omega) V_h
    · intro C0
      refine ok_if ?_ ?_
      · intro C1
        exact vj_X7_readKind_130 hn i_l1 (by omega) (by omega) (by omega) (by omega) (by omega) (by omega) (by omega) (by omega) V_h
      · intro C1
        refine ok_if ?_ ?_
        · intro C2
          exact vj_X7_readKind_130 hn i_l1 (by omega) (by omega) (by omega) (by omega) (by omega) (by omega) (by omega) (by omega) V_h
        · intro C2
          have hb1 : kc_O l1 = 3 := i_l1
          refine ok_ck hb1 ?_
          refine ok_cP (vf_X3_byteAt hn hb1 (by omega) (by omega) V_h) ?_; intro u6 e_u6 a_u6 b_u6
          refine ok_if ?_ ?_
          · intro C3
            exact vj_X7_readKind_130 hn hb1 (by omega) (by omega) (by omega) (by omega) (by omega) (by omega) (by omega) (by omega) V_h
          · intro C3
            refine ok_cP (vf_X3_behindKind hn hb1 (by omega) (by omega) (by omega) (by omega) V_h) ?_; intro u8 e_u8 a_u8 b_u8
            refine ok_add (by omega) ?_; intro v9 e_v9
            refine ok_add (by omega) ?_; intro v10 e_v10
            refine ok_cP (vf_X7_typeOfKind hn hb1 (by omega) (by omega) (by omega) (by omega) V_h) ?_; intro u12 e_u12 a_u12 b_u12
            refine ok_wA (by omega) ?_; intro h13 E_h13; have V_h13 : VS_ h13 := by rw [E_h13]; exact wA_131 V_h (by omega)
            exact ih hb1 (by omega) (by omega) (by omega) (by omega) (by omega) (by omega) (by omega) (by omega) V_h13 (by omega)
set_option maxRecDepth 4000 in
theorem vf_X7_readKind {nn : Nat} (hn : 1000000 ≤ nn) {a1 : Nat} {a2 : Int} {a4 : Int} {h : ms_M} (i_a1 : kc_O a1 = 3) (a_a2 : (-1) ≤ a2) (b_a2 : a2 ≤ 65535) (a_a4 : 0 ≤ a4) (b_a4 : a4 ≤ 1785) (V_h : VS_ h)  : Ok_ (qf_X7_readKind nn a1 a2 a4 h) (QI_ 0 6) := by
  unfold qf_X7_readKind
  have hb1 : kc_O a1 = 3 := i_a1
  refine ok_ck hb1 ?_
  refine ok_cP (vf_X3_textEnd hn hb1 (by omega) (by omega) V_h) ?_; intro u19 e_u19 a_u19 b_u19
  refine ok_cP (vf_X3_textAt hn hb1 (by omega) (by omega) V_h) ?_; intro u21 e_u21 a_u21 b_u21
  refine ok_if ?_ ?_
  · intro C0
    exfalso; omega
  · intro C0
    refine ok_add (by omega) ?_; intro v22 e_v22
    refine ok_if ?_ ?_
    · intro C1
      refine ok_cP (vf_X3_byteAt hn hb1 (by omega) (by omega) V_h) ?_; intro u25 e_u25 a_u25 b_u25
      refine ok_if ?_ ?_
      · intro C2
        refine ok_add (by omega) ?_; intro v26 e_v26
        exact vw_X7_readKind_63 hn _ hb1 (by omega) (by omega) (by omega) (by omega) (by omega) (by omega) (by omega) (by omega) V_h (by omega)
      · intro C2
        refine ok_cP (vf_X7_typeOfKind hn hb1 (by omega) (by omega) (by omega) (by omega) V_h) ?_; intro u28 e_u28 a_u28 b_u28
        refine ok_wA (by omega) ?_; intro h29 E_h29; have V_h29 : VS_ h29 := by rw [E_h29]; exact wA_131 V_h (by omega)
        exact ok_rI V_h29 (by omega) (by omega)
    · intro C1
      exfalso; omega
set_option maxRecDepth 4000 in
theorem vj_X11_areKindsThere_133 {nn : Nat} (hn : 1000000 ≤ nn) {qkk_68 : Int → Int → ms_M → Option (Int × ms_M)} {K_kk_68 : Int} {qkk_108 : Int → Int → Int → Int → ms_M → Option (Int × ms_M)} {K_kk_108 : Int} (hk_kk_68 : ∀ {l1 : Int} {l2 : Int} {h : ms_M} (a_l1 : 0 ≤ l1) (b_l1 : l1 ≤ 1) (a_l2 : 0 ≤ l2) (b_l2 : l2 ≤ 12) (V_h : VS_ h) (_ : 13 - l2 < K_kk_68), Ok_ (qkk_68 l1 l2 h) (QI_ 0 1)) (hk_kk_108 : ∀ {l1 : Int} {l2 : Int} {l3 : Int} {l4 : Int} {h : ms_M} (a_l1 : 0 ≤ l1) (b_l1 : l1 ≤ 1) (a_l2 : 0 ≤ l2) (b_l2 : l2 ≤ 11) (a_l3 : 0 ≤ l3) (b_l3 : l3 ≤ 6) (a_l4 : 0 ≤ l4) (b_l4 : l4 ≤ 7) (V_h : VS_ h) (_ : 13 - l2 + 0 ≤ K_kk_68) (_ : 8 - l4 < K_kk_108), Ok_ (qkk_108 l1 l2 l3 l4 h) (QI_ 0 1)) {l2 : Int} {l3 : Int} {l4 : Int} {h : ms_M} (a_l2 : 0 ≤ l2) (b_l2 : l2 ≤ 11) (a_l3 : 0 ≤ l3) (b_l3 : l3 ≤ 6) (a_l4 : 0 ≤ l4) (b_l4 : l4 ≤ 6) (V_h : VS_ h) (hm_kk_68 : 13 - l2 + 0 ≤ K_kk_68) (hm_kk_108 : 8 - l4 + 0 ≤ K_kk_108) : Ok_ (qj_X11_areKindsThere_133 nn qkk_68 qkk_108 l2 l3 l4 h) (QI_ 0 1) := by
  unfold qj_X11_areKindsThere_133
  refine ok_add (by omega) ?_; intro v1 e_v1
  exact hk_kk_108 (by omega) (by omega) (by omega) (by omega) (by omega) (by omega) (by omega) (by omega) V_h (by omega) (by omega)
set_option maxRecDepth 4000 in
theorem vw_X11_areKindsThere_108 {nn : Nat} (hn : 1000000 ≤ nn) {qkk_68 : Int → Int → ms_M → Option (Int × ms_M)} {K_kk_68 : Int} (hk_kk_68 : ∀ {l1 : Int} {l2 : Int} {h : ms_M} (a_l1 : 0 ≤ l1) (b_l1 : l1 ≤ 1) (a_l2 : 0 ≤ l2) (b_l2 : l2 ≤ 12) (V_h : VS_ h) (_ : 13 - l2 < K_kk_68), Ok_ (qkk_68 l1 l2 h) (QI_ 0 1)) : ∀ (k : Nat) {l1 : Int} {l2 : Int} {l3 : Int} {l4 : Int} {h : ms_M} (a_l1 : 0 ≤ l1) (b_l1 : l1 ≤ 1) (a_l2 : 0 ≤ l2) (b_l2 : l2 ≤ 11) (a_l3 : 0 ≤ l3) (b_l3 : l3 ≤ 6) (a_l4 : 0 ≤ l4) (b_l4 : l4 ≤ 7) (V_h : VS_ h) (hm_kk_68 : 13 - l2 + 0 ≤ K_kk_68) (hm : 8 - l4 < (k : Int)), Ok_ (qw_X11_areKindsThere_108 nn qkk_68 k l1 l2 l3 l4 h) (QI_ 0 1) := by
  intro k
  induction k with
  | zero => intros; exfalso; omega
  | succ k ih =>
    intro l1 l2 l3 l4 h a_l1 b_l1 a_l2 b_l2 a_l3 b_l3 a_l4 b_l4 V_h hm_kk_68 hm
    unfold qw_X11_areKindsThere_108
    refine ok_if ?_ ?_
    · intro C0
      refine ok_add (by omega) ?_; intro v2 e_v2
      exact hk_kk_68 (by omega) (by omega) (by omega) (by omega) V_h (by omega)
    · intro C0
      refine ok_if ?_ ?_
      · intro C1
        exact vj_X11_areKindsThere_133 hn hk_kk_68 ih (by omega) (by omega) (by omega) (by omega) (by omega) (by omega) V_h (by omega) (by omega)
      · intro C1
        refine ok_rd (by omega) (gA_131 V_h) ?_; intro v4 e_v4 a_v4 b_v4
        refine ok_if ?_ ?_
        · intro C2
          exact vj_X11_areKindsThere_133 hn hk_kk_68 ih (by omega) (by omega) (by omega) (by omega) (by omega) (by omega) V_h (by omega) (by omega)
        · intro C2
          refine ok_add (by omega) ?_; intro v5 e_v5
          exact ih (by omega) (by omega) (by omega) (by omega) (by omega) (by omega) (by omega) (by omega) V_h (by omega) (by omega)
set_option maxRecDepth 4000 in
theorem vw_X11_areKindsThere_68 {nn : Nat} (hn : 1000000 ≤ nn) : ∀ (k : Nat) {l1 : Int} {l2 : Int} {h : ms_M} (a_l1 : 0 ≤ l1) (b_l1 : l1 ≤ 1) (a_l2 : 0 ≤ l2) (b_l2 : l2 ≤ 12) (V_h : VS_ h)  (hm : 13 - l2 < (k : Int)), Ok_ (qw_X11_areKindsThere_68 nn k l1 l2 h) (QI_ 0 1) := by
  intro k
  induction k with
  | zero => intros; exfalso; omega
  | succ k ih =>
    intro l1 l2 h a_l1 b_l1 a_l2 b_l2 V_h hm
    unfold qw_X11_areKindsThere_68
    refine ok_ck (vi_r V_h).2.1.1 ?_
    have hb1 : kc_O (h 127 5).toNat = 3 := (vi_r V_h).2.1.2
    refine ok_ck hb1 ?_
    have T1 := gI_12 V_h hb1
    refine ok_if ?_ ?_
    · intro C1
      refine ok_ck (by omega) ?_
      exact ok_rI V_h (by omega) (by omega)
    · intro C1
      refine ok_ck (vi_r V_h).2.1.1 ?_
      refine ok_ck (vi_r V_h).2.1.1 ?_
      refine ok_cP (vf_X3_of hn hb1 (by omega) (by omega) (by omega) (by omega) V_h) ?_; intro u16 e_u16 a_u16 b_u16
      refine ok_cI (vf_X7_readKind hn hb1 (by omega) (by omega) (by omega) (by omega) V_h) ?_; intro u19 E_u19 V_u19 a_u19 b_u19
      exact vw_X11_areKindsThere_108 hn ih _ (by omega) (by omega) (by omega) (by omega) (by omega) (by omega) (by omega) (by omega) V_u19 (by omega) (by omega)
set_option maxRecDepth 4000 in
theorem vj_X11_areKindsThere_58 {nn : Nat} (hn : 1000000 ≤ nn) {qkk_4 : Int → Int → ms_M → Option (Int × ms_M)} {K_kk_4 : Int} (hk_kk_4 : ∀ {l1 : Int} {l2 : Int} {h : ms_M} (a_l1 : 0 ≤ l1) (b_l1 : l1 ≤ 1) (a_l2 : 0 ≤ l2) (b_l2 : l2 ≤ 12) (V_h : VS_ h) (_ : 13 - l2 < K_kk_4), Ok_ (qkk_4 l1 l2 h) (QI_ 0 1)) {l2 : Int} {h : ms_M} (a_l2 : 0 ≤ l2) (b_l2 : l2 ≤ 11) (V_h : VS_ h) (hm_kk_4 : 13 - l2 + 0 ≤ K_kk_4) : Ok_ (qj_X11_areKindsThere_58 nn qkk_4 l2 h) (QI_ 0 1) := by
  unfold qj_X11_areKindsThere_58
  refine ok_add (by omega) ?_; intro v21 e_v21
  exact hk_kk_4 (by omega) (by omega) (by omega) (by omega) V_h (by omega)
set_option maxRecDepth 4000 in
theorem vw_X11_areKindsThere_4 {nn : Nat} (hn : 1000000 ≤ nn) : ∀ (k : Nat) {l1 : Int} {l2 : Int} {h : ms_M} (a_l1 : 0 ≤ l1) (b_l1 : l1 ≤ 1) (a_l2 : 0 ≤ l2) (b_l2 : l2 ≤ 12) (V_h : VS_ h)  (hm : 13 - l2 < (k : Int)), Ok_ (qw_X11_areKindsThere_4 nn k l1 l2 h) (QI_ 0 1) := by
  intro k
  induction k with
  | zero => intros; exfalso; omega
  | succ k ih =>
    intro l1 l2 h a_l1 b_l1 a_l2 b_l2 V_h hm
    unfold qw_X11_areKindsThere_4
    refine ok_ck (vi_r V_h).2.1.1 ?_
    have hb1 : kc_O (h 127 5).toNat = 3 := (vi_r V_h).2.1.2
    refine ok_ck hb1 ?_
    have T1 := gI_10 V_h hb1
    refine ok_if ?_ ?_
    · intro C1
      exact vw_X11_areKindsThere_68 hn _ (by omega) (by omega) (by omega) (by omega) V_h (by omega)
    · intro C1
      refine ok_ck (vi_r V_h).2.1.1 ?_
      refine ok_ck (vi_r V_h).2.1.1 ?_
      refine ok_cP (vf_X3_fieldKind hn hb1 (by omega) (by omega) V_h) ?_; intro u28 e_u28 a_u28 b_u28
      refine ok_cI (vf_X7_readKind hn hb1 (by omega) (by omega) (by omega) (by omega) V_h) ?_; intro u31 E_u31 V_u31 a_u31 b_u31
      refine ok_if ?_ ?_
      · intro C2
        exact vj_X11_areKindsThere_58 hn ih (by omega) (by omega) V_u31 (by omega)
      · intro C2
        refine ok_rd (by omega) (gA_131 V_u31) ?_; intro v33 e_v33 a_v33 b_v33
        refine ok_if ?_ ?_
        · intro C3
          exact vj_X11_areKindsThere_58 hn ih (by omega) (by omega) V_u31 (by omega)
        · intro C3
          refine ok_add (by omega) ?_; intro v34 e_v34
          exact ih (by omega) (by omega) (by omega) (by omega) V_u31 (by omega)
set_option maxRecDepth 4000 in
theorem vf_X11_areKindsThere {nn : Nat} (hn : 1000000 ≤ nn) {h : ms_M} (V_h : VS_ h)  : Ok_ (qf_X11_areKindsThere nn h) (QI_ 0 1) := by
  unfold qf_X11_areKindsThere
  exact vw_X11_areKindsThere_4 hn _ (by omega) (by omega) (by omega) (by omega) V_h (by omega)
set_option maxRecDepth 4000 in
theorem vf_X7_numberOf {nn : Nat} (hn : 1000000 ≤ nn) {a1 : Int} {a2 : Int} {h : ms_M} (a_a1 : 8 ≤ a1) (b_a1 : a1 ≤ 15) (a_a2 : 0 ≤ a2) (b_a2 : a2 ≤ 11) (V_h : VS_ h)  : Ok_ (qf_X7_numberOf nn a1 a2 h) (QP_ 0 95) := by
  unfold qf_X7_numberOf
  refine ok_sub (by omega) ?_; intro v1 e_v1
  refine ok_mul (by omega) ?_; intro v2 e_v2
  refine ok_add (by omega) ?_; intro v3 e_v3
  exact ok_rP (by omega) (by omega)
set_option maxRecDepth 4000 in
theorem vw_X7_methodOf_31 {nn : Nat} (hn : 1000000 ≤ nn) {qkk_6 : Nat → Int → Int → Int → ms_M → Option Int} {K_kk_6 : Int} (hk_kk_6 : ∀ {l2 : Nat} {l3 : Int} {l4 : Int} {l5 : Int} {h : ms_M} (i_l2 : kc_O l2 = 3) (a_l3 : (-1) ≤ l3) (b_l3 : l3 ≤ 65535) (a_l4 : (-1) ≤ l4) (b_l4 : l4 ≤ 341) (a_l5 : 0 ≤ l5) (b_l5 : l5 ≤ 16) (V_h : VS_ h) (_ : 17 - l5 < K_kk_6), Ok_ (qkk_6 l2 l3 l4 l5 h) (QP_ (-1) 95)) : ∀ (k : Nat) {l2 : Nat} {l3 : Int} {l4 : Int} {l5 : Int} {l6 : Int} {l7 : Int} {h : ms_M} (i_l2 : kc_O l2 = 3) (a_l3 : (-1) ≤ l3) (b_l3 : l3 ≤ 65535) (a_l4 : 8 ≤ l4) (b_l4 : l4 ≤ 15) (a_l5 : 0 ≤ l5) (b_l5 : l5 ≤ 15) (n_l6 : 0 ≤ l6) (k_l6 : kc_O (l6).toNat = 3) (a_l7 : 0 ≤ l7) (b_l7 : l7 ≤ 12) (V_h : VS_ h) (hm_kk_6 : 17 - l5 + 0 ≤ K_kk_6) (hm : 13 - l7 < (k : Int)), Ok_ (qw_X7_methodOf_31 nn qkk_6 k l2 l3 l4 l5 l6 l7 h) (QP_ (-1) 95) := by
  intro k
  induction k with
  | zero => intros; exfalso; omega
  | succ k ih =>
    intro l2 l3 l4 l5 l6 l7 h i_l2 a_l3 b_l3 a_l4 b_l4 a_l5 b_l5 n_l6 k_l6 a_l7 b_l7 V_h hm_kk_6 hm
    unfold qw_X7_methodOf_31
    refine ok_ck n_l6 ?_
    have hb1 : kc_O (l6).toNat = 3 := k_l6
    refine ok_ck hb1 ?_
    have T1 := gI_12 V_h hb1
    refine ok_if ?_ ?_
    · intro C1
      refine ok_cP (vf_X4_above hn rfl (by omega) (by omega) V_h) ?_; intro u5 e_u5 a_u5 b_u5
      refine ok_add (by omega) ?_; intro v6 e_v6
      exact hk_kk_6 i_l2 (by omega) (by omega) (by omega) (by omega) (by omega) (by omega) V_h (by omega)
    · intro C1
      refine ok_cP (vf_X3_of hn hb1 (by omega) (by omega) (by omega) (by omega) V_h) ?_; intro u8 e_u8 a_u8 b_u8
      refine ok_cP (vf_X3_sameText hn hb1 (by omega) (by omega) i_l2 (by omega) (by omega) V_h) ?_; intro u10 e_u10 a_u10 b_u10
      refine ok_if ?_ ?_
      · intro C2
        refine ok_add (by omega) ?_; intro v11 e_v11
        exact ih i_l2 (by omega) (by omega) (by omega) (by omega) (by omega) (by omega) (by omega) hb1 (by omega) (by omega) V_h (by omega) (by omega)
      · intro C2
        refine ok_cP (vf_X7_numberOf hn (by omega) (by omega) (by omega) (by omega) V_h) ?_; intro u13 e_u13 a_u13 b_u13
        exact ok_rP (by omega) (by omega)
set_option maxRecDepth 4000 in
theorem vw_X7_methodOf_6 {nn : Nat} (hn : 1000000 ≤ nn) : ∀ (k : Nat) {l2 : Nat} {l3 : Int} {l4 : Int} {l5 : Int} {h : ms_M} (i_l2 : kc_O l2 = 3) (a_l3 : (-1) ≤ l3) (b_l3 : l3 ≤ 65535) (a_l4 : (-1) ≤ l4) (b_l4 : l4 ≤ 341) (a_l5 : 0 ≤ l5) (b_l5 : l5 ≤ 16) (V_h : VS_ h)  (hm : 17 - l5 < (k : Int)), Ok_ (qw_X7_methodOf_6 nn k l2 l3 l4 l5 h) (QP_ (-1) 95) := by
  intro k
  induction k with
  | zero => intros; exfalso; omega
  | succ k ih =>
    intro l2 l3 l4 l5 h i_l2 a_l3 b_l3 a_l4 b_l4 a_l5 b_l5 V_h hm
    unfold qw_X7_methodOf_6
    refine ok_if ?_ ?_
    · intro C0
      exact ok_rP (by omega) (by omega)
    · intro C0
      refine ok_cO (vf_X7_imageOf hn (by omega) (by omega) V_h) ?_; intro u17 e_u17 o_u17
      have T2 := po_X7_imageOf V_h e_u17
      refine ok_if ?_ ?_
      · intro C2
        exact ok_rP (by omega) (by omega)
      · intro C2
        exact vw_X7_methodOf_31 hn ih _ i_l2 (by omega) (by omega) (by omega) (by omega) (by omega) (by omega) (by omega) (o_u17.resolve_left C2) (by omega) (by omega) V_h (by omega) (by omega)
set_option maxRecDepth 4000 in
theorem vf_X7_methodOf {nn : Nat} (hn : 1000000 ≤ nn) {a1 : Int} {a2 : Nat} {a3 : Int} {h : ms_M} (a_a1 : (-1) ≤ a1) (b_a1 : a1 ≤ 341) (i_a2 : kc_O a2 = 3) (a_a3 : (-1) ≤ a3) (b_a3 : a3 ≤ 65535) (V_h : VS_ h)  : Ok_ (qf_X7_methodOf nn a1 a2 a3 h) (QP_ (-1) 95) := by
  unfold qf_X7_methodOf
  exact vw_X7_methodOf_6 hn _ i_a2 (by omega) (by omega) (by omega) (by omega) (by omega) (by omega) V_h (by omega)
set_option maxRecDepth 4000 in
theorem vj_X11_hasOtherAbove_124 {nn : Nat} (hn : 1000000 ≤ nn) {qkk_4 : Int → Int → Int → ms_M → Option Int} {K_kk_4 : Int} (hk_kk_4 : ∀ {l1 : Int} {l2 : Int} {l3 : Int} {h : ms_M} (a_l1 : 8 ≤ l1) (b_l1 : l1 ≤ 15) (a_l2 : 0 ≤ l2) (b_l2 : l2 ≤ 1) (a_l3 : 0 ≤ l3) (b_l3 : l3 ≤ 12) (V_h : VS_ h) (_ : 13 - l3 < K_kk_4), Ok_ (qkk_4 l1 l2 l3 h) (QP_ 0 1)) {l1 : Int} {l3 : Int} {h : ms_M} (a_l1 : 8 ≤ l1) (b_l1 : l1 ≤ 15) (a_l3 : 0 ≤ l3) (b_l3 : l3 ≤ 11) (V_h : VS_ h) (hm_kk_4 : 13 - l3 + 0 ≤ K_kk_4) : Ok_ (qj_X11_hasOtherAbove_124 nn qkk_4 l1 l3 h) (QP_ 0 1) := by
  unfold qj_X11_hasOtherAbove_124
  refine ok_add (by omega) ?_; intro v1 e_v1
  exact hk_kk_4 (by omega) (by omega) (by omega) (by omega) (by omega) (by omega) V_h (by omega)
set_option maxRecDepth 4000 in
theorem vw_X11_hasOtherAbove_4 {nn : Nat} (hn : 1000000 ≤ nn) : ∀ (k : Nat) {l1 : Int} {l2 : Int} {l3 : Int} {h : ms_M} (a_l1 : 8 ≤ l1) (b_l1 : l1 ≤ 15) (a_l2 : 0 ≤ l2) (b_l2 : l2 ≤ 1) (a_l3 : 0 ≤ l3) (b_l3 : l3 ≤ 12) (V_h : VS_ h)  (hm : 13 - l3 < (k : Int)), Ok_ (qw_X11_hasOtherAbove_4 nn k l1 l2 l3 h) (QP_ 0 1) := by
  intro k
  induction k with
  | zero => intros; exfalso; omega
  | succ k ih =>
    intro l1 l2 l3 h a_l1 b_l1 a_l2 b_l2 a_l3 b_l3 V_h hm
    unfold qw_X11_hasOtherAbove_4
    refine ok_ck (vi_r V_h).2.1.1 ?_
    have hb1 : kc_O (h 127 5).toNat = 3 := (vi_r V_h).2.1.2
    refine ok_ck hb1 ?_
    have T1 := gI_12 V_h hb1
    refine ok_if ?_ ?_
    · intro C1
      refine ok_ck (by omega) ?_
      exact ok_rP (by omega) (by omega)
    · intro C1
      refine ok_if ?_ ?_
      · intro C2
        refine ok_ck (by omega) ?_
        exact ok_rP (by omega) (by omega)
      · intro C2
        refine ok_cP (vf_X4_above hn rfl (by omega) (by omega) V_h) ?_; intro u9 e_u9 a_u9 b_u9
        refine ok_ck (vi_r V_h).2.1.1 ?_
        refine ok_ck (vi_r V_h).2.1.1 ?_
        refine ok_cP (vf_X3_of hn hb1 (by omega) (by omega) (by omega) (by omega) V_h) ?_; intro u13 e_u13 a_u13 b_u13
        refine ok_cP (vf_X7_methodOf hn (by omega) (by omega) hb1 (by omega) (by omega) V_h) ?_; intro u15 e_u15 a_u15 b_u15
        refine ok_cO (vf_X7_imageOfMember hn (by omega) (by omega) V_h) ?_; intro u18 e_u18 o_u18
        have T4 := po_X7_imageOfMember V_h e_u18
        refine ok_if ?_ ?_
        · intro C4
          refine ok_add (by omega) ?_; intro v21 e_v21
          exact ih (by omega) (by omega) (by omega) (by omega) (by omega) (by omega) V_h (by omega)
        · intro C4
          refine ok_rem (n := 12) (by omega) ?_; intro v22 e_v22
          refine ok_ck (vi_r V_h).2.1.1 ?_
          refine ok_cP (vf_X3_of hn hb1 (by omega) (by omega) (by omega) (by omega) V_h) ?_; intro u25 e_u25 a_u25 b_u25
          refine ok_if ?_ ?_
          · intro C5
            exact vj_X11_hasOtherAbove_124 hn ih (by omega) (by omega) (by omega) (by omega) V_h (by omega)
          · intro C5
            have hb2 : kc_O (u18).toNat = 3 := (o_u18.resolve_left C4)
            refine ok_ck hb2 ?_
            refine ok_cP (vf_X3_of hn hb2 (by omega) (by omega) (by omega) (by omega) V_h) ?_; intro u27 e_u27 a_u27 b_u27
            refine ok_if ?_ ?_
            · intro C6
              exact vj_X11_hasOtherAbove_124 hn ih (by omega) (by omega) (by omega) (by omega) V_h (by omega)
            · intro C6
              refine ok_ck (vi_r V_h).2.1.1 ?_
              refine ok_ck (vi_r V_h).2.1.1 ?_
              refine ok_cP (vf_X3_of hn hb1 (by omega) (by omega) (by omega) (by omega) V_h) ?_; intro u31 e_u31 a_u31 b_u31
              refine ok_cP (vf_X3_of hn hb2 (by omega) (by omega) (by omega) (by omega) V_h) ?_; intro u33 e_u33 a_u33 b_u33
              refine ok_cP (vf_X3_sameText hn hb1 (by omega) (by omega) hb2 (by omega) (by omega) V_h) ?_; intro u35 e_u35 a_u35 b_u35
              refine ok_if ?_ ?_
              · intro C7
                refine ok_add (by omega) ?_; intro v36 e_v36
                exact ih (by omega) (by omega) (by omega) (by omega) (by omega) (by omega) V_h (by omega)
              · intro C7
                exact vj_X11_hasOtherAbove_124 hn ih (by omega) (by omega) (by omega) (by omega) V_h (by omega)
set_option maxRecDepth 4000 in
theorem vf_X11_hasOtherAbove {nn : Nat} (hn : 1000000 ≤ nn) {a1 : Int} {h : ms_M} (a_a1 : 8 ≤ a1) (b_a1 : a1 ≤ 15) (V_h : VS_ h)  : Ok_ (qf_X11_hasOtherAbove nn a1 h) (QP_ 0 1) := by
  unfold qf_X11_hasOtherAbove
  exact vw_X11_hasOtherAbove_4 hn _ (by omega) (by omega) (by omega) (by omega) (by omega) (by omega) V_h (by omega)
set_option maxRecDepth 4000 in
theorem vf_X3_fieldName {nn : Nat} (hn : 1000000 ≤ nn) {a0 : Nat} {a1 : Int} {h : ms_M} (hb_a0 : kc_O a0 = 3) (a_a1 : 0 ≤ a1) (b_a1 : a1 ≤ 11) (V_h : VS_ h)  : Ok_ (qf_X3_fieldName nn a0 a1 h) (QP_ 0 255) := by
  unfold qf_X3_fieldName
  refine ok_if ?_ ?_
  · intro C0
    exfalso; omega
  · intro C0
    have T2 := gI_10 V_h hb_a0
    refine ok_if ?_ ?_
    · intro C2
      exact ok_rP (by omega) (by omega)
    · intro C2
      refine ok_mul (by omega) ?_; intro v3 e_v3
      refine ok_rd (by omega) (gIA_5 V_h hb_a0) ?_; intro v4 e_v4 a_v4 b_v4
      exact ok_rP (by omega) (by omega)
set_option maxRecDepth 4000 in
theorem vj_X11_hasTwins_130 {nn : Nat} (hn : 1000000 ≤ nn) {qkk_76 : Int → Int → ms_M → Option Int} {K_kk_76 : Int} {qkk_89 : Int → Int → Int → ms_M → Option Int} {K_kk_89 : Int} (hk_kk_76 : ∀ {l1 : Int} {l2 : Int} {h : ms_M} (a_l1 : 0 ≤ l1) (b_l1 : l1 ≤ 1) (a_l2 : 0 ≤ l2) (b_l2 : l2 ≤ 12) (V_h : VS_ h) (_ : 13 - l2 < K_kk_76), Ok_ (qkk_76 l1 l2 h) (QP_ 0 1)) (hk_kk_89 : ∀ {l1 : Int} {l2 : Int} {l3 : Int} {h : ms_M} (a_l1 : 0 ≤ l1) (b_l1 : l1 ≤ 1) (a_l2 : 0 ≤ l2) (b_l2 : l2 ≤ 11) (a_l3 : 0 ≤ l3) (b_l3 : l3 ≤ 11) (V_h : VS_ h) (_ : 13 - l2 + 0 ≤ K_kk_76) (_ : 12 - l3 < K_kk_89), Ok_ (qkk_89 l1 l2 l3 h) (QP_ 0 1)) {l2 : Int} {l3 : Int} {h : ms_M} (a_l2 : 0 ≤ l2) (b_l2 : l2 ≤ 11) (a_l3 : 0 ≤ l3) (b_l3 : l3 ≤ 10) (V_h : VS_ h) (hm_kk_76 : 13 - l2 + 0 ≤ K_kk_76) (hm_kk_89 : 12 - l3 + 0 ≤ K_kk_89) : Ok_ (qj_X11_hasTwins_130 nn qkk_76 qkk_89 l2 l3 h) (QP_ 0 1) := by
  unfold qj_X11_hasTwins_130
  refine ok_add (by omega) ?_; intro v1 e_v1
  exact hk_kk_89 (by omega) (by omega) (by omega) (by omega) (by omega) (by omega) V_h (by omega) (by omega)
set_option maxRecDepth 4000 in
theorem vw_X11_hasTwins_89 {nn : Nat} (hn : 1000000 ≤ nn) {qkk_76 : Int → Int → ms_M → Option Int} {K_kk_76 : Int} (hk_kk_76 : ∀ {l1 : Int} {l2 : Int} {h : ms_M} (a_l1 : 0 ≤ l1) (b_l1 : l1 ≤ 1) (a_l2 : 0 ≤ l2) (b_l2 : l2 ≤ 12) (V_h : VS_ h) (_ : 13 - l2 < K_kk_76), Ok_ (qkk_76 l1 l2 h) (QP_ 0 1)) : ∀ (k : Nat) {l1 : Int} {l2 : Int} {l3 : Int} {h : ms_M} (a_l1 : 0 ≤ l1) (b_l1 : l1 ≤ 1) (a_l2 : 0 ≤ l2) (b_l2 : l2 ≤ 11) (a_l3 : 0 ≤ l3) (b_l3 : l3 ≤ 11) (V_h : VS_ h) (hm_kk_76 : 13 - l2 + 0 ≤ K_kk_76) (hm : 12 - l3 < (k : Int)), Ok_ (qw_X11_hasTwins_89 nn qkk_76 k l1 l2 l3 h) (QP_ 0 1) := by
  intro k
  induction k with
  | zero => intros; exfalso; omega
  | succ k ih =>
    intro l1 l2 l3 h a_l1 b_l1 a_l2 b_l2 a_l3 b_l3 V_h hm_kk_76 hm
    unfold qw_X11_hasTwins_89
    refine ok_if ?_ ?_
    · intro C0
      refine ok_add (by omega) ?_; intro v2 e_v2
      exact hk_kk_76 (by omega) (by omega) (by omega) (by omega) V_h (by omega)
    · intro C0
      refine ok_if ?_ ?_
      · intro C1
        exact vj_X11_hasTwins_130 hn hk_kk_76 ih (by omega) (by omega) (by omega) (by omega) V_h (by omega) (by omega)
      · intro C1
        refine ok_ck (vi_r V_h).2.1.1 ?_
        refine ok_ck (vi_r V_h).2.1.1 ?_
        have hb1 : kc_O (h 127 5).toNat = 3 := (vi_r V_h).2.1.2
        refine ok_ck hb1 ?_
        refine ok_cP (vf_X3_of hn hb1 (by omega) (by omega) (by omega) (by omega) V_h) ?_; intro u6 e_u6 a_u6 b_u6
        refine ok_ck (vi_r V_h).2.1.1 ?_
        refine ok_ck (vi_r V_h).2.1.1 ?_
        refine ok_cP (vf_X3_of hn hb1 (by omega) (by omega) (by omega) (by omega) V_h) ?_; intro u10 e_u10 a_u10 b_u10
        refine ok_cP (vf_X3_sameText hn hb1 (by omega) (by omega) hb1 (by omega) (by omega) V_h) ?_; intro u12 e_u12 a_u12 b_u12
        refine ok_if ?_ ?_
        · intro C2
          refine ok_add (by omega) ?_; intro v13 e_v13
          exact ih (by omega) (by omega) (by omega) (by omega) (by omega) (by omega) V_h (by omega) (by omega)
        · intro C2
          exact vj_X11_hasTwins_130 hn hk_kk_76 ih (by omega) (by omega) (by omega) (by omega) V_h (by omega) (by omega)
set_option maxRecDepth 4000 in
theorem vw_X11_hasTwins_76 {nn : Nat} (hn : 1000000 ≤ nn) : ∀ (k : Nat) {l1 : Int} {l2 : Int} {h : ms_M} (a_l1 : 0 ≤ l1) (b_l1 : l1 ≤ 1) (a_l2 : 0 ≤ l2) (b_l2 : l2 ≤ 12) (V_h : VS_ h)  (hm : 13 - l2 < (k : Int)), Ok_ (qw_X11_hasTwins_76 nn k l1 l2 h) (QP_ 0 1) := by
  intro k
  induction k with
  | zero => intros; exfalso; omega
  | succ k ih =>
    intro l1 l2 h a_l1 b_l1 a_l2 b_l2 V_h hm
    unfold qw_X11_hasTwins_76
    refine ok_ck (vi_r V_h).2.1.1 ?_
    have hb1 : kc_O (h 127 5).toNat = 3 := (vi_r V_h).2.1.2
    refine ok_ck hb1 ?_
    have T1 := gI_12 V_h hb1
    refine ok_if ?_ ?_
    · intro C1
      refine ok_ck (by omega) ?_
      exact ok_rP (by omega) (by omega)
    · intro C1
      exact vw_X11_hasTwins_89 hn ih _ (by omega) (by omega) (by omega) (by omega) (by omega) (by omega) V_h (by omega) (by omega)
set_option maxRecDepth 4000 in
theorem vj_X11_hasTwins_56 {nn : Nat} (hn : 1000000 ≤ nn) {qkk_4 : Int → Int → ms_M → Option Int} {K_kk_4 : Int} {qkk_17 : Int → Int → Int → ms_M → Option Int} {K_kk_17 : Int} (hk_kk_4 : ∀ {l1 : Int} {l2 : Int} {h : ms_M} (a_l1 : 0 ≤ l1) (b_l1 : l1 ≤ 1) (a_l2 : 0 ≤ l2) (b_l2 : l2 ≤ 12) (V_h : VS_ h) (_ : 13 - l2 < K_kk_4), Ok_ (qkk_4 l1 l2 h) (QP_ 0 1)) (hk_kk_17 : ∀ {l1 : Int} {l2 : Int} {l3 : Int} {h : ms_M} (a_l1 : 0 ≤ l1) (b_l1 : l1 ≤ 1) (a_l2 : 0 ≤ l2) (b_l2 : l2 ≤ 11) (a_l3 : 0 ≤ l3) (b_l3 : l3 ≤ 11) (V_h : VS_ h) (_ : 13 - l2 + 0 ≤ K_kk_4) (_ : 12 - l3 < K_kk_17), Ok_ (qkk_17 l1 l2 l3 h) (QP_ 0 1)) {l2 : Int} {l3 : Int} {h : ms_M} (a_l2 : 0 ≤ l2) (b_l2 : l2 ≤ 11) (a_l3 : 0 ≤ l3) (b_l3 : l3 ≤ 10) (V_h : VS_ h) (hm_kk_4 : 13 - l2 + 0 ≤ K_kk_4) (hm_kk_17 : 12 - l3 + 0 ≤ K_kk_17) : Ok_ (qj_X11_hasTwins_56 nn qkk_4 qkk_17 l2 l3 h) (QP_ 0 1) := by
  unfold qj_X11_hasTwins_56
  refine ok_add (by omega) ?_; intro v21 e_v21
  exact hk_kk_17 (by omega) (by omega) (by omega) (by omega) (by omega) (by omega) V_h (by omega) (by omega)
set_option maxRecDepth 4000 in
theorem vw_X11_hasTwins_17 {nn : Nat} (hn : 1000000 ≤ nn) {qkk_4 : Int → Int → ms_M → Option Int} {K_kk_4 : Int} (hk_kk_4 : ∀ {l1 : Int} {l2 : Int} {h : ms_M} (a_l1 : 0 ≤ l1) (b_l1 : l1 ≤ 1) (a_l2 : 0 ≤ l2) (b_l2 : l2 ≤ 12) (V_h : VS_ h) (_ : 13 - l2 < K_kk_4), Ok_ (qkk_4 l1 l2 h) (QP_ 0 1)) : ∀ (k : Nat) {l1 : Int} {l2 : Int} {l3 : Int} {h : ms_M} (a_l1 : 0 ≤ l1) (b_l1 : l1 ≤ 1) (a_l2 : 0 ≤ l2) (b_l2 : l2 ≤ 11) (a_l3 : 0 ≤ l3) (b_l3 : l3 ≤ 11) (V_h : VS_ h) (hm_kk_4 : 13 - l2 + 0 ≤ K_kk_4) (hm : 12 - l3 < (k : Int)), Ok_ (qw_X11_hasTwins_17 nn qkk_4 k l1 l2 l3 h) (QP_ 0 1) := by
  intro k
  induction k with
  | zero => intros; exfalso; omega
  | succ k ih =>
    intro l1 l2 l3 h a_l1 b_l1 a_l2 b_l2 a_l3 b_l3 V_h hm_kk_4 hm
    unfold qw_X11_hasTwins_17
    refine ok_if ?_ ?_
    · intro C0
      refine ok_add (by omega) ?_; intro v22 e_v22
      exact hk_kk_4 (by omega) (by omega) (by omega) (by omega) V_h (by omega)
    · intro C0
      refine ok_if ?_ ?_
      · intro C1
        exact vj_X11_hasTwins_56 hn hk_kk_4 ih (by omega) (by omega) (by omega) (by omega) V_h (by omega) (by omega)
      · intro C1
        refine ok_ck (vi_r V_h).2.1.1 ?_
        refine ok_ck (vi_r V_h).2.1.1 ?_
        have hb1 : kc_O (h 127 5).toNat = 3 := (vi_r V_h).2.1.2
        refine ok_ck hb1 ?_
        refine ok_cP (vf_X3_fieldName hn hb1 (by omega) (by omega) V_h) ?_; intro u26 e_u26 a_u26 b_u26
        refine ok_ck (vi_r V_h).2.1.1 ?_
        refine ok_ck (vi_r V_h).2.1.1 ?_
        refine ok_cP (vf_X3_fieldName hn hb1 (by omega) (by omega) V_h) ?_; intro u30 e_u30 a_u30 b_u30
        refine ok_cP (vf_X3_sameText hn hb1 (by omega) (by omega) hb1 (by omega) (by omega) V_h) ?_; intro u32 e_u32 a_u32 b_u32
        refine ok_if ?_ ?_
        · intro C2
          refine ok_add (by omega) ?_; intro v33 e_v33
          exact ih (by omega) (by omega) (by omega) (by omega) (by omega) (by omega) V_h (by omega) (by omega)
        · intro C2
          exact vj_X11_hasTwins_56 hn hk_kk_4 ih (by omega) (by omega) (by omega) (by omega) V_h (by omega) (by omega)
set_option maxRecDepth 4000 in
theorem vw_X11_hasTwins_4 {nn : Nat} (hn : 1000000 ≤ nn) : ∀ (k : Nat) {l1 : Int} {l2 : Int} {h : ms_M} (a_l1 : 0 ≤ l1) (b_l1 : l1 ≤ 1) (a_l2 : 0 ≤ l2) (b_l2 : l2 ≤ 12) (V_h : VS_ h)  (hm : 13 - l2 < (k : Int)), Ok_ (qw_X11_hasTwins_4 nn k l1 l2 h) (QP_ 0 1) := by
  intro k
  induction k with
  | zero => intros; exfalso; omega
  | succ k ih =>
    intro l1 l2 h a_l1 b_l1 a_l2 b_l2 V_h hm
    unfold qw_X11_hasTwins_4
    refine ok_ck (vi_r V_h).2.1.1 ?_
    have hb1 : kc_O (h 127 5).toNat = 3 := (vi_r V_h).2.1.2
    refine ok_ck hb1 ?_
    have T1 := gI_10 V_h hb1
    refine ok_if ?_ ?_
    · intro C1
      exact vw_X11_hasTwins_76 hn _ (by omega) (by omega) (by omega) (by omega) V_h (by omega)
    · intro C1
      exact vw_X11_hasTwins_17 hn ih _ (by omega) (by omega) (by omega) (by omega) (by omega) (by omega) V_h (by omega) (by omega)
set_option maxRecDepth 4000 in
theorem vf_X11_hasTwins {nn : Nat} (hn : 1000000 ≤ nn) {h : ms_M} (V_h : VS_ h)  : Ok_ (qf_X11_hasTwins nn h) (QP_ 0 1) := by
  unfold qf_X11_hasTwins
  exact vw_X11_hasTwins_4 hn _ (by omega) (by omega) (by omega) (by omega) V_h (by omega)
set_option maxRecDepth 4000 in
theorem vf_X11_takeImage {nn : Nat} (hn : 1000000 ≤ nn) {a1 : Int} {h : ms_M} (a_a1 : 8 ≤ a1) (b_a1 : a1 ≤ 15) (V_h : VS_ h)  : Ok_ (qf_X11_takeImage nn a1 h) QV_ := by
  unfold qf_X11_takeImage
  refine ok_cO (vf_X7_imageOf hn (by omega) (by omega) V_h) ?_; intro u3 e_u3 o_u3
  have T1 := po_X7_imageOf V_h e_u3
  refine ok_if ?_ ?_
  · intro C1
    exact ok_rV V_h
  · intro C1
    refine ok_wR V_h (by decide) (by omega) (o_u3.resolve_left C1) ?_; intro h6 E_h6 V_h6
    exact ok_rV V_h6
set_option maxRecDepth 4000 in
theorem vf_X11_tellNumber {nn : Nat} (hn : 1000000 ≤ nn) {a1 : Int} {a2 : Int} {a3 : Int} {a4 : Int} {h : ms_M} (a_a1 : 1 ≤ a1) (b_a1 : a1 ≤ 12) (a_a2 : 8 ≤ a2) (b_a2 : a2 ≤ 15) (a_a3 : (-1) ≤ a3) (b_a3 : a3 ≤ 11) (a_a4 : (-1) ≤ a4) (b_a4 : a4 ≤ 65534) (V_h : VS_ h)  : Ok_ (qf_X11_tellNumber nn a1 a2 a3 a4 h) (QI_ 1 12) := by
  unfold qf_X11_tellNumber
  refine ok_xl ?_; intro h1 E_h1; have V_h1 : VS_ h1 := by rw [E_h1]; exact wF_127_2 V_h (by omega)
  refine ok_xl ?_; intro h2 E_h2; have V_h2 : VS_ h2 := by rw [E_h2]; exact wF_127_3 V_h1 (by omega)
  refine ok_xl ?_; intro h3 E_h3; have V_h3 : VS_ h3 := by rw [E_h3]; exact wF_127_4 V_h2 (by omega)
  exact ok_rI V_h3 (by omega) (by omega)

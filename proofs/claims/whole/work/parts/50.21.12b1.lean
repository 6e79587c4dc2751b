set_option maxHeartbeats 4000000 in
set_option maxRecDepth 20000 in
theorem o_X8_readTry_ok (X : Nat × (Nat → Int32)) {F L d : Nat} (hF : 265 + (d + 1) ≤ F) (hL : 6087 + (d + 1) * 22 ≤ L) (nn : Nat) {rc : tg_X8_readBlock} (hrc : hg5_X8_readBlock X d rc) (a0 : Nat) (a1 : Int32) (h : mx_H) {r : mx_H} (hf : o_X8_readTry nn rc a0 a1 h = some r) : mx_R X F L 232 [.ref a0, .int a1] h (none, r, 0, 0) := by
  have hm : mx_mt 232 = some (yX8_readTry, cX8_readTry, 2, none) := mt_X8_readTry
  show mx_S X F L 232 0 [(0, .ref a0), (1, .int a1)] [] h 0 0 (none, r, 0, 0)
  unfold o_X8_readTry at hf
  refine mx_S.pu (pc2 := 1) (lv2 := [(0, .ref a0), (1, .int a1)]) (st2 := [.ref a0]) hm dX8_readTry_0 rfl ?_
  replace hf := mx_sv_el hf; obtain ⟨v1, e_v1, hf⟩ := hf
  refine sx_get hm dX8_readTry_1 rs_RX8_7 (xgr_el e_v1) ?_
  clear e_v1
  refine mx_S.pu (pc2 := 5) (lv2 := [(0, .ref a0), (1, .int a1)]) (st2 := [.ref v1, .ref v1]) hm dX8_readTry_4 rfl ?_
  replace hf := mx_sv_el hf; obtain ⟨v2, e_v2, hf⟩ := hf
  refine sx_get hm dX8_readTry_5 rs_RX8_30 (xgi_el e_v2) ?_
  clear e_v2
  refine sx_ic (v := 1) hm dX8_readTry_8 (by decide) ?_
  replace hf := xl_el hf; obtain ⟨v3, e_v3, hf⟩ := hf
  refine mx_S.pu (pc2 := 10) (lv2 := [(0, .ref a0), (1, .int a1)]) (st2 := [.int v3, .ref v1]) hm dX8_readTry_9 (by rw [← e_v3]; rfl) ?_
  clear e_v3
  replace hf := mx_sv_el hf; obtain ⟨h4, e_h4, hf⟩ := hf
  refine sx_put hm dX8_readTry_10 rs_RX8_30 ft_9_10 ⟨rfl, rfl⟩ (fun z => by cases z) e_h4 ?_
  clear e_h4
  refine mx_S.pu (pc2 := 14) (lv2 := [(0, .ref a0), (1, .int a1)]) (st2 := [.ref a0]) hm dX8_readTry_13 rfl ?_
  refine mx_S.pu (pc2 := 15) (lv2 := [(0, .ref a0), (1, .int a1)]) (st2 := [.int a1, .ref a0]) hm dX8_readTry_14 rfl ?_
  replace hf := mx_gd_el hf; obtain ⟨c5, hf⟩ := hf
  replace hf := mx_sv_el hf; obtain ⟨u6, e_u6, hf⟩ := hf
  refine sx_cv hm dX8_readTry_15 rs_RX8_58 mt_X8_readBlock [.int a1] [] (b := a0) (ci := 8) rfl rfl rfl c5 (Nat.le_of_ble_eq_true rfl) (Nat.le_of_ble_eq_true rfl) (by omega) (by omega) (hrc.1 (by omega) (by omega) a0 a1 h4 e_u6) ?_
  clear e_u6
  show mx_S X F L 232 18 [(0, .ref a0), (1, .int a1)] [] u6 0 0 (none, r, 0, 0)
  refine mx_S.pu (pc2 := 19) (lv2 := [(0, .ref a0), (1, .int a1)]) (st2 := [.ref a0]) hm dX8_readTry_18 rfl ?_
  refine sx_bi (v := 12) hm dX8_readTry_19 (by decide) ?_
  replace hf := mx_gd_el hf; obtain ⟨c7, hf⟩ := hf
  replace hf := mx_sv_el hf; obtain ⟨u8, e_u8, hf⟩ := hf
  refine sx_cv hm dX8_readTry_21 rs_RX8_37 mt_X8_need [.int 12] [] (b := a0) (ci := 8) rfl rfl rfl c7 (Nat.le_of_ble_eq_true rfl) (Nat.le_of_ble_eq_true rfl) (by omega) (by omega) (f_X8_need_ok X (by omega) (by omega) nn a0 12 u6 e_u8) ?_
  clear e_u8
  show mx_S X F L 232 24 [(0, .ref a0), (1, .int a1)] [] u8 0 0 (none, r, 0, 0)
  refine mx_S.pu (pc2 := 25) (lv2 := [(0, .ref a0), (1, .int a1)]) (st2 := [.ref a0]) hm dX8_readTry_24 rfl ?_
  refine sx_bi (v := 40) hm dX8_readTry_25 (by decide) ?_
  replace hf := mx_gd_el hf; obtain ⟨c9, hf⟩ := hf
  replace hf := mx_sv_el hf; obtain ⟨u10, e_u10, hf⟩ := hf
  refine sx_cv hm dX8_readTry_27 rs_RX8_37 mt_X8_need [.int 40] [] (b := a0) (ci := 8) rfl rfl rfl c9 (Nat.le_of_ble_eq_true rfl) (Nat.le_of_ble_eq_true rfl) (by omega) (by omega) (f_X8_need_ok X (by omega) (by omega) nn a0 40 u8 e_u10) ?_
  clear e_u10
  show mx_S X F L 232 30 [(0, .ref a0), (1, .int a1)] [] u10 0 0 (none, r, 0, 0)
  refine mx_S.pu (pc2 := 31) (lv2 := [(0, .ref a0), (1, .int a1)]) (st2 := [.ref a0]) hm dX8_readTry_30 rfl ?_
  refine sx_ic (v := 2) hm dX8_readTry_31 (by decide) ?_
  replace hf := mx_gd_el hf; obtain ⟨c11, hf⟩ := hf
  replace hf := mx_sv_el hf; obtain ⟨u12, e_u12, hf⟩ := hf
  refine sx_cv hm dX8_readTry_32 rs_RX8_37 mt_X8_need [.int 2] [] (b := a0) (ci := 8) rfl rfl rfl c11 (Nat.le_of_ble_eq_true rfl) (Nat.le_of_ble_eq_true rfl) (by omega) (by omega) (f_X8_need_ok X (by omega) (by omega) nn a0 2 u10 e_u12) ?_
  clear e_u12
  show mx_S X F L 232 35 [(0, .ref a0), (1, .int a1)] [] u12 0 0 (none, r, 0, 0)
  refine mx_S.pu (pc2 := 36) (lv2 := [(0, .ref a0), (1, .int a1)]) (st2 := [.ref a0]) hm dX8_readTry_35 rfl ?_
  refine sx_ic (v := 2) hm dX8_readTry_36 (by decide) ?_
  replace hf := mx_gd_el hf; obtain ⟨c13, hf⟩ := hf
  replace hf := mx_sv_el hf; obtain ⟨u14, e_u14, hf⟩ := hf
  refine sx_cv hm dX8_readTry_37 rs_RX8_37 mt_X8_need [.int 2] [] (b := a0) (ci := 8) rfl rfl rfl c13 (Nat.le_of_ble_eq_true rfl) (Nat.le_of_ble_eq_true rfl) (by omega) (by omega) (f_X8_need_ok X (by omega) (by omega) nn a0 2 u12 e_u14) ?_
  clear e_u14
  show mx_S X F L 232 40 [(0, .ref a0), (1, .int a1)] [] u14 0 0 (none, r, 0, 0)
  refine mx_S.pu (pc2 := 41) (lv2 := [(0, .ref a0), (1, .int a1)]) (st2 := [.ref a0]) hm dX8_readTry_40 rfl ?_
  refine sx_bi (v := 41) hm dX8_readTry_41 (by decide) ?_
  replace hf := mx_gd_el hf; obtain ⟨c15, hf⟩ := hf
  replace hf := mx_sv_el hf; obtain ⟨u16, e_u16, hf⟩ := hf
  refine sx_cv hm dX8_readTry_43 rs_RX8_37 mt_X8_need [.int 41] [] (b := a0) (ci := 8) rfl rfl rfl c15 (Nat.le_of_ble_eq_true rfl) (Nat.le_of_ble_eq_true rfl) (by omega) (by omega) (f_X8_need_ok X (by omega) (by omega) nn a0 41 u14 e_u16) ?_
  clear e_u16
  show mx_S X F L 232 46 [(0, .ref a0), (1, .int a1)] [] u16 0 0 (none, r, 0, 0)
  refine mx_S.pu (pc2 := 47) (lv2 := [(0, .ref a0), (1, .int a1)]) (st2 := [.ref a0]) hm dX8_readTry_46 rfl ?_
  refine mx_S.pu (pc2 := 48) (lv2 := [(0, .ref a0), (1, .int a1)]) (st2 := [.int a1, .ref a0]) hm dX8_readTry_47 rfl ?_
  replace hf := mx_gd_el hf; obtain ⟨c17, hf⟩ := hf
  replace hf := mx_sv_el hf; obtain ⟨u18, e_u18, hf⟩ := hf
  refine sx_cv hm dX8_readTry_48 rs_RX8_58 mt_X8_readBlock [.int a1] [] (b := a0) (ci := 8) rfl rfl rfl c17 (Nat.le_of_ble_eq_true rfl) (Nat.le_of_ble_eq_true rfl) (by omega) (by omega) (hrc.1 (by omega) (by omega) a0 a1 u16 e_u18) ?_
  clear e_u18
  show mx_S X F L 232 51 [(0, .ref a0), (1, .int a1)] [] u18 0 0 (none, r, 0, 0)
  cases hf
  exact sx_ret hm dX8_readTry_51 rfl
theorem g_X8_readBlock_ok (X : Nat × (Nat → Int32)) (nn : Nat) : ∀ d, hg5_X8_readBlock X d (g_X8_readBlock nn d) := by
  intro d
  induction d with
  | zero => exact ⟨(fun {F L} _ _ a0 a1 h {r} hf => by cases hf), (fun {F L} _ _ a0 a1 h {r} hf => by cases hf), (fun {F L} _ _ a0 a1 h {r} hf => by cases hf)⟩
  | succ d ih => exact ⟨(fun {F L} hF hL a0 a1 h {r} hf => o_X8_readBlock_ok X hF hL nn ih a0 a1 h hf), (fun {F L} hF hL a0 a1 h {r} hf => o_X8_readStatement_ok X hF hL nn ih a0 a1 h hf), (fun {F L} hF hL a0 a1 h {r} hf => o_X8_readTry_ok X hF hL nn ih a0 a1 h hf)⟩
theorem f_X8_readBlock_ok (X : Nat × (Nat → Int32)) {F L : Nat} (hF : 415 ≤ F) (hL : 9387 ≤ L) (nn : Nat) (a0 : Nat) (a1 : Int32) (h : mx_H) {r : mx_H} (hf : f_X8_readBlock nn a0 a1 h = some r) : mx_R X F L 228 [.ref a0, .int a1] h (none, r, 0, 0) := (g_X8_readBlock_ok X nn 150).1 (by omega) (by omega) a0 a1 h hf
theorem f_X8_readStatement_ok (X : Nat × (Nat → Int32)) {F L : Nat} (hF : 415 ≤ F) (hL : 9387 ≤ L) (nn : Nat) (a0 : Nat) (a1 : Int32) (h : mx_H) {r : mx_H} (hf : f_X8_readStatement nn a0 a1 h = some r) : mx_R X F L 229 [.ref a0, .int a1] h (none, r, 0, 0) := (g_X8_readBlock_ok X nn 150).2.1 (by omega) (by omega) a0 a1 h hf
theorem f_X8_readTry_ok (X : Nat × (Nat → Int32)) {F L : Nat} (hF : 415 ≤ F) (hL : 9387 ≤ L) (nn : Nat) (a0 : Nat) (a1 : Int32) (h : mx_H) {r : mx_H} (hf : f_X8_readTry nn a0 a1 h = some r) : mx_R X F L 232 [.ref a0, .int a1] h (none, r, 0, 0) := (g_X8_readBlock_ok X nn 150).2.2 (by omega) (by omega) a0 a1 h hf

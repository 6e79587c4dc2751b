set_option maxHeartbeats 4000000 in
set_option maxRecDepth 20000 in
theorem f_X1_truth_ok (X : Nat × (Nat → Int32)) {F L : Nat} (hF : 3 ≤ F) (hL : 105 ≤ L) (nn : Nat) (a0 : Nat) (a1 : Int32) (a2 : Int32) (h : mx_H) {r : mx_H} (hf : f_X1_truth nn a0 a1 a2 h = some r) : mx_R X F L 39 [.ref a0, .int a1, .int a2] h (none, r, 0, 0) := by
  have hm : mx_mt 39 = some (yX1_truth, cX1_truth, 5, none) := mt_X1_truth
  show mx_S X F L 39 0 [(0, .ref a0), (1, .int a1), (2, .int a2)] [] h 0 0 (none, r, 0, 0)
  unfold f_X1_truth at hf
  refine mx_S.pu (pc2 := 1) (lv2 := [(0, .ref a0), (1, .int a1), (2, .int a2)]) (st2 := [.ref a0]) hm dX1_truth_0 rfl ?_
  refine mx_S.pu (pc2 := 2) (lv2 := [(0, .ref a0), (1, .int a1), (2, .int a2)]) (st2 := [.int a1, .ref a0]) hm dX1_truth_1 rfl ?_
  refine mx_S.pu (pc2 := 3) (lv2 := [(0, .ref a0), (1, .int a1), (2, .int a2)]) (st2 := [.int a2, .int a1, .ref a0]) hm dX1_truth_2 rfl ?_
  replace hf := mx_gd_el hf; obtain ⟨c1, hf⟩ := hf
  replace hf := mx_sv_el hf; obtain ⟨u2, e_u2, hf⟩ := hf
  refine sx_cv hm dX1_truth_3 rs_RX1_90 mt_X1_jump [.int a1, .int a2] [] (b := a0) (ci := 1) rfl rfl rfl c1 (Nat.le_of_ble_eq_true rfl) (Nat.le_of_ble_eq_true rfl) (by omega) (by omega) (f_X1_jump_ok X (by omega) (by omega) nn a0 a1 a2 h e_u2) ?_
  clear e_u2
  show mx_S X F L 39 6 [(0, .ref a0), (1, .int a1), (2, .int a2)] [.int u2.1] u2.2 0 0 (none, r, 0, 0)
  refine mx_S.pu (pc2 := 7) (lv2 := [(3, .int u2.1), (0, .ref a0), (1, .int a1), (2, .int a2)]) (st2 := []) hm dX1_truth_6 rfl ?_
  refine mx_S.pu (pc2 := 8) (lv2 := [(3, .int u2.1), (0, .ref a0), (1, .int a1), (2, .int a2)]) (st2 := [.ref a0]) hm dX1_truth_7 rfl ?_
  refine sx_si (v := 302) hm dX1_truth_8 (by decide) ?_
  replace hf := mx_gd_el hf; obtain ⟨c3, hf⟩ := hf
  replace hf := mx_sv_el hf; obtain ⟨u4, e_u4, hf⟩ := hf
  refine sx_cv hm dX1_truth_11 rs_RX1_104 mt_X1_push [.int 302] [] (b := a0) (ci := 1) rfl rfl rfl c3 (Nat.le_of_ble_eq_true rfl) (Nat.le_of_ble_eq_true rfl) (by omega) (by omega) (f_X1_push_ok X (by omega) (by omega) nn a0 302 u2.2 e_u4) ?_
  clear e_u4
  show mx_S X F L 39 14 [(3, .int u2.1), (0, .ref a0), (1, .int a1), (2, .int a2)] [] u4 0 0 (none, r, 0, 0)
  refine mx_S.pu (pc2 := 15) (lv2 := [(3, .int u2.1), (0, .ref a0), (1, .int a1), (2, .int a2)]) (st2 := [.ref a0]) hm dX1_truth_14 rfl ?_
  refine sx_ic (v := 3) hm dX1_truth_15 (by decide) ?_
  replace hf := mx_gd_el hf; obtain ⟨c5, hf⟩ := hf
  replace hf := mx_sv_el hf; obtain ⟨u6, e_u6, hf⟩ := hf
  refine sx_cv hm dX1_truth_16 rs_RX1_65 mt_X1_op [.int 3] [] (b := a0) (ci := 1) rfl rfl rfl c5 (Nat.le_of_ble_eq_true rfl) (Nat.le_of_ble_eq_true rfl) (by omega) (by omega) (f_X1_op_ok X (by omega) (by omega) nn a0 3 u4 e_u6) ?_
  clear e_u6
  show mx_S X F L 39 19 [(3, .int u2.1), (0, .ref a0), (1, .int a1), (2, .int a2)] [] u6 0 0 (none, r, 0, 0)
  refine mx_S.pu (pc2 := 20) (lv2 := [(3, .int u2.1), (0, .ref a0), (1, .int a1), (2, .int a2)]) (st2 := [.ref a0]) hm dX1_truth_19 rfl ?_
  refine sx_si (v := 167) hm dX1_truth_20 (by decide) ?_
  refine sx_ic (v := 0) hm dX1_truth_23 (by decide) ?_
  replace hf := mx_gd_el hf; obtain ⟨c7, hf⟩ := hf
  replace hf := mx_sv_el hf; obtain ⟨u8, e_u8, hf⟩ := hf
  refine sx_cv hm dX1_truth_24 rs_RX1_90 mt_X1_jump [.int 167, .int 0] [] (b := a0) (ci := 1) rfl rfl rfl c7 (Nat.le_of_ble_eq_true rfl) (Nat.le_of_ble_eq_true rfl) (by omega) (by omega) (f_X1_jump_ok X (by omega) (by omega) nn a0 167 0 u6 e_u8) ?_
  clear e_u8
  show mx_S X F L 39 27 [(3, .int u2.1), (0, .ref a0), (1, .int a1), (2, .int a2)] [.int u8.1] u8.2 0 0 (none, r, 0, 0)
  refine mx_S.pu (pc2 := 29) (lv2 := [(4, .int u8.1), (3, .int u2.1), (0, .ref a0), (1, .int a1), (2, .int a2)]) (st2 := []) hm dX1_truth_27 rfl ?_
  refine mx_S.pu (pc2 := 30) (lv2 := [(4, .int u8.1), (3, .int u2.1), (0, .ref a0), (1, .int a1), (2, .int a2)]) (st2 := [.ref a0]) hm dX1_truth_29 rfl ?_
  refine sx_ic (v := 1) hm dX1_truth_30 (by decide) ?_
  replace hf := mx_gd_el hf; obtain ⟨c9, hf⟩ := hf
  replace hf := mx_sv_el hf; obtain ⟨u10, e_u10, hf⟩ := hf
  refine sx_cv hm dX1_truth_31 rs_RX1_87 mt_X1_pop [.int 1] [] (b := a0) (ci := 1) rfl rfl rfl c9 (Nat.le_of_ble_eq_true rfl) (Nat.le_of_ble_eq_true rfl) (by omega) (by omega) (f_X1_pop_ok X (by omega) (by omega) nn a0 1 u8.2 e_u10) ?_
  clear e_u10
  show mx_S X F L 39 34 [(4, .int u8.1), (3, .int u2.1), (0, .ref a0), (1, .int a1), (2, .int a2)] [] u10 0 0 (none, r, 0, 0)
  refine mx_S.pu (pc2 := 35) (lv2 := [(4, .int u8.1), (3, .int u2.1), (0, .ref a0), (1, .int a1), (2, .int a2)]) (st2 := [.ref a0]) hm dX1_truth_34 rfl ?_
  refine mx_S.pu (pc2 := 36) (lv2 := [(4, .int u8.1), (3, .int u2.1), (0, .ref a0), (1, .int a1), (2, .int a2)]) (st2 := [.int u2.1, .ref a0]) hm dX1_truth_35 rfl ?_
  replace hf := mx_gd_el hf; obtain ⟨c11, hf⟩ := hf
  replace hf := mx_sv_el hf; obtain ⟨u12, e_u12, hf⟩ := hf
  refine sx_cv hm dX1_truth_36 rs_RX1_107 mt_X1_aimHere [.int u2.1] [] (b := a0) (ci := 1) rfl rfl rfl c11 (Nat.le_of_ble_eq_true rfl) (Nat.le_of_ble_eq_true rfl) (by omega) (by omega) (f_X1_aimHere_ok X (by omega) (by omega) nn a0 u2.1 u10 e_u12) ?_
  clear e_u12
  show mx_S X F L 39 39 [(4, .int u8.1), (3, .int u2.1), (0, .ref a0), (1, .int a1), (2, .int a2)] [] u12 0 0 (none, r, 0, 0)
  refine mx_S.pu (pc2 := 40) (lv2 := [(4, .int u8.1), (3, .int u2.1), (0, .ref a0), (1, .int a1), (2, .int a2)]) (st2 := [.ref a0]) hm dX1_truth_39 rfl ?_
  refine sx_si (v := 302) hm dX1_truth_40 (by decide) ?_
  replace hf := mx_gd_el hf; obtain ⟨c13, hf⟩ := hf
  replace hf := mx_sv_el hf; obtain ⟨u14, e_u14, hf⟩ := hf
  refine sx_cv hm dX1_truth_43 rs_RX1_104 mt_X1_push [.int 302] [] (b := a0) (ci := 1) rfl rfl rfl c13 (Nat.le_of_ble_eq_true rfl) (Nat.le_of_ble_eq_true rfl) (by omega) (by omega) (f_X1_push_ok X (by omega) (by omega) nn a0 302 u12 e_u14) ?_
  clear e_u14
  show mx_S X F L 39 46 [(4, .int u8.1), (3, .int u2.1), (0, .ref a0), (1, .int a1), (2, .int a2)] [] u14 0 0 (none, r, 0, 0)
  refine mx_S.pu (pc2 := 47) (lv2 := [(4, .int u8.1), (3, .int u2.1), (0, .ref a0), (1, .int a1), (2, .int a2)]) (st2 := [.ref a0]) hm dX1_truth_46 rfl ?_
  refine sx_ic (v := 4) hm dX1_truth_47 (by decide) ?_
  replace hf := mx_gd_el hf; obtain ⟨c15, hf⟩ := hf
  replace hf := mx_sv_el hf; obtain ⟨u16, e_u16, hf⟩ := hf
  refine sx_cv hm dX1_truth_48 rs_RX1_65 mt_X1_op [.int 4] [] (b := a0) (ci := 1) rfl rfl rfl c15 (Nat.le_of_ble_eq_true rfl) (Nat.le_of_ble_eq_true rfl) (by omega) (by omega) (f_X1_op_ok X (by omega) (by omega) nn a0 4 u14 e_u16) ?_
  clear e_u16
  show mx_S X F L 39 51 [(4, .int u8.1), (3, .int u2.1), (0, .ref a0), (1, .int a1), (2, .int a2)] [] u16 0 0 (none, r, 0, 0)
  refine mx_S.pu (pc2 := 52) (lv2 := [(4, .int u8.1), (3, .int u2.1), (0, .ref a0), (1, .int a1), (2, .int a2)]) (st2 := [.ref a0]) hm dX1_truth_51 rfl ?_
  refine mx_S.pu (pc2 := 54) (lv2 := [(4, .int u8.1), (3, .int u2.1), (0, .ref a0), (1, .int a1), (2, .int a2)]) (st2 := [.int u8.1, .ref a0]) hm dX1_truth_52 rfl ?_
  replace hf := mx_gd_el hf; obtain ⟨c17, hf⟩ := hf
  replace hf := mx_sv_el hf; obtain ⟨u18, e_u18, hf⟩ := hf
  refine sx_cv hm dX1_truth_54 rs_RX1_107 mt_X1_aimHere [.int u8.1] [] (b := a0) (ci := 1) rfl rfl rfl c17 (Nat.le_of_ble_eq_true rfl) (Nat.le_of_ble_eq_true rfl) (by omega) (by omega) (f_X1_aimHere_ok X (by omega) (by omega) nn a0 u8.1 u16 e_u18) ?_
  clear e_u18
  show mx_S X F L 39 57 [(4, .int u8.1), (3, .int u2.1), (0, .ref a0), (1, .int a1), (2, .int a2)] [] u18 0 0 (none, r, 0, 0)
  cases hf
  exact sx_ret hm dX1_truth_57 rfl
set_option maxHeartbeats 4000000 in
set_option maxRecDepth 20000 in
theorem j_X9_level_249_ok (X : Nat × (Nat → Int32)) {F L : Nat} (hF : 0 ≤ F) (hL : 0 ≤ L) (nn : Nat) (h : mx_H) {r : (Int32 × mx_H)} (hf : j_X9_level_249 nn h = some r) : mx_S X F L 267 249 [] [] h 0 0 (some (.int r.1), r.2, 0, 0) := by
  have hm : mx_mt 267 = some (yX9_level, cX9_level, 1, (some .int)) := mt_X9_level
  unfold j_X9_level_249 at hf
  refine sx_ic (v := 0) hm dX9_level_249 (by decide) ?_
  cases hf
  exact sx_ire hm dX9_level_250 rfl rfl
set_option maxHeartbeats 4000000 in
set_option maxRecDepth 20000 in
theorem j_X9_level_246_ok (X : Nat × (Nat → Int32)) {F L : Nat} (hF : 0 ≤ F) (hL : 0 ≤ L) (nn : Nat) (h : mx_H) {r : (Int32 × mx_H)} (hf : j_X9_level_246 nn h = some r) : mx_S X F L 267 246 [] [] h 0 0 (some (.int r.1), r.2, 0, 0) := by
  have hm : mx_mt 267 = some (yX9_level, cX9_level, 1, (some .int)) := mt_X9_level
  unfold j_X9_level_246 at hf
  refine sx_bi (v := 10) hm dX9_level_246 (by decide) ?_
  cases hf
  exact sx_ire hm dX9_level_248 rfl rfl
set_option maxHeartbeats 4000000 in
set_option maxRecDepth 20000 in
theorem j_X9_level_243_ok (X : Nat × (Nat → Int32)) {F L : Nat} (hF : 0 ≤ F) (hL : 0 ≤ L) (nn : Nat) (h : mx_H) {r : (Int32 × mx_H)} (hf : j_X9_level_243 nn h = some r) : mx_S X F L 267 243 [] [] h 0 0 (some (.int r.1), r.2, 0, 0) := by
  have hm : mx_mt 267 = some (yX9_level, cX9_level, 1, (some .int)) := mt_X9_level
  unfold j_X9_level_243 at hf
  refine sx_bi (v := 9) hm dX9_level_243 (by decide) ?_
  cases hf
  exact sx_ire hm dX9_level_245 rfl rfl
set_option maxHeartbeats 4000000 in
set_option maxRecDepth 20000 in
theorem j_X9_level_240_ok (X : Nat × (Nat → Int32)) {F L : Nat} (hF : 0 ≤ F) (hL : 0 ≤ L) (nn : Nat) (h : mx_H) {r : (Int32 × mx_H)} (hf : j_X9_level_240 nn h = some r) : mx_S X F L 267 240 [] [] h 0 0 (some (.int r.1), r.2, 0, 0) := by
  have hm : mx_mt 267 = some (yX9_level, cX9_level, 1, (some .int)) := mt_X9_level
  unfold j_X9_level_240 at hf
  refine sx_bi (v := 8) hm dX9_level_240 (by decide) ?_
  cases hf
  exact sx_ire hm dX9_level_242 rfl rfl
set_option maxHeartbeats 4000000 in
set_option maxRecDepth 20000 in
theorem j_X9_level_237_ok (X : Nat × (Nat → Int32)) {F L : Nat} (hF : 0 ≤ F) (hL : 0 ≤ L) (nn : Nat) (h : mx_H) {r : (Int32 × mx_H)} (hf : j_X9_level_237 nn h = some r) : mx_S X F L 267 237 [] [] h 0 0 (some (.int r.1), r.2, 0, 0) := by
  have hm : mx_mt 267 = some (yX9_level, cX9_level, 1, (some .int)) := mt_X9_level
  unfold j_X9_level_237 at hf
  refine sx_bi (v := 7) hm dX9_level_237 (by decide) ?_
  cases hf
  exact sx_ire hm dX9_level_239 rfl rfl
set_option maxHeartbeats 4000000 in
set_option maxRecDepth 20000 in
theorem j_X9_level_234_ok (X : Nat × (Nat → Int32)) {F L : Nat} (hF : 0 ≤ F) (hL : 0 ≤ L) (nn : Nat) (h : mx_H) {r : (Int32 × mx_H)} (hf : j_X9_level_234 nn h = some r) : mx_S X F L 267 234 [] [] h 0 0 (some (.int r.1), r.2, 0, 0) := by
  have hm : mx_mt 267 = some (yX9_level, cX9_level, 1, (some .int)) := mt_X9_level
  unfold j_X9_level_234 at hf
  refine sx_bi (v := 6) hm dX9_level_234 (by decide) ?_
  cases hf
  exact sx_ire hm dX9_level_236 rfl rfl
set_option maxHeartbeats 4000000 in
set_option maxRecDepth 20000 in
theorem f_X9_level_ok (X : Nat × (Nat → Int32)) {F L : Nat} (hF : 0 ≤ F) (hL : 0 ≤ L) (nn : Nat) (a0 : Int32) (h : mx_H) {r : (Int32 × mx_H)} (hf : f_X9_level nn a0 h = some r) : mx_R X F L 267 [.int a0] h (some (.int r.1), r.2, 0, 0) := by
  have hm : mx_mt 267 = some (yX9_level, cX9_level, 1, (some .int)) := mt_X9_level
  show mx_S X F L 267 0 [(0, .int a0)] [] h 0 0 (some (.int r.1), r.2, 0, 0)
  unfold f_X9_level at hf
  refine mx_S.pu (pc2 := 1) (lv2 := [(0, .int a0)]) (st2 := [.int a0]) hm dX9_level_0 rfl ?_
  rcases mx_if_el hf with ⟨n_0, hf⟩ | ⟨n_0, hf⟩
  · refine sx_tin hm dX9_level_1 (by rw [n_0]; decide) (by rw [n_0]; decide) (off := 236) (by rw [n_0]; rfl) (tgt := 237) rfl ?_
    clear n_0
    refine mx_S.ext [] (mx_sub_pos [] rfl (show ([0] : List Nat).Nodup by decide)) ?_
    exact j_X9_level_237_ok X hF hL nn h hf
  · rcases mx_if_el hf with ⟨n_1, hf⟩ | ⟨n_1, hf⟩
    · refine sx_tin hm dX9_level_1 (by rw [n_1]; decide) (by rw [n_1]; decide) (off := 233) (by rw [n_1]; rfl) (tgt := 234) rfl ?_
      clear n_0 n_1
      refine mx_S.ext [] (mx_sub_pos [] rfl (show ([0] : List Nat).Nodup by decide)) ?_
      exact j_X9_level_234_ok X hF hL nn h hf
    · rcases mx_if_el hf with ⟨n_2, hf⟩ | ⟨n_2, hf⟩
      · refine sx_tin hm dX9_level_1 (by rw [n_2]; decide) (by rw [n_2]; decide) (off := 233) (by rw [n_2]; rfl) (tgt := 234) rfl ?_
        clear n_0 n_1 n_2
        refine mx_S.ext [] (mx_sub_pos [] rfl (show ([0] : List Nat).Nodup by decide)) ?_
        exact j_X9_level_234_ok X hF hL nn h hf
      · rcases mx_if_el hf with ⟨n_3, hf⟩ | ⟨n_3, hf⟩
        · refine sx_tin hm dX9_level_1 (by rw [n_3]; decide) (by rw [n_3]; decide) (off := 236) (by rw [n_3]; rfl) (tgt := 237) rfl ?_
          clear n_0 n_1 n_2 n_3
          refine mx_S.ext [] (mx_sub_pos [] rfl (show ([0] : List Nat).Nodup by decide)) ?_
          exact j_X9_level_237_ok X hF hL nn h hf
        · rcases mx_if_el hf with ⟨n_4, hf⟩ | ⟨n_4, hf⟩
          · refine sx_tin hm dX9_level_1 (by rw [n_4]; decide) (by rw [n_4]; decide) (off := 236) (by rw [n_4]; rfl) (tgt := 237) rfl ?_
            clear n_0 n_1 n_2 n_3 n_4
            refine mx_S.ext [] (mx_sub_pos [] rfl (show ([0] : List Nat).Nodup by decide)) ?_
            exact j_X9_level_237_ok X hF hL nn h hf
          · rcases mx_if_el hf with ⟨n_5, hf⟩ | ⟨n_5, hf⟩
            · refine sx_tin hm dX9_level_1 (by rw [n_5]; decide) (by rw [n_5]; decide) (off := 236) (by rw [n_5]; rfl) (tgt := 237) rfl ?_
              clear n_0 n_1 n_2 n_3 n_4 n_5
              refine mx_S.ext [] (mx_sub_pos [] rfl (show ([0] : List Nat).Nodup by decide)) ?_
              exact j_X9_level_237_ok X hF hL nn h hf
            · rcases mx_if_el hf with ⟨n_6, hf⟩ | ⟨n_6, hf⟩
              · refine sx_tin hm dX9_level_1 (by rw [n_6]; decide) (by rw [n_6]; decide) (off := 236) (by rw [n_6]; rfl) (tgt := 237) rfl ?_
                clear n_0 n_1 n_2 n_3 n_4 n_5 n_6
                refine mx_S.ext [] (mx_sub_pos [] rfl (show ([0] : List Nat).Nodup by decide)) ?_
                exact j_X9_level_237_ok X hF hL nn h hf
              · rcases mx_if_el hf with ⟨n_7, hf⟩ | ⟨n_7, hf⟩
                · refine sx_tin hm dX9_level_1 (by rw [n_7]; decide) (by rw [n_7]; decide) (off := 239) (by rw [n_7]; rfl) (tgt := 240) rfl ?_
                  clear n_0 n_1 n_2 n_3 n_4 n_5 n_6 n_7
                  refine mx_S.ext [] (mx_sub_pos [] rfl (show ([0] : List Nat).Nodup by decide)) ?_
                  exact j_X9_level_240_ok X hF hL nn h hf
                · rcases mx_if_el hf with ⟨n_8, hf⟩ | ⟨n_8, hf⟩
                  · refine sx_tin hm dX9_level_1 (by rw [n_8]; decide) (by rw [n_8]; decide) (off := 239) (by rw [n_8]; rfl) (tgt := 240) rfl ?_
                    clear n_0 n_1 n_2 n_3 n_4 n_5 n_6 n_7 n_8
                    refine mx_S.ext [] (mx_sub_pos [] rfl (show ([0] : List Nat).Nodup by decide)) ?_
                    exact j_X9_level_240_ok X hF hL nn h hf
                  · rcases mx_if_el hf with ⟨n_9, hf⟩ | ⟨n_9, hf⟩
                    · refine sx_tin hm dX9_level_1 (by rw [n_9]; decide) (by rw [n_9]; decide) (off := 239) (by rw [n_9]; rfl) (tgt := 240) rfl ?_
                      clear n_0 n_1 n_2 n_3 n_4 n_5 n_6 n_7 n_8 n_9
                      refine mx_S.ext [] (mx_sub_pos [] rfl (show ([0] : List Nat).Nodup by decide)) ?_
                      exact j_X9_level_240_ok X hF hL nn h hf
                    · rcases mx_if_el hf with ⟨n_10, hf⟩ | ⟨n_10, hf⟩
                      · refine sx_tin hm dX9_level_1 (by rw [n_10]; decide) (by rw [n_10]; decide) (off := 242) (by rw [n_10]; rfl) (tgt := 243) rfl ?_
                        clear n_0 n_1 n_2 n_3 n_4 n_5 n_6 n_7 n_8 n_9 n_10
                        refine mx_S.ext [] (mx_sub_pos [] rfl (show ([0] : List Nat).Nodup by decide)) ?_
                        exact j_X9_level_243_ok X hF hL nn h hf
                      · rcases mx_if_el hf with ⟨n_11, hf⟩ | ⟨n_11, hf⟩
                        · refine sx_tin hm dX9_level_1 (by rw [n_11]; decide) (by rw [n_11]; decide) (off := 242) (by rw [n_11]; rfl) (tgt := 243) rfl ?_
                          clear n_0 n_1 n_2 n_3 n_4 n_5 n_6 n_7 n_8 n_9 n_10 n_11
                          refine mx_S.ext [] (mx_sub_pos [] rfl (show ([0] : List Nat).Nodup by decide)) ?_
                          exact j_X9_level_243_ok X hF hL nn h hf
                        · rcases mx_if_el hf with ⟨n_12, hf⟩ | ⟨n_12, hf⟩
                          · refine sx_tin hm dX9_level_1 (by rw [n_12]; decide) (by rw [n_12]; decide) (off := 245) (by rw [n_12]; rfl) (tgt := 246) rfl ?_
                            clear n_0 n_1 n_2 n_3 n_4 n_5 n_6 n_7 n_8 n_9 n_10 n_11 n_12
                            refine mx_S.ext [] (mx_sub_pos [] rfl (show ([0] : List Nat).Nodup by decide)) ?_
                            exact j_X9_level_246_ok X hF hL nn h hf
                          · rcases mx_if_el hf with ⟨n_13, hf⟩ | ⟨n_13, hf⟩
                            · refine sx_tin hm dX9_level_1 (by rw [n_13]; decide) (by rw [n_13]; decide) (off := 245) (by rw [n_13]; rfl) (tgt := 246) rfl ?_
                              clear n_0 n_1 n_2 n_3 n_4 n_5 n_6 n_7 n_8 n_9 n_10 n_11 n_12 n_13
                              refine mx_S.ext [] (mx_sub_pos [] rfl (show ([0] : List Nat).Nodup by decide)) ?_
                              exact j_X9_level_246_ok X hF hL nn h hf
                            · rcases mx_if_el hf with ⟨n_14, hf⟩ | ⟨n_14, hf⟩
                              · refine sx_tin hm dX9_level_1 (by rw [n_14]; decide) (by rw [n_14]; decide) (off := 245) (by rw [n_14]; rfl) (tgt := 246) rfl ?_
                                clear n_0 n_1 n_2 n_3 n_4 n_5 n_6 n_7 n_8 n_9 n_10 n_11 n_12 n_13 n_14
                                refine mx_S.ext [] (mx_sub_pos [] rfl (show ([0] : List Nat).Nodup by decide)) ?_
                                exact j_X9_level_246_ok X hF hL nn h hf
                              · rcases mx_if_el hf with ⟨n_15, hf⟩ | ⟨n_15, hf⟩
                                · refine sx_tin hm dX9_level_1 (by rw [n_15]; decide) (by rw [n_15]; decide) (off := 231) (by rw [n_15]; rfl) (tgt := 232) rfl ?_
                                  clear n_0 n_1 n_2 n_3 n_4 n_5 n_6 n_7 n_8 n_9 n_10 n_11 n_12 n_13 n_14 n_15
                                  refine sx_ic (v := 5) hm dX9_level_232 (by decide) ?_
                                  cases hf
                                  exact sx_ire hm dX9_level_233 rfl rfl
                                · rcases mx_if_el hf with ⟨n_16, hf⟩ | ⟨n_16, hf⟩
                                  · refine sx_tin hm dX9_level_1 (by rw [n_16]; decide) (by rw [n_16]; decide) (off := 225) (by rw [n_16]; rfl) (tgt := 226) rfl ?_
                                    clear n_0 n_1 n_2 n_3 n_4 n_5 n_6 n_7 n_8 n_9 n_10 n_11 n_12 n_13 n_14 n_15 n_16
                                    refine sx_ic (v := 2) hm dX9_level_226 (by decide) ?_
                                    cases hf
                                    exact sx_ire hm dX9_level_227 rfl rfl
                                  · rcases mx_if_el hf with ⟨n_17, hf⟩ | ⟨n_17, hf⟩
                                    · refine sx_tin hm dX9_level_1 (by rw [n_17]; decide) (by rw [n_17]; decide) (off := 227) (by rw [n_17]; rfl) (tgt := 228) rfl ?_
                                      clear n_0 n_1 n_2 n_3 n_4 n_5 n_6 n_7 n_8 n_9 n_10 n_11 n_12 n_13 n_14 n_15 n_16 n_17
                                      refine sx_ic (v := 3) hm dX9_level_228 (by decide) ?_
                                      cases hf
                                      exact sx_ire hm dX9_level_229 rfl rfl
                                    · rcases mx_if_el hf with ⟨n_18, hf⟩ | ⟨n_18, hf⟩
                                      · refine sx_tin hm dX9_level_1 (by rw [n_18]; decide) (by rw [n_18]; decide) (off := 223) (by rw [n_18]; rfl) (tgt := 224) rfl ?_
                                        clear n_0 n_1 n_2 n_3 n_4 n_5 n_6 n_7 n_8 n_9 n_10 n_11 n_12 n_13 n_14 n_15 n_16 n_17 n_18
                                        refine sx_ic (v := 1) hm dX9_level_224 (by decide) ?_
                                        cases hf
                                        exact sx_ire hm dX9_level_225 rfl rfl
                                      · rcases mx_if_el hf with ⟨n_19, hf⟩ | ⟨n_19, hf⟩
                                        · refine sx_tin hm dX9_level_1 (by rw [n_19]; decide) (by rw [n_19]; decide) (off := 229) (by rw [n_19]; rfl) (tgt := 230) rfl ?_
                                          clear n_0 n_1 n_2 n_3 n_4 n_5 n_6 n_7 n_8 n_9 n_10 n_11 n_12 n_13 n_14 n_15 n_16 n_17 n_18 n_19
                                          refine sx_ic (v := 4) hm dX9_level_230 (by decide) ?_
                                          cases hf
                                          exact sx_ire hm dX9_level_231 rfl rfl
                                        · rcases (show (a0.toInt < 19 ∨ 70 < a0.toInt) ∨ a0.toInt = 19 ∨ a0.toInt = 20 ∨ a0.toInt = 21 ∨ a0.toInt = 22 ∨ a0.toInt = 23 ∨ a0.toInt = 24 ∨ a0.toInt = 25 ∨ a0.toInt = 26 ∨ a0.toInt = 27 ∨ a0.toInt = 28 ∨ a0.toInt = 29 ∨ a0.toInt = 30 ∨ a0.toInt = 31 ∨ a0.toInt = 32 ∨ a0.toInt = 33 ∨ a0.toInt = 34 ∨ a0.toInt = 35 ∨ a0.toInt = 36 ∨ a0.toInt = 37 ∨ a0.toInt = 38 ∨ a0.toInt = 39 ∨ a0.toInt = 40 ∨ a0.toInt = 41 ∨ a0.toInt = 42 ∨ a0.toInt = 43 ∨ a0.toInt = 44 ∨ a0.toInt = 45 ∨ a0.toInt = 46 ∨ a0.toInt = 47 ∨ a0.toInt = 48 ∨ a0.toInt = 49 ∨ a0.toInt = 50 ∨ a0.toInt = 51 ∨ a0.toInt = 52 ∨ a0.toInt = 53 ∨ a0.toInt = 54 ∨ a0.toInt = 55 ∨ a0.toInt = 56 ∨ a0.toInt = 57 ∨ a0.toInt = 58 ∨ a0.toInt = 59 ∨ a0.toInt = 60 ∨ a0.toInt = 61 ∨ a0.toInt = 62 ∨ a0.toInt = 63 ∨ a0.toInt = 64 ∨ a0.toInt = 65 ∨ a0.toInt = 66 ∨ a0.toInt = 67 ∨ a0.toInt = 68 ∨ a0.toInt = 69 ∨ a0.toInt = 70 by omega) with z0 | z0 | z0 | z0 | z0 | z0 | z0 | z0 | z0 | z0 | z0 | z0 | z0 | z0 | z0 | z0 | z0 | z0 | z0 | z0 | z0 | z0 | z0 | z0 | z0 | z0 | z0 | z0 | z0 | z0 | z0 | z0 | z0 | z0 | z0 | z0 | z0 | z0 | z0 | z0 | z0 | z0 | z0 | z0 | z0 | z0 | z0 | z0 | z0 | z0 | z0 | z0 | z0
                                          · refine sx_tout hm dX9_level_1 z0 (tgt := 249) rfl ?_
                                            refine mx_S.ext [] (mx_sub_pos [] rfl (show ([0] : List Nat).Nodup by decide)) ?_
                                            exact j_X9_level_249_ok X hF hL nn h hf
                                          · exact absurd (Int32.toInt_inj.mp (z0.trans (by decide : (19 : Int) = (19 : Int32).toInt))) n_0
                                          · refine sx_tin hm dX9_level_1 (by omega) (by omega) (off := 248) (by rw [z0]; rfl) (tgt := 249) rfl ?_
                                            refine mx_S.ext [] (mx_sub_pos [] rfl (show ([0] : List Nat).Nodup by decide)) ?_
                                            exact j_X9_level_249_ok X hF hL nn h hf
                                          · refine sx_tin hm dX9_level_1 (by omega) (by omega) (off := 248) (by rw [z0]; rfl) (tgt := 249) rfl ?_
                                            refine mx_S.ext [] (mx_sub_pos [] rfl (show ([0] : List Nat).Nodup by decide)) ?_
                                            exact j_X9_level_249_ok X hF hL nn h hf
                                          · refine sx_tin hm dX9_level_1 (by omega) (by omega) (off := 248) (by rw [z0]; rfl) (tgt := 249) rfl ?_
                                            refine mx_S.ext [] (mx_sub_pos [] rfl (show ([0] : List Nat).Nodup by decide)) ?_
                                            exact j_X9_level_249_ok X hF hL nn h hf
                                          · refine sx_tin hm dX9_level_1 (by omega) (by omega) (off := 248) (by rw [z0]; rfl) (tgt := 249) rfl ?_
                                            refine mx_S.ext [] (mx_sub_pos [] rfl (show ([0] : List Nat).Nodup by decide)) ?_
                                            exact j_X9_level_249_ok X hF hL nn h hf
                                          · refine sx_tin hm dX9_level_1 (by omega) (by omega) (off := 248) (by rw [z0]; rfl) (tgt := 249) rfl ?_
                                            refine mx_S.ext [] (mx_sub_pos [] rfl (show ([0] : List Nat).Nodup by decide)) ?_
                                            exact j_X9_level_249_ok X hF hL nn h hf
                                          · refine sx_tin hm dX9_level_1 (by omega) (by omega) (off := 248) (by rw [z0]; rfl) (tgt := 249) rfl ?_
                                            refine mx_S.ext [] (mx_sub_pos [] rfl (show ([0] : List Nat).Nodup by decide)) ?_
                                            exact j_X9_level_249_ok X hF hL nn h hf
                                          · refine sx_tin hm dX9_level_1 (by omega) (by omega) (off := 248) (by rw [z0]; rfl) (tgt := 249) rfl ?_
                                            refine mx_S.ext [] (mx_sub_pos [] rfl (show ([0] : List Nat).Nodup by decide)) ?_
                                            exact j_X9_level_249_ok X hF hL nn h hf
                                          · refine sx_tin hm dX9_level_1 (by omega) (by omega) (off := 248) (by rw [z0]; rfl) (tgt := 249) rfl ?_
                                            refine mx_S.ext [] (mx_sub_pos [] rfl (show ([0] : List Nat).Nodup by decide)) ?_
                                            exact j_X9_level_249_ok X hF hL nn h hf
                                          · refine sx_tin hm dX9_level_1 (by omega) (by omega) (off := 248) (by rw [z0]; rfl) (tgt := 249) rfl ?_
                                            refine mx_S.ext [] (mx_sub_pos [] rfl (show ([0] : List Nat).Nodup by decide)) ?_
                                            exact j_X9_level_249_ok X hF hL nn h hf
                                          · refine sx_tin hm dX9_level_1 (by omega) (by omega) (off := 248) (by rw [z0]; rfl) (tgt := 249) rfl ?_
                                            refine mx_S.ext [] (mx_sub_pos [] rfl (show ([0] : List Nat).Nodup by decide)) ?_
                                            exact j_X9_level_249_ok X hF hL nn h hf
                                          · refine sx_tin hm dX9_level_1 (by omega) (by omega) (off := 248) (by rw [z0]; rfl) (tgt := 249) rfl ?_
                                            refine mx_S.ext [] (mx_sub_pos [] rfl (show ([0] : List Nat).Nodup by decide)) ?_
                                            exact j_X9_level_249_ok X hF hL nn h hf
                                          · refine sx_tin hm dX9_level_1 (by omega) (by omega) (off := 248) (by rw [z0]; rfl) (tgt := 249) rfl ?_
                                            refine mx_S.ext [] (mx_sub_pos [] rfl (show ([0] : List Nat).Nodup by decide)) ?_
                                            exact j_X9_level_249_ok X hF hL nn h hf
                                          · refine sx_tin hm dX9_level_1 (by omega) (by omega) (off := 248) (by rw [z0]; rfl) (tgt := 249) rfl ?_
                                            refine mx_S.ext [] (mx_sub_pos [] rfl (show ([0] : List Nat).Nodup by decide)) ?_
                                            exact j_X9_level_249_ok X hF hL nn h hf
                                          · refine sx_tin hm dX9_level_1 (by omega) (by omega) (off := 248) (by rw [z0]; rfl) (tgt := 249) rfl ?_
                                            refine mx_S.ext [] (mx_sub_pos [] rfl (show ([0] : List Nat).Nodup by decide)) ?_
                                            exact j_X9_level_249_ok X hF hL nn h hf
                                          · refine sx_tin hm dX9_level_1 (by omega) (by omega) (off := 248) (by rw [z0]; rfl) (tgt := 249) rfl ?_
                                            refine mx_S.ext [] (mx_sub_pos [] rfl (show ([0] : List Nat).Nodup by decide)) ?_
                                            exact j_X9_level_249_ok X hF hL nn h hf
                                          · refine sx_tin hm dX9_level_1 (by omega) (by omega) (off := 248) (by rw [z0]; rfl) (tgt := 249) rfl ?_
                                            refine mx_S.ext [] (mx_sub_pos [] rfl (show ([0] : List Nat).Nodup by decide)) ?_
                                            exact j_X9_level_249_ok X hF hL nn h hf
                                          · refine sx_tin hm dX9_level_1 (by omega) (by omega) (off := 248) (by rw [z0]; rfl) (tgt := 249) rfl ?_
                                            refine mx_S.ext [] (mx_sub_pos [] rfl (show ([0] : List Nat).Nodup by decide)) ?_
                                            exact j_X9_level_249_ok X hF hL nn h hf
                                          · refine sx_tin hm dX9_level_1 (by omega) (by omega) (off := 248) (by rw [z0]; rfl) (tgt := 249) rfl ?_
                                            refine mx_S.ext [] (mx_sub_pos [] rfl (show ([0] : List Nat).Nodup by decide)) ?_
                                            exact j_X9_level_249_ok X hF hL nn h hf
                                          · refine sx_tin hm dX9_level_1 (by omega) (by omega) (off := 248) (by rw [z0]; rfl) (tgt := 249) rfl ?_
                                            refine mx_S.ext [] (mx_sub_pos [] rfl (show ([0] : List Nat).Nodup by decide)) ?_
                                            exact j_X9_level_249_ok X hF hL nn h hf
                                          · refine sx_tin hm dX9_level_1 (by omega) (by omega) (off := 248) (by rw [z0]; rfl) (tgt := 249) rfl ?_
                                            refine mx_S.ext [] (mx_sub_pos [] rfl (show ([0] : List Nat).Nodup by decide)) ?_
                                            exact j_X9_level_249_ok X hF hL nn h hf
                                          · refine sx_tin hm dX9_level_1 (by omega) (by omega) (off := 248) (by rw [z0]; rfl) (tgt := 249) rfl ?_
                                            refine mx_S.ext [] (mx_sub_pos [] rfl (show ([0] : List Nat).Nodup by decide)) ?_
                                            exact j_X9_level_249_ok X hF hL nn h hf
                                          · refine sx_tin hm dX9_level_1 (by omega) (by omega) (off := 248) (by rw [z0]; rfl) (tgt := 249) rfl ?_
                                            refine mx_S.ext [] (mx_sub_pos [] rfl (show ([0] : List Nat).Nodup by decide)) ?_
                                            exact j_X9_level_249_ok X hF hL nn h hf
                                          · refine sx_tin hm dX9_level_1 (by omega) (by omega) (off := 248) (by rw [z0]; rfl) (tgt := 249) rfl ?_
                                            refine mx_S.ext [] (mx_sub_pos [] rfl (show ([0] : List Nat).Nodup by decide)) ?_
                                            exact j_X9_level_249_ok X hF hL nn h hf
                                          · refine sx_tin hm dX9_level_1 (by omega) (by omega) (off := 248) (by rw [z0]; rfl) (tgt := 249) rfl ?_
                                            refine mx_S.ext [] (mx_sub_pos [] rfl (show ([0] : List Nat).Nodup by decide)) ?_
                                            exact j_X9_level_249_ok X hF hL nn h hf
                                          · refine sx_tin hm dX9_level_1 (by omega) (by omega) (off := 248) (by rw [z0]; rfl) (tgt := 249) rfl ?_
                                            refine mx_S.ext [] (mx_sub_pos [] rfl (show ([0] : List Nat).Nodup by decide)) ?_
                                            exact j_X9_level_249_ok X hF hL nn h hf
                                          · refine sx_tin hm dX9_level_1 (by omega) (by omega) (off := 248) (by rw [z0]; rfl) (tgt := 249) rfl ?_
                                            refine mx_S.ext [] (mx_sub_pos [] rfl (show ([0] : List Nat).Nodup by decide)) ?_
                                            exact j_X9_level_249_ok X hF hL nn h hf
                                          · refine sx_tin hm dX9_level_1 (by omega) (by omega) (off := 248) (by rw [z0]; rfl) (tgt := 249) rfl ?_
                                            refine mx_S.ext [] (mx_sub_pos [] rfl (show ([0] : List Nat).Nodup by decide)) ?_
                                            exact j_X9_level_249_ok X hF hL nn h hf
                                          · refine sx_tin hm dX9_level_1 (by omega) (by omega) (off := 248) (by rw [z0]; rfl) (tgt := 249) rfl ?_
                                            refine mx_S.ext [] (mx_sub_pos [] rfl (show ([0] : List Nat).Nodup by decide)) ?_
                                            exact j_X9_level_249_ok X hF hL nn h hf
                                          · refine sx_tin hm dX9_level_1 (by omega) (by omega) (off := 248) (by rw [z0]; rfl) (tgt := 249) rfl ?_
                                            refine mx_S.ext [] (mx_sub_pos [] rfl (show ([0] : List Nat).Nodup by decide)) ?_
                                            exact j_X9_level_249_ok X hF hL nn h hf
                                          · refine sx_tin hm dX9_level_1 (by omega) (by omega) (off := 248) (by rw [z0]; rfl) (tgt := 249) rfl ?_
                                            refine mx_S.ext [] (mx_sub_pos [] rfl (show ([0] : List Nat).Nodup by decide)) ?_
                                            exact j_X9_level_249_ok X hF hL nn h hf
                                          · refine sx_tin hm dX9_level_1 (by omega) (by omega) (off := 248) (by rw [z0]; rfl) (tgt := 249) rfl ?_
                                            refine mx_S.ext [] (mx_sub_pos [] rfl (show ([0] : List Nat).Nodup by decide)) ?_
                                            exact j_X9_level_249_ok X hF hL nn h hf
                                          · refine sx_tin hm dX9_level_1 (by omega) (by omega) (off := 248) (by rw [z0]; rfl) (tgt := 249) rfl ?_
                                            refine mx_S.ext [] (mx_sub_pos [] rfl (show ([0] : List Nat).Nodup by decide)) ?_
                                            exact j_X9_level_249_ok X hF hL nn h hf
                                          · exact absurd (Int32.toInt_inj.mp (z0.trans (by decide : (52 : Int) = (52 : Int32).toInt))) n_1
                                          · exact absurd (Int32.toInt_inj.mp (z0.trans (by decide : (53 : Int) = (53 : Int32).toInt))) n_2
                                          · exact absurd (Int32.toInt_inj.mp (z0.trans (by decide : (54 : Int) = (54 : Int32).toInt))) n_3
                                          · exact absurd (Int32.toInt_inj.mp (z0.trans (by decide : (55 : Int) = (55 : Int32).toInt))) n_4
                                          · exact absurd (Int32.toInt_inj.mp (z0.trans (by decide : (56 : Int) = (56 : Int32).toInt))) n_5
                                          · exact absurd (Int32.toInt_inj.mp (z0.trans (by decide : (57 : Int) = (57 : Int32).toInt))) n_6
                                          · exact absurd (Int32.toInt_inj.mp (z0.trans (by decide : (58 : Int) = (58 : Int32).toInt))) n_7
                                          · exact absurd (Int32.toInt_inj.mp (z0.trans (by decide : (59 : Int) = (59 : Int32).toInt))) n_8
                                          · exact absurd (Int32.toInt_inj.mp (z0.trans (by decide : (60 : Int) = (60 : Int32).toInt))) n_9
                                          · exact absurd (Int32.toInt_inj.mp (z0.trans (by decide : (61 : Int) = (61 : Int32).toInt))) n_10
                                          · exact absurd (Int32.toInt_inj.mp (z0.trans (by decide : (62 : Int) = (62 : Int32).toInt))) n_11
                                          · exact absurd (Int32.toInt_inj.mp (z0.trans (by decide : (63 : Int) = (63 : Int32).toInt))) n_12
                                          · exact absurd (Int32.toInt_inj.mp (z0.trans (by decide : (64 : Int) = (64 : Int32).toInt))) n_13
                                          · exact absurd (Int32.toInt_inj.mp (z0.trans (by decide : (65 : Int) = (65 : Int32).toInt))) n_14
                                          · exact absurd (Int32.toInt_inj.mp (z0.trans (by decide : (66 : Int) = (66 : Int32).toInt))) n_15
                                          · exact absurd (Int32.toInt_inj.mp (z0.trans (by decide : (67 : Int) = (67 : Int32).toInt))) n_16
                                          · exact absurd (Int32.toInt_inj.mp (z0.trans (by decide : (68 : Int) = (68 : Int32).toInt))) n_17
                                          · exact absurd (Int32.toInt_inj.mp (z0.trans (by decide : (69 : Int) = (69 : Int32).toInt))) n_18
                                          · exact absurd (Int32.toInt_inj.mp (z0.trans (by decide : (70 : Int) = (70 : Int32).toInt))) n_19
set_option maxHeartbeats 4000000 in
set_option maxRecDepth 20000 in
theorem j_X10_closeSign_293_ok (X : Nat × (Nat → Int32)) {F L : Nat} (hF : 4 ≤ F) (hL : 129 ≤ L) (nn : Nat) (l0 : Nat) (h : mx_H) {r : mx_H} (hf : j_X10_closeSign_293 nn l0 h = some r) : mx_S X F L 280 293 [(0, .ref l0)] [] h 0 0 (none, r, 0, 0) := by
  have hm : mx_mt 280 = some (yX10_closeSign, cX10_closeSign, 4, none) := mt_X10_closeSign
  unfold j_X10_closeSign_293 at hf
  refine mx_S.pu (pc2 := 294) (lv2 := [(0, .ref l0)]) (st2 := [.ref l0]) hm dX10_closeSign_293 rfl ?_
  refine mx_S.pu (pc2 := 295) (lv2 := [(0, .ref l0)]) (st2 := [.ref l0, .ref l0]) hm dX10_closeSign_294 rfl ?_
  replace hf := mx_sv_el hf; obtain ⟨v1, e_v1, hf⟩ := hf
  refine sx_get hm dX10_closeSign_295 rs_RX10_22 (xgr_el e_v1) ?_
  clear e_v1
  refine mx_S.pu (pc2 := 299) (lv2 := [(0, .ref l0)]) (st2 := [.ref l0, .ref v1, .ref l0]) hm dX10_closeSign_298 rfl ?_
  replace hf := mx_sv_el hf; obtain ⟨v2, e_v2, hf⟩ := hf
  refine sx_get hm dX10_closeSign_299 rs_RX10_65 (xgi_el e_v2) ?_
  clear e_v2
  replace hf := mx_sv_el hf; obtain ⟨v3, e_v3, hf⟩ := hf
  refine sx_ald hm dX10_closeSign_302 e_v3 ?_
  clear e_v3
  replace hf := mx_sv_el hf; obtain ⟨h4, e_h4, hf⟩ := hf
  refine sx_put hm dX10_closeSign_303 rs_RX10_146 ft_10_15 ⟨rfl, rfl⟩ (fun z => by cases z) e_h4 ?_
  clear e_h4
  refine mx_S.pu (pc2 := 307) (lv2 := [(0, .ref l0)]) (st2 := [.ref l0]) hm dX10_closeSign_306 rfl ?_
  refine sx_ic (v := 0) hm dX10_closeSign_307 (by decide) ?_
  replace hf := mx_sv_el hf; obtain ⟨h5, e_h5, hf⟩ := hf
  refine sx_put hm dX10_closeSign_308 rs_RX10_133 ft_10_11 ⟨rfl, rfl⟩ (fun z => by cases z) e_h5 ?_
  clear e_h5
  cases hf
  exact sx_ret hm dX10_closeSign_311 rfl
set_option maxHeartbeats 4000000 in
set_option maxRecDepth 20000 in
theorem j_X10_closeSign_251_ok (X : Nat × (Nat → Int32)) {F L : Nat} (hF : 4 ≤ F) (hL : 129 ≤ L) (nn : Nat) (l0 : Nat) (l1 : Int32) (s0 : Int32) (s1 : Nat) (h : mx_H) {r : mx_H} (hf : j_X10_closeSign_251 nn l0 l1 s0 s1 h = some r) : mx_S X F L 280 251 [(0, .ref l0), (1, .int l1)] [.int s0, .ref s1] h 0 0 (none, r, 0, 0) := by
  have hm : mx_mt 280 = some (yX10_closeSign, cX10_closeSign, 4, none) := mt_X10_closeSign
  unfold j_X10_closeSign_251 at hf
  refine mx_S.pu (pc2 := 252) (lv2 := [(0, .ref l0), (1, .int l1)]) (st2 := [.ref l0, .int s0, .ref s1]) hm dX10_closeSign_251 rfl ?_
  replace hf := mx_sv_el hf; obtain ⟨v6, e_v6, hf⟩ := hf
  refine sx_get hm dX10_closeSign_252 rs_RX10_19 (xgr_el e_v6) ?_
  clear e_v6
  refine mx_S.pu (pc2 := 256) (lv2 := [(0, .ref l0), (1, .int l1)]) (st2 := [.ref l0, .ref v6, .int s0, .ref s1]) hm dX10_closeSign_255 rfl ?_
  replace hf := mx_sv_el hf; obtain ⟨v7, e_v7, hf⟩ := hf
  refine sx_get hm dX10_closeSign_256 rs_RX10_65 (xgi_el e_v7) ?_
  clear e_v7
  replace hf := mx_sv_el hf; obtain ⟨v8, e_v8, hf⟩ := hf
  refine sx_ald hm dX10_closeSign_259 e_v8 ?_
  clear e_v8
  replace hf := mx_gd_el hf; obtain ⟨c9, hf⟩ := hf
  replace hf := mx_sv_el hf; obtain ⟨u10, e_u10, hf⟩ := hf
  refine sx_cv hm dX10_closeSign_260 rs_RX10_80 mt_X10_wantType [.int s0, .int v8] [] (b := s1) (ci := 10) rfl rfl rfl c9 (Nat.le_of_ble_eq_true rfl) (Nat.le_of_ble_eq_true rfl) (by omega) (by omega) (f_X10_wantType_ok X (by omega) (by omega) nn s1 s0 v8 h e_u10) ?_
  clear e_u10
  show mx_S X F L 280 263 [(0, .ref l0), (1, .int l1)] [] u10 0 0 (none, r, 0, 0)
  refine mx_S.pu (pc2 := 264) (lv2 := [(0, .ref l0), (1, .int l1)]) (st2 := [.ref l0]) hm dX10_closeSign_263 rfl ?_
  replace hf := mx_sv_el hf; obtain ⟨v11, e_v11, hf⟩ := hf
  refine sx_get hm dX10_closeSign_264 rs_RX10_46 (xgr_el e_v11) ?_
  clear e_v11
  refine mx_S.pu (pc2 := 268) (lv2 := [(0, .ref l0), (1, .int l1)]) (st2 := [.int l1, .ref v11]) hm dX10_closeSign_267 rfl ?_
  replace hf := mx_sv_el hf; obtain ⟨u12, e_u12, hf⟩ := hf
  refine sx_cs hm dX10_closeSign_268 rs_RX10_159 mt_X10_arithmeticOp [.int l1] [.ref v11] rfl rfl (Nat.le_of_ble_eq_true rfl) (Nat.le_of_ble_eq_true rfl) (by omega) (by omega) (f_X10_arithmeticOp_ok X (by omega) (by omega) nn l1 u10 e_u12) ?_
  clear e_u12
  show mx_S X F L 280 271 [(0, .ref l0), (1, .int l1)] [.int u12.1, .ref v11] u12.2 0 0 (none, r, 0, 0)
  replace hf := mx_gd_el hf; obtain ⟨c13, hf⟩ := hf
  replace hf := mx_sv_el hf; obtain ⟨u14, e_u14, hf⟩ := hf
  refine sx_cv hm dX10_closeSign_271 rs_RX10_162 mt_X1_op [.int u12.1] [] (b := v11) (ci := 1) rfl rfl rfl c13 (Nat.le_of_ble_eq_true rfl) (Nat.le_of_ble_eq_true rfl) (by omega) (by omega) (f_X1_op_ok X (by omega) (by omega) nn v11 u12.1 u12.2 e_u14) ?_
  clear e_u14
  show mx_S X F L 280 274 [(0, .ref l0), (1, .int l1)] [] u14 0 0 (none, r, 0, 0)
  refine mx_S.pu (pc2 := 275) (lv2 := [(0, .ref l0), (1, .int l1)]) (st2 := [.ref l0]) hm dX10_closeSign_274 rfl ?_
  replace hf := mx_sv_el hf; obtain ⟨v15, e_v15, hf⟩ := hf
  refine sx_get hm dX10_closeSign_275 rs_RX10_46 (xgr_el e_v15) ?_
  clear e_v15
  refine sx_ic (v := 2) hm dX10_closeSign_278 (by decide) ?_
  replace hf := mx_gd_el hf; obtain ⟨c16, hf⟩ := hf
  replace hf := mx_sv_el hf; obtain ⟨u17, e_u17, hf⟩ := hf
  refine sx_cv hm dX10_closeSign_279 rs_RX10_118 mt_X1_pop [.int 2] [] (b := v15) (ci := 1) rfl rfl rfl c16 (Nat.le_of_ble_eq_true rfl) (Nat.le_of_ble_eq_true rfl) (by omega) (by omega) (f_X1_pop_ok X (by omega) (by omega) nn v15 2 u14 e_u17) ?_
  clear e_u17
  show mx_S X F L 280 282 [(0, .ref l0), (1, .int l1)] [] u17 0 0 (none, r, 0, 0)
  refine mx_S.pu (pc2 := 283) (lv2 := [(0, .ref l0), (1, .int l1)]) (st2 := [.ref l0]) hm dX10_closeSign_282 rfl ?_
  replace hf := mx_sv_el hf; obtain ⟨v18, e_v18, hf⟩ := hf
  refine sx_get hm dX10_closeSign_283 rs_RX10_46 (xgr_el e_v18) ?_
  clear e_v18
  refine mx_S.pu (pc2 := 287) (lv2 := [(0, .ref l0), (1, .int l1)]) (st2 := [.ref l0, .ref v18]) hm dX10_closeSign_286 rfl ?_
  replace hf := mx_sv_el hf; obtain ⟨v19, e_v19, hf⟩ := hf
  refine sx_get hm dX10_closeSign_287 rs_RX10_75 (xgi_el e_v19) ?_
  clear e_v19
  replace hf := mx_gd_el hf; obtain ⟨c20, hf⟩ := hf
  replace hf := mx_sv_el hf; obtain ⟨u21, e_u21, hf⟩ := hf
  refine sx_cv hm dX10_closeSign_290 rs_RX10_130 mt_X1_push [.int v19] [] (b := v18) (ci := 1) rfl rfl rfl c20 (Nat.le_of_ble_eq_true rfl) (Nat.le_of_ble_eq_true rfl) (by omega) (by omega) (f_X1_push_ok X (by omega) (by omega) nn v18 v19 u17 e_u21) ?_
  clear e_u21
  show mx_S X F L 280 293 [(0, .ref l0), (1, .int l1)] [] u21 0 0 (none, r, 0, 0)
  refine mx_S.ext [(0, .ref l0)] (mx_sub_pos [0] rfl (show ([0, 1] : List Nat).Nodup by decide)) ?_
  exact j_X10_closeSign_293_ok X hF hL nn l0 u21 hf
set_option maxHeartbeats 4000000 in
set_option maxRecDepth 20000 in
theorem j_X10_closeSign_250_ok (X : Nat × (Nat → Int32)) {F L : Nat} (hF : 4 ≤ F) (hL : 129 ≤ L) (nn : Nat) (l0 : Nat) (l1 : Int32) (s0 : Nat) (h : mx_H) {r : mx_H} (hf : j_X10_closeSign_250 nn l0 l1 s0 h = some r) : mx_S X F L 280 250 [(0, .ref l0), (1, .int l1)] [.ref s0] h 0 0 (none, r, 0, 0) := by
  have hm : mx_mt 280 = some (yX10_closeSign, cX10_closeSign, 4, none) := mt_X10_closeSign
  unfold j_X10_closeSign_250 at hf
  refine sx_ic (v := 0) hm dX10_closeSign_250 (by decide) ?_
  exact j_X10_closeSign_251_ok X hF hL nn l0 l1 0 s0 h hf
set_option maxHeartbeats 4000000 in
set_option maxRecDepth 20000 in
theorem j_X10_closeSign_246_ok (X : Nat × (Nat → Int32)) {F L : Nat} (hF : 4 ≤ F) (hL : 129 ≤ L) (nn : Nat) (l0 : Nat) (l1 : Int32) (s0 : Nat) (h : mx_H) {r : mx_H} (hf : j_X10_closeSign_246 nn l0 l1 s0 h = some r) : mx_S X F L 280 246 [(0, .ref l0), (1, .int l1)] [.ref s0] h 0 0 (none, r, 0, 0) := by
  have hm : mx_mt 280 = some (yX10_closeSign, cX10_closeSign, 4, none) := mt_X10_closeSign
  unfold j_X10_closeSign_246 at hf
  refine sx_ic (v := 1) hm dX10_closeSign_246 (by decide) ?_
  refine mx_S.pu (pc2 := 251) (lv2 := [(0, .ref l0), (1, .int l1)]) (st2 := [.int 1, .ref s0]) hm dX10_closeSign_247 rfl ?_
  exact j_X10_closeSign_251_ok X hF hL nn l0 l1 1 s0 h hf
set_option maxHeartbeats 4000000 in
set_option maxRecDepth 20000 in
theorem j_X10_closeSign_212_ok (X : Nat × (Nat → Int32)) {F L : Nat} (hF : 4 ≤ F) (hL : 129 ≤ L) (nn : Nat) (l0 : Nat) (l1 : Int32) (l2 : Int32) (s0 : Int32) (h : mx_H) {r : mx_H} (hf : j_X10_closeSign_212 nn l0 l1 l2 s0 h = some r) : mx_S X F L 280 212 [(0, .ref l0), (1, .int l1), (2, .int l2)] [.int s0] h 0 0 (none, r, 0, 0) := by
  have hm : mx_mt 280 = some (yX10_closeSign, cX10_closeSign, 4, none) := mt_X10_closeSign
  unfold j_X10_closeSign_212 at hf
  refine mx_S.pu (pc2 := 213) (lv2 := [(3, .int s0), (0, .ref l0), (1, .int l1), (2, .int l2)]) (st2 := []) hm dX10_closeSign_212 rfl ?_
  refine mx_S.pu (pc2 := 214) (lv2 := [(3, .int s0), (0, .ref l0), (1, .int l1), (2, .int l2)]) (st2 := [.ref l0]) hm dX10_closeSign_213 rfl ?_
  refine mx_S.pu (pc2 := 215) (lv2 := [(3, .int s0), (0, .ref l0), (1, .int l1), (2, .int l2)]) (st2 := [.int l2, .ref l0]) hm dX10_closeSign_214 rfl ?_
  refine mx_S.pu (pc2 := 216) (lv2 := [(3, .int s0), (0, .ref l0), (1, .int l1), (2, .int l2)]) (st2 := [.ref l0, .int l2, .ref l0]) hm dX10_closeSign_215 rfl ?_
  replace hf := mx_sv_el hf; obtain ⟨v22, e_v22, hf⟩ := hf
  refine sx_get hm dX10_closeSign_216 rs_RX10_75 (xgi_el e_v22) ?_
  clear e_v22
  rcases mx_if_el hf with ⟨c28, hf⟩ | ⟨c28, hf⟩
  · refine sb_ic_ne hm dX10_closeSign_219 (tgt := 250) rfl (fun _ => ?_) (fun z => absurd c28 z)
    refine mx_S.ext [(0, .ref l0), (1, .int l1)] (mx_sub_pos [1, 2] rfl (show ([3, 0, 1, 2] : List Nat).Nodup by decide)) ?_
    exact j_X10_closeSign_250_ok X hF hL nn l0 l1 l0 h hf
  · refine sb_ic_ne hm dX10_closeSign_219 (tgt := 250) rfl (fun z => absurd z c28) (fun _ => ?_)
    refine mx_S.pu (pc2 := 223) (lv2 := [(3, .int s0), (0, .ref l0), (1, .int l1), (2, .int l2)]) (st2 := [.ref l0, .ref l0]) hm dX10_closeSign_222 rfl ?_
    replace hf := mx_sv_el hf; obtain ⟨v23, e_v23, hf⟩ := hf
    refine sx_get hm dX10_closeSign_223 rs_RX10_75 (xgi_el e_v23) ?_
    clear e_v23
    refine sx_si (v := 301) hm dX10_closeSign_226 (by decide) ?_
    rcases mx_if_el hf with ⟨c27, hf⟩ | ⟨c27, hf⟩
    · refine sb_ic_eq hm dX10_closeSign_229 (tgt := 246) rfl (fun _ => ?_) (fun z => absurd c27 z)
      refine mx_S.ext [(0, .ref l0), (1, .int l1)] (mx_sub_pos [1, 2] rfl (show ([3, 0, 1, 2] : List Nat).Nodup by decide)) ?_
      exact j_X10_closeSign_246_ok X hF hL nn l0 l1 l0 h hf
    · refine sb_ic_eq hm dX10_closeSign_229 (tgt := 246) rfl (fun z => absurd z c27) (fun _ => ?_)
      refine mx_S.pu (pc2 := 233) (lv2 := [(3, .int s0), (0, .ref l0), (1, .int l1), (2, .int l2)]) (st2 := [.int s0, .ref l0]) hm dX10_closeSign_232 rfl ?_
      rcases mx_if_el hf with ⟨c26, hf⟩ | ⟨c26, hf⟩
      · refine sb_if_eq hm dX10_closeSign_233 (tgt := 250) rfl (fun _ => ?_) (fun z => absurd c26 z)
        refine mx_S.ext [(0, .ref l0), (1, .int l1)] (mx_sub_pos [1, 2] rfl (show ([3, 0, 1, 2] : List Nat).Nodup by decide)) ?_
        exact j_X10_closeSign_250_ok X hF hL nn l0 l1 l0 h hf
      · refine sb_if_eq hm dX10_closeSign_233 (tgt := 250) rfl (fun z => absurd z c26) (fun _ => ?_)
        refine mx_S.pu (pc2 := 237) (lv2 := [(3, .int s0), (0, .ref l0), (1, .int l1), (2, .int l2)]) (st2 := [.ref l0, .ref l0]) hm dX10_closeSign_236 rfl ?_
        replace hf := mx_sv_el hf; obtain ⟨v24, e_v24, hf⟩ := hf
        refine sx_get hm dX10_closeSign_237 rs_RX10_75 (xgi_el e_v24) ?_
        clear e_v24
        refine sx_si (v := 302) hm dX10_closeSign_240 (by decide) ?_
        rcases mx_if_el hf with ⟨c25, hf⟩ | ⟨c25, hf⟩
        · refine sb_ic_ne hm dX10_closeSign_243 (tgt := 250) rfl (fun _ => ?_) (fun z => absurd c25 z)
          refine mx_S.ext [(0, .ref l0), (1, .int l1)] (mx_sub_pos [1, 2] rfl (show ([3, 0, 1, 2] : List Nat).Nodup by decide)) ?_
          exact j_X10_closeSign_250_ok X hF hL nn l0 l1 l0 h hf
        · refine sb_ic_ne hm dX10_closeSign_243 (tgt := 250) rfl (fun z => absurd z c25) (fun _ => ?_)
          refine mx_S.ext [(0, .ref l0), (1, .int l1)] (mx_sub_pos [1, 2] rfl (show ([3, 0, 1, 2] : List Nat).Nodup by decide)) ?_
          exact j_X10_closeSign_246_ok X hF hL nn l0 l1 l0 h hf
set_option maxHeartbeats 4000000 in
set_option maxRecDepth 20000 in
theorem j_X10_closeSign_207_ok (X : Nat × (Nat → Int32)) {F L : Nat} (hF : 4 ≤ F) (hL : 129 ≤ L) (nn : Nat) (l0 : Nat) (l1 : Int32) (l2 : Int32) (h : mx_H) {r : mx_H} (hf : j_X10_closeSign_207 nn l0 l1 l2 h = some r) : mx_S X F L 280 207 [(0, .ref l0), (1, .int l1), (2, .int l2)] [] h 0 0 (none, r, 0, 0) := by
  have hm : mx_mt 280 = some (yX10_closeSign, cX10_closeSign, 4, none) := mt_X10_closeSign
  unfold j_X10_closeSign_207 at hf
  refine sx_ic (v := 1) hm dX10_closeSign_207 (by decide) ?_
  refine mx_S.pu (pc2 := 212) (lv2 := [(0, .ref l0), (1, .int l1), (2, .int l2)]) (st2 := [.int 1]) hm dX10_closeSign_208 rfl ?_
  exact j_X10_closeSign_212_ok X hF hL nn l0 l1 l2 1 h hf
set_option maxHeartbeats 4000000 in
set_option maxRecDepth 20000 in
theorem j_X10_closeSign_154_ok (X : Nat × (Nat → Int32)) {F L : Nat} (hF : 4 ≤ F) (hL : 129 ≤ L) (nn : Nat) (l0 : Nat) (l1 : Int32) (s0 : Int32) (s1 : Nat) (h : mx_H) {r : mx_H} (hf : j_X10_closeSign_154 nn l0 l1 s0 s1 h = some r) : mx_S X F L 280 154 [(0, .ref l0), (1, .int l1)] [.int s0, .ref s1] h 0 0 (none, r, 0, 0) := by
  have hm : mx_mt 280 = some (yX10_closeSign, cX10_closeSign, 4, none) := mt_X10_closeSign
  unfold j_X10_closeSign_154 at hf
  refine mx_S.pu (pc2 := 155) (lv2 := [(0, .ref l0), (1, .int l1)]) (st2 := [.ref l0, .int s0, .ref s1]) hm dX10_closeSign_154 rfl ?_
  replace hf := mx_sv_el hf; obtain ⟨v29, e_v29, hf⟩ := hf
  refine sx_get hm dX10_closeSign_155 rs_RX10_19 (xgr_el e_v29) ?_
  clear e_v29
  refine mx_S.pu (pc2 := 159) (lv2 := [(0, .ref l0), (1, .int l1)]) (st2 := [.ref l0, .ref v29, .int s0, .ref s1]) hm dX10_closeSign_158 rfl ?_
  replace hf := mx_sv_el hf; obtain ⟨v30, e_v30, hf⟩ := hf
  refine sx_get hm dX10_closeSign_159 rs_RX10_65 (xgi_el e_v30) ?_
  clear e_v30
  replace hf := mx_sv_el hf; obtain ⟨v31, e_v31, hf⟩ := hf
  refine sx_ald hm dX10_closeSign_162 e_v31 ?_
  clear e_v31
  replace hf := mx_gd_el hf; obtain ⟨c32, hf⟩ := hf
  replace hf := mx_sv_el hf; obtain ⟨u33, e_u33, hf⟩ := hf
  refine sx_cv hm dX10_closeSign_163 rs_RX10_80 mt_X10_wantType [.int s0, .int v31] [] (b := s1) (ci := 10) rfl rfl rfl c32 (Nat.le_of_ble_eq_true rfl) (Nat.le_of_ble_eq_true rfl) (by omega) (by omega) (f_X10_wantType_ok X (by omega) (by omega) nn s1 s0 v31 h e_u33) ?_
  clear e_u33
  show mx_S X F L 280 166 [(0, .ref l0), (1, .int l1)] [] u33 0 0 (none, r, 0, 0)
  refine mx_S.pu (pc2 := 167) (lv2 := [(0, .ref l0), (1, .int l1)]) (st2 := [.ref l0]) hm dX10_closeSign_166 rfl ?_
  replace hf := mx_sv_el hf; obtain ⟨v34, e_v34, hf⟩ := hf
  refine sx_get hm dX10_closeSign_167 rs_RX10_46 (xgr_el e_v34) ?_
  clear e_v34
  refine mx_S.pu (pc2 := 171) (lv2 := [(0, .ref l0), (1, .int l1)]) (st2 := [.int l1, .ref v34]) hm dX10_closeSign_170 rfl ?_
  refine sx_ic (v := 1) hm dX10_closeSign_171 (by decide) ?_
  replace hf := mx_sv_el hf; obtain ⟨u35, e_u35, hf⟩ := hf
  refine sx_cs hm dX10_closeSign_172 rs_RX10_152 mt_X10_compareOp [.int l1, .int 1] [.ref v34] rfl rfl (Nat.le_of_ble_eq_true rfl) (Nat.le_of_ble_eq_true rfl) (by omega) (by omega) (f_X10_compareOp_ok X (by omega) (by omega) nn l1 1 u33 e_u35) ?_
  clear e_u35
  show mx_S X F L 280 175 [(0, .ref l0), (1, .int l1)] [.int u35.1, .ref v34] u35.2 0 0 (none, r, 0, 0)
  refine sx_ic (v := 2) hm dX10_closeSign_175 (by decide) ?_
  replace hf := mx_gd_el hf; obtain ⟨c36, hf⟩ := hf
  replace hf := mx_sv_el hf; obtain ⟨u37, e_u37, hf⟩ := hf
  refine sx_cv hm dX10_closeSign_176 rs_RX10_156 mt_X1_truth [.int u35.1, .int 2] [] (b := v34) (ci := 1) rfl rfl rfl c36 (Nat.le_of_ble_eq_true rfl) (Nat.le_of_ble_eq_true rfl) (by omega) (by omega) (f_X1_truth_ok X (by omega) (by omega) nn v34 u35.1 2 u35.2 e_u37) ?_
  clear e_u37
  show mx_S X F L 280 179 [(0, .ref l0), (1, .int l1)] [] u37 0 0 (none, r, 0, 0)
  refine mx_S.pu (pc2 := 180) (lv2 := [(0, .ref l0), (1, .int l1)]) (st2 := [.ref l0]) hm dX10_closeSign_179 rfl ?_
  refine sx_si (v := 302) hm dX10_closeSign_180 (by decide) ?_
  replace hf := mx_sv_el hf; obtain ⟨h38, e_h38, hf⟩ := hf
  refine sx_put hm dX10_closeSign_183 rs_RX10_75 ft_10_12 ⟨rfl, rfl⟩ (fun z => by cases z) e_h38 ?_
  clear e_h38
  refine mx_S.pu (pc2 := 293) (lv2 := [(0, .ref l0), (1, .int l1)]) (st2 := []) hm dX10_closeSign_186 rfl ?_
  refine mx_S.ext [(0, .ref l0)] (mx_sub_pos [0] rfl (show ([0, 1] : List Nat).Nodup by decide)) ?_
  exact j_X10_closeSign_293_ok X hF hL nn l0 h38 hf
set_option maxHeartbeats 4000000 in
set_option maxRecDepth 20000 in
theorem j_X10_closeSign_153_ok (X : Nat × (Nat → Int32)) {F L : Nat} (hF : 4 ≤ F) (hL : 129 ≤ L) (nn : Nat) (l0 : Nat) (l1 : Int32) (s0 : Nat) (h : mx_H) {r : mx_H} (hf : j_X10_closeSign_153 nn l0 l1 s0 h = some r) : mx_S X F L 280 153 [(0, .ref l0), (1, .int l1)] [.ref s0] h 0 0 (none, r, 0, 0) := by
  have hm : mx_mt 280 = some (yX10_closeSign, cX10_closeSign, 4, none) := mt_X10_closeSign
  unfold j_X10_closeSign_153 at hf
  refine sx_ic (v := 0) hm dX10_closeSign_153 (by decide) ?_
  exact j_X10_closeSign_154_ok X hF hL nn l0 l1 0 s0 h hf
set_option maxHeartbeats 4000000 in
set_option maxRecDepth 20000 in
theorem j_X10_closeSign_71_ok (X : Nat × (Nat → Int32)) {F L : Nat} (hF : 4 ≤ F) (hL : 129 ≤ L) (nn : Nat) (l0 : Nat) (l1 : Int32) (l2 : Int32) (h : mx_H) {r : mx_H} (hf : j_X10_closeSign_71 nn l0 l1 l2 h = some r) : mx_S X F L 280 71 [(0, .ref l0), (1, .int l1), (2, .int l2)] [] h 0 0 (none, r, 0, 0) := by
  have hm : mx_mt 280 = some (yX10_closeSign, cX10_closeSign, 4, none) := mt_X10_closeSign
  unfold j_X10_closeSign_71 at hf
  refine mx_S.pu (pc2 := 72) (lv2 := [(0, .ref l0), (1, .int l1), (2, .int l2)]) (st2 := [.ref l0]) hm dX10_closeSign_71 rfl ?_
  refine mx_S.pu (pc2 := 73) (lv2 := [(0, .ref l0), (1, .int l1), (2, .int l2)]) (st2 := [.ref l0, .ref l0]) hm dX10_closeSign_72 rfl ?_
  refine mx_S.pu (pc2 := 74) (lv2 := [(0, .ref l0), (1, .int l1), (2, .int l2)]) (st2 := [.int l2, .ref l0, .ref l0]) hm dX10_closeSign_73 rfl ?_
  refine mx_S.pu (pc2 := 75) (lv2 := [(0, .ref l0), (1, .int l1), (2, .int l2)]) (st2 := [.ref l0, .int l2, .ref l0, .ref l0]) hm dX10_closeSign_74 rfl ?_
  replace hf := mx_sv_el hf; obtain ⟨v39, e_v39, hf⟩ := hf
  refine sx_get hm dX10_closeSign_75 rs_RX10_75 (xgi_el e_v39) ?_
  clear e_v39
  replace hf := mx_gd_el hf; obtain ⟨c40, hf⟩ := hf
  replace hf := mx_sv_el hf; obtain ⟨u41, e_u41, hf⟩ := hf
  refine sx_cv hm dX10_closeSign_78 rs_RX10_124 mt_X10_isPair [.int l2, .int v39] [.ref l0] (b := l0) (ci := 10) rfl rfl rfl c40 (Nat.le_of_ble_eq_true rfl) (Nat.le_of_ble_eq_true rfl) (by omega) (by omega) (f_X10_isPair_ok X (by omega) (by omega) nn l0 l2 v39 h e_u41) ?_
  clear e_u41
  show mx_S X F L 280 81 [(0, .ref l0), (1, .int l1), (2, .int l2)] [.int u41.1, .ref l0] u41.2 0 0 (none, r, 0, 0)
  refine mx_S.pu (pc2 := 82) (lv2 := [(0, .ref l0), (1, .int l1), (2, .int l2)]) (st2 := [.ref l0, .int u41.1, .ref l0]) hm dX10_closeSign_81 rfl ?_
  replace hf := mx_sv_el hf; obtain ⟨v42, e_v42, hf⟩ := hf
  refine sx_get hm dX10_closeSign_82 rs_RX10_19 (xgr_el e_v42) ?_
  clear e_v42
  refine mx_S.pu (pc2 := 86) (lv2 := [(0, .ref l0), (1, .int l1), (2, .int l2)]) (st2 := [.ref l0, .ref v42, .int u41.1, .ref l0]) hm dX10_closeSign_85 rfl ?_
  replace hf := mx_sv_el hf; obtain ⟨v43, e_v43, hf⟩ := hf
  refine sx_get hm dX10_closeSign_86 rs_RX10_65 (xgi_el e_v43) ?_
  clear e_v43
  replace hf := mx_sv_el hf; obtain ⟨v44, e_v44, hf⟩ := hf
  refine sx_ald hm dX10_closeSign_89 e_v44 ?_
  clear e_v44
  replace hf := mx_gd_el hf; obtain ⟨c45, hf⟩ := hf
  replace hf := mx_sv_el hf; obtain ⟨u46, e_u46, hf⟩ := hf
  refine sx_cv hm dX10_closeSign_90 rs_RX10_80 mt_X10_wantType [.int u41.1, .int v44] [] (b := l0) (ci := 10) rfl rfl rfl c45 (Nat.le_of_ble_eq_true rfl) (Nat.le_of_ble_eq_true rfl) (by omega) (by omega) (f_X10_wantType_ok X (by omega) (by omega) nn l0 u41.1 v44 u41.2 e_u46) ?_
  clear e_u46
  show mx_S X F L 280 93 [(0, .ref l0), (1, .int l1), (2, .int l2)] [] u46 0 0 (none, r, 0, 0)
  refine mx_S.pu (pc2 := 94) (lv2 := [(0, .ref l0), (1, .int l1), (2, .int l2)]) (st2 := [.ref l0]) hm dX10_closeSign_93 rfl ?_
  replace hf := mx_sv_el hf; obtain ⟨v47, e_v47, hf⟩ := hf
  refine sx_get hm dX10_closeSign_94 rs_RX10_46 (xgr_el e_v47) ?_
  clear e_v47
  refine mx_S.pu (pc2 := 98) (lv2 := [(0, .ref l0), (1, .int l1), (2, .int l2)]) (st2 := [.int l1, .ref v47]) hm dX10_closeSign_97 rfl ?_
  refine mx_S.pu (pc2 := 99) (lv2 := [(0, .ref l0), (1, .int l1), (2, .int l2)]) (st2 := [.ref l0, .int l1, .ref v47]) hm dX10_closeSign_98 rfl ?_
  replace hf := mx_sv_el hf; obtain ⟨v48, e_v48, hf⟩ := hf
  refine sx_get hm dX10_closeSign_99 rs_RX10_75 (xgi_el e_v48) ?_
  clear e_v48
  replace hf := mx_sv_el hf; obtain ⟨u49, e_u49, hf⟩ := hf
  refine sx_cs hm dX10_closeSign_102 rs_RX10_143 mt_X4_isNumber [.int v48] [.int l1, .ref v47] rfl rfl (Nat.le_of_ble_eq_true rfl) (Nat.le_of_ble_eq_true rfl) (by omega) (by omega) (f_X4_isNumber_ok X (by omega) (by omega) nn v48 u46 e_u49) ?_
  clear e_u49
  show mx_S X F L 280 105 [(0, .ref l0), (1, .int l1), (2, .int l2)] [.int u49.1, .int l1, .ref v47] u49.2 0 0 (none, r, 0, 0)
  replace hf := mx_sv_el hf; obtain ⟨u50, e_u50, hf⟩ := hf
  refine sx_cs hm dX10_closeSign_105 rs_RX10_152 mt_X10_compareOp [.int l1, .int u49.1] [.ref v47] rfl rfl (Nat.le_of_ble_eq_true rfl) (Nat.le_of_ble_eq_true rfl) (by omega) (by omega) (f_X10_compareOp_ok X (by omega) (by omega) nn l1 u49.1 u49.2 e_u50) ?_
  clear e_u50
  show mx_S X F L 280 108 [(0, .ref l0), (1, .int l1), (2, .int l2)] [.int u50.1, .ref v47] u50.2 0 0 (none, r, 0, 0)
  refine sx_ic (v := 2) hm dX10_closeSign_108 (by decide) ?_
  replace hf := mx_gd_el hf; obtain ⟨c51, hf⟩ := hf
  replace hf := mx_sv_el hf; obtain ⟨u52, e_u52, hf⟩ := hf
  refine sx_cv hm dX10_closeSign_109 rs_RX10_156 mt_X1_truth [.int u50.1, .int 2] [] (b := v47) (ci := 1) rfl rfl rfl c51 (Nat.le_of_ble_eq_true rfl) (Nat.le_of_ble_eq_true rfl) (by omega) (by omega) (f_X1_truth_ok X (by omega) (by omega) nn v47 u50.1 2 u50.2 e_u52) ?_
  clear e_u52
  show mx_S X F L 280 112 [(0, .ref l0), (1, .int l1), (2, .int l2)] [] u52 0 0 (none, r, 0, 0)
  refine mx_S.pu (pc2 := 113) (lv2 := [(0, .ref l0), (1, .int l1), (2, .int l2)]) (st2 := [.ref l0]) hm dX10_closeSign_112 rfl ?_
  refine sx_si (v := 302) hm dX10_closeSign_113 (by decide) ?_
  replace hf := mx_sv_el hf; obtain ⟨h53, e_h53, hf⟩ := hf
  refine sx_put hm dX10_closeSign_116 rs_RX10_75 ft_10_12 ⟨rfl, rfl⟩ (fun z => by cases z) e_h53 ?_
  clear e_h53
  refine mx_S.pu (pc2 := 293) (lv2 := [(0, .ref l0), (1, .int l1), (2, .int l2)]) (st2 := []) hm dX10_closeSign_119 rfl ?_
  refine mx_S.ext [(0, .ref l0)] (mx_sub_pos [0] rfl (show ([0, 1, 2] : List Nat).Nodup by decide)) ?_
  exact j_X10_closeSign_293_ok X hF hL nn l0 h53 hf
set_option maxHeartbeats 4000000 in
set_option maxRecDepth 20000 in
theorem j_X10_closeSign_42_ok (X : Nat × (Nat → Int32)) {F L : Nat} (hF : 4 ≤ F) (hL : 129 ≤ L) (nn : Nat) (l0 : Nat) (l1 : Int32) (h : mx_H) {r : mx_H} (hf : j_X10_closeSign_42 nn l0 l1 h = some r) : mx_S X F L 280 42 [(0, .ref l0), (1, .int l1)] [] h 0 0 (none, r, 0, 0) := by
  have hm : mx_mt 280 = some (yX10_closeSign, cX10_closeSign, 4, none) := mt_X10_closeSign
  unfold j_X10_closeSign_42 at hf
  refine mx_S.pu (pc2 := 43) (lv2 := [(0, .ref l0), (1, .int l1)]) (st2 := [.ref l0]) hm dX10_closeSign_42 rfl ?_
  refine mx_S.pu (pc2 := 44) (lv2 := [(0, .ref l0), (1, .int l1)]) (st2 := [.int l1, .ref l0]) hm dX10_closeSign_43 rfl ?_
  refine mx_S.pu (pc2 := 45) (lv2 := [(0, .ref l0), (1, .int l1)]) (st2 := [.ref l0, .int l1, .ref l0]) hm dX10_closeSign_44 rfl ?_
  replace hf := mx_sv_el hf; obtain ⟨v54, e_v54, hf⟩ := hf
  refine sx_get hm dX10_closeSign_45 rs_RX10_28 (xgr_el e_v54) ?_
  clear e_v54
  refine mx_S.pu (pc2 := 49) (lv2 := [(0, .ref l0), (1, .int l1)]) (st2 := [.ref l0, .ref v54, .int l1, .ref l0]) hm dX10_closeSign_48 rfl ?_
  replace hf := mx_sv_el hf; obtain ⟨v55, e_v55, hf⟩ := hf
  refine sx_get hm dX10_closeSign_49 rs_RX10_65 (xgi_el e_v55) ?_
  clear e_v55
  replace hf := mx_sv_el hf; obtain ⟨v56, e_v56, hf⟩ := hf
  refine sx_ald hm dX10_closeSign_52 e_v56 ?_
  clear e_v56
  replace hf := mx_gd_el hf; obtain ⟨c57, hf⟩ := hf
  replace hf := mx_sv_el hf; obtain ⟨u58, e_u58, hf⟩ := hf
  refine sx_cv hm dX10_closeSign_53 rs_RX10_149 mt_X10_closeShort [.int l1, .int v56] [] (b := l0) (ci := 10) rfl rfl rfl c57 (Nat.le_of_ble_eq_true rfl) (Nat.le_of_ble_eq_true rfl) (by omega) (by omega) (f_X10_closeShort_ok X (by omega) (by omega) nn l0 l1 v56 h e_u58) ?_
  clear e_u58
  show mx_S X F L 280 56 [(0, .ref l0), (1, .int l1)] [] u58 0 0 (none, r, 0, 0)
  refine mx_S.pu (pc2 := 293) (lv2 := [(0, .ref l0), (1, .int l1)]) (st2 := []) hm dX10_closeSign_56 rfl ?_
  refine mx_S.ext [(0, .ref l0)] (mx_sub_pos [0] rfl (show ([0, 1] : List Nat).Nodup by decide)) ?_
  exact j_X10_closeSign_293_ok X hF hL nn l0 u58 hf
set_option maxHeartbeats 4000000 in
set_option maxRecDepth 20000 in
theorem f_X10_closeSign_ok (X : Nat × (Nat → Int32)) {F L : Nat} (hF : 4 ≤ F) (hL : 129 ≤ L) (nn : Nat) (a0 : Nat) (h : mx_H) {r : mx_H} (hf : f_X10_closeSign nn a0 h = some r) : mx_R X F L 280 [.ref a0] h (none, r, 0, 0) := by
  have hm : mx_mt 280 = some (yX10_closeSign, cX10_closeSign, 4, none) := mt_X10_closeSign
  show mx_S X F L 280 0 [(0, .ref a0)] [] h 0 0 (none, r, 0, 0)
  unfold f_X10_closeSign at hf
  refine mx_S.pu (pc2 := 1) (lv2 := [(0, .ref a0)]) (st2 := [.ref a0]) hm dX10_closeSign_0 rfl ?_
  refine mx_S.pu (pc2 := 2) (lv2 := [(0, .ref a0)]) (st2 := [.ref a0, .ref a0]) hm dX10_closeSign_1 rfl ?_
  replace hf := mx_sv_el hf; obtain ⟨v59, e_v59, hf⟩ := hf
  refine sx_get hm dX10_closeSign_2 rs_RX10_65 (xgi_el e_v59) ?_
  clear e_v59
  refine sx_ic (v := 1) hm dX10_closeSign_5 (by decide) ?_
  replace hf := xl_el hf; obtain ⟨v60, e_v60, hf⟩ := hf
  refine mx_S.pu (pc2 := 7) (lv2 := [(0, .ref a0)]) (st2 := [.int v60, .ref a0]) hm dX10_closeSign_6 (by rw [← e_v60]; rfl) ?_
  clear e_v60
  replace hf := mx_sv_el hf; obtain ⟨h61, e_h61, hf⟩ := hf
  refine sx_put hm dX10_closeSign_7 rs_RX10_65 ft_10_10 ⟨rfl, rfl⟩ (fun z => by cases z) e_h61 ?_
  clear e_h61
  refine mx_S.pu (pc2 := 11) (lv2 := [(0, .ref a0)]) (st2 := [.ref a0]) hm dX10_closeSign_10 rfl ?_
  replace hf := mx_sv_el hf; obtain ⟨v62, e_v62, hf⟩ := hf
  refine sx_get hm dX10_closeSign_11 rs_RX10_15 (xgr_el e_v62) ?_
  clear e_v62
  refine mx_S.pu (pc2 := 15) (lv2 := [(0, .ref a0)]) (st2 := [.ref a0, .ref v62]) hm dX10_closeSign_14 rfl ?_
  replace hf := mx_sv_el hf; obtain ⟨v63, e_v63, hf⟩ := hf
  refine sx_get hm dX10_closeSign_15 rs_RX10_65 (xgi_el e_v63) ?_
  clear e_v63
  replace hf := mx_sv_el hf; obtain ⟨v64, e_v64, hf⟩ := hf
  refine sx_ald hm dX10_closeSign_18 e_v64 ?_
  clear e_v64
  refine mx_S.pu (pc2 := 20) (lv2 := [(1, .int v64), (0, .ref a0)]) (st2 := []) hm dX10_closeSign_19 rfl ?_
  refine mx_S.pu (pc2 := 21) (lv2 := [(1, .int v64), (0, .ref a0)]) (st2 := [.ref a0]) hm dX10_closeSign_20 rfl ?_
  replace hf := mx_sv_el hf; obtain ⟨v65, e_v65, hf⟩ := hf
  refine sx_get hm dX10_closeSign_21 rs_RX10_25 (xgr_el e_v65) ?_
  clear e_v65
  refine mx_S.pu (pc2 := 25) (lv2 := [(1, .int v64), (0, .ref a0)]) (st2 := [.ref a0, .ref v65]) hm dX10_closeSign_24 rfl ?_
  replace hf := mx_sv_el hf; obtain ⟨v66, e_v66, hf⟩ := hf
  refine sx_get hm dX10_closeSign_25 rs_RX10_65 (xgi_el e_v66) ?_
  clear e_v66
  replace hf := mx_sv_el hf; obtain ⟨v67, e_v67, hf⟩ := hf
  refine sx_ald hm dX10_closeSign_28 e_v67 ?_
  clear e_v67
  refine mx_S.pu (pc2 := 30) (lv2 := [(2, .int v67), (1, .int v64), (0, .ref a0)]) (st2 := []) hm dX10_closeSign_29 rfl ?_
  refine mx_S.pu (pc2 := 31) (lv2 := [(2, .int v67), (1, .int v64), (0, .ref a0)]) (st2 := [.int v64]) hm dX10_closeSign_30 rfl ?_
  refine sx_bi (v := 67) hm dX10_closeSign_31 (by decide) ?_
  rcases mx_if_el hf with ⟨c79, hf⟩ | ⟨c79, hf⟩
  · refine sb_ic_eq hm dX10_closeSign_33 (tgt := 42) rfl (fun _ => ?_) (fun z => absurd c79 z)
    refine mx_S.ext [(0, .ref a0), (1, .int v64)] (mx_sub_pos [2, 1] rfl (show ([2, 1, 0] : List Nat).Nodup by decide)) ?_
    exact j_X10_closeSign_42_ok X hF hL nn a0 v64 h61 hf
  · refine sb_ic_eq hm dX10_closeSign_33 (tgt := 42) rfl (fun z => absurd z c79) (fun _ => ?_)
    refine mx_S.pu (pc2 := 37) (lv2 := [(2, .int v67), (1, .int v64), (0, .ref a0)]) (st2 := [.int v64]) hm dX10_closeSign_36 rfl ?_
    refine sx_bi (v := 69) hm dX10_closeSign_37 (by decide) ?_
    rcases mx_if_el hf with ⟨c78, hf⟩ | ⟨c78, hf⟩
    · refine sb_ic_ne hm dX10_closeSign_39 (tgt := 59) rfl (fun _ => ?_) (fun z => absurd c78 z)
      refine mx_S.pu (pc2 := 60) (lv2 := [(2, .int v67), (1, .int v64), (0, .ref a0)]) (st2 := [.int v64]) hm dX10_closeSign_59 rfl ?_
      refine sx_bi (v := 52) hm dX10_closeSign_60 (by decide) ?_
      rcases mx_if_el hf with ⟨c77, hf⟩ | ⟨c77, hf⟩
      · refine sb_ic_eq hm dX10_closeSign_62 (tgt := 71) rfl (fun _ => ?_) (fun z => absurd c77 z)
        refine mx_S.ext [(0, .ref a0), (1, .int v64), (2, .int v67)] (mx_sub_pos [2, 1, 0] rfl (show ([2, 1, 0] : List Nat).Nodup by decide)) ?_
        exact j_X10_closeSign_71_ok X hF hL nn a0 v64 v67 h61 hf
      · refine sb_ic_eq hm dX10_closeSign_62 (tgt := 71) rfl (fun z => absurd z c77) (fun _ => ?_)
        refine mx_S.pu (pc2 := 66) (lv2 := [(2, .int v67), (1, .int v64), (0, .ref a0)]) (st2 := [.int v64]) hm dX10_closeSign_65 rfl ?_
        refine sx_bi (v := 53) hm dX10_closeSign_66 (by decide) ?_
        rcases mx_if_el hf with ⟨c76, hf⟩ | ⟨c76, hf⟩
        · refine sb_ic_ne hm dX10_closeSign_68 (tgt := 122) rfl (fun _ => ?_) (fun z => absurd c76 z)
          refine mx_S.pu (pc2 := 123) (lv2 := [(2, .int v67), (1, .int v64), (0, .ref a0)]) (st2 := [.int v64]) hm dX10_closeSign_122 rfl ?_
          replace hf := mx_sv_el hf; obtain ⟨u68, e_u68, hf⟩ := hf
          refine sx_cs hm dX10_closeSign_123 rs_RX10_97 mt_X9_level [.int v64] [] rfl rfl (Nat.le_of_ble_eq_true rfl) (Nat.le_of_ble_eq_true rfl) (by omega) (by omega) (f_X9_level_ok X (by omega) (by omega) nn v64 h61 e_u68) ?_
          clear e_u68
          show mx_S X F L 280 126 [(2, .int v67), (1, .int v64), (0, .ref a0)] [.int u68.1] u68.2 0 0 (none, r, 0, 0)
          refine sx_bi (v := 7) hm dX10_closeSign_126 (by decide) ?_
          rcases mx_if_el hf with ⟨c75, hf⟩ | ⟨c75, hf⟩
          · refine sb_ic_ne hm dX10_closeSign_128 (tgt := 189) rfl (fun _ => ?_) (fun z => absurd c75 z)
            refine mx_S.pu (pc2 := 190) (lv2 := [(2, .int v67), (1, .int v64), (0, .ref a0)]) (st2 := [.int v64]) hm dX10_closeSign_189 rfl ?_
            refine sx_bi (v := 66) hm dX10_closeSign_190 (by decide) ?_
            rcases mx_if_el hf with ⟨c71, hf⟩ | ⟨c71, hf⟩
            · refine sb_ic_eq hm dX10_closeSign_192 (tgt := 207) rfl (fun _ => ?_) (fun z => absurd c71 z)
              refine mx_S.ext [(0, .ref a0), (1, .int v64), (2, .int v67)] (mx_sub_pos [2, 1, 0] rfl (show ([2, 1, 0] : List Nat).Nodup by decide)) ?_
              exact j_X10_closeSign_207_ok X hF hL nn a0 v64 v67 u68.2 hf
            · refine sb_ic_eq hm dX10_closeSign_192 (tgt := 207) rfl (fun z => absurd z c71) (fun _ => ?_)
              refine mx_S.pu (pc2 := 196) (lv2 := [(2, .int v67), (1, .int v64), (0, .ref a0)]) (st2 := [.int v64]) hm dX10_closeSign_195 rfl ?_
              refine sx_bi (v := 68) hm dX10_closeSign_196 (by decide) ?_
              rcases mx_if_el hf with ⟨c70, hf⟩ | ⟨c70, hf⟩
              · refine sb_ic_eq hm dX10_closeSign_198 (tgt := 207) rfl (fun _ => ?_) (fun z => absurd c70 z)
                refine mx_S.ext [(0, .ref a0), (1, .int v64), (2, .int v67)] (mx_sub_pos [2, 1, 0] rfl (show ([2, 1, 0] : List Nat).Nodup by decide)) ?_
                exact j_X10_closeSign_207_ok X hF hL nn a0 v64 v67 u68.2 hf
              · refine sb_ic_eq hm dX10_closeSign_198 (tgt := 207) rfl (fun z => absurd z c70) (fun _ => ?_)
                refine mx_S.pu (pc2 := 202) (lv2 := [(2, .int v67), (1, .int v64), (0, .ref a0)]) (st2 := [.int v64]) hm dX10_closeSign_201 rfl ?_
                refine sx_bi (v := 70) hm dX10_closeSign_202 (by decide) ?_
                rcases mx_if_el hf with ⟨c69, hf⟩ | ⟨c69, hf⟩
                · refine sb_ic_ne hm dX10_closeSign_204 (tgt := 211) rfl (fun _ => ?_) (fun z => absurd c69 z)
                  refine sx_ic (v := 0) hm dX10_closeSign_211 (by decide) ?_
                  refine mx_S.ext [(0, .ref a0), (1, .int v64), (2, .int v67)] (mx_sub_pos [2, 1, 0] rfl (show ([2, 1, 0] : List Nat).Nodup by decide)) ?_
                  exact j_X10_closeSign_212_ok X hF hL nn a0 v64 v67 0 u68.2 hf
                · refine sb_ic_ne hm dX10_closeSign_204 (tgt := 211) rfl (fun z => absurd z c69) (fun _ => ?_)
                  refine mx_S.ext [(0, .ref a0), (1, .int v64), (2, .int v67)] (mx_sub_pos [2, 1, 0] rfl (show ([2, 1, 0] : List Nat).Nodup by decide)) ?_
                  exact j_X10_closeSign_207_ok X hF hL nn a0 v64 v67 u68.2 hf
          · refine sb_ic_ne hm dX10_closeSign_128 (tgt := 189) rfl (fun z => absurd z c75) (fun _ => ?_)
            refine mx_S.pu (pc2 := 132) (lv2 := [(2, .int v67), (1, .int v64), (0, .ref a0)]) (st2 := [.ref a0]) hm dX10_closeSign_131 rfl ?_
            refine mx_S.pu (pc2 := 133) (lv2 := [(2, .int v67), (1, .int v64), (0, .ref a0)]) (st2 := [.int v67, .ref a0]) hm dX10_closeSign_132 rfl ?_
            refine sx_si (v := 301) hm dX10_closeSign_133 (by decide) ?_
            rcases mx_if_el hf with ⟨c74, hf⟩ | ⟨c74, hf⟩
            · refine sb_ic_ne hm dX10_closeSign_136 (tgt := 153) rfl (fun _ => ?_) (fun z => absurd c74 z)
              refine mx_S.ext [(0, .ref a0), (1, .int v64)] (mx_sub_pos [2, 1] rfl (show ([2, 1, 0] : List Nat).Nodup by decide)) ?_
              exact j_X10_closeSign_153_ok X hF hL nn a0 v64 a0 u68.2 hf
            · refine sb_ic_ne hm dX10_closeSign_136 (tgt := 153) rfl (fun z => absurd z c74) (fun _ => ?_)
              refine mx_S.pu (pc2 := 140) (lv2 := [(2, .int v67), (1, .int v64), (0, .ref a0)]) (st2 := [.ref a0, .ref a0]) hm dX10_closeSign_139 rfl ?_
              replace hf := mx_sv_el hf; obtain ⟨v72, e_v72, hf⟩ := hf
              refine sx_get hm dX10_closeSign_140 rs_RX10_75 (xgi_el e_v72) ?_
              clear e_v72
              refine sx_si (v := 301) hm dX10_closeSign_143 (by decide) ?_
              rcases mx_if_el hf with ⟨c73, hf⟩ | ⟨c73, hf⟩
              · refine sb_ic_ne hm dX10_closeSign_146 (tgt := 153) rfl (fun _ => ?_) (fun z => absurd c73 z)
                refine mx_S.ext [(0, .ref a0), (1, .int v64)] (mx_sub_pos [2, 1] rfl (show ([2, 1, 0] : List Nat).Nodup by decide)) ?_
                exact j_X10_closeSign_153_ok X hF hL nn a0 v64 a0 u68.2 hf
              · refine sb_ic_ne hm dX10_closeSign_146 (tgt := 153) rfl (fun z => absurd z c73) (fun _ => ?_)
                refine sx_ic (v := 1) hm dX10_closeSign_149 (by decide) ?_
                refine mx_S.pu (pc2 := 154) (lv2 := [(2, .int v67), (1, .int v64), (0, .ref a0)]) (st2 := [.int 1, .ref a0]) hm dX10_closeSign_150 rfl ?_
                refine mx_S.ext [(0, .ref a0), (1, .int v64)] (mx_sub_pos [2, 1] rfl (show ([2, 1, 0] : List Nat).Nodup by decide)) ?_
                exact j_X10_closeSign_154_ok X hF hL nn a0 v64 1 a0 u68.2 hf
        · refine sb_ic_ne hm dX10_closeSign_68 (tgt := 122) rfl (fun z => absurd z c76) (fun _ => ?_)
          refine mx_S.ext [(0, .ref a0), (1, .int v64), (2, .int v67)] (mx_sub_pos [2, 1, 0] rfl (show ([2, 1, 0] : List Nat).Nodup by decide)) ?_
          exact j_X10_closeSign_71_ok X hF hL nn a0 v64 v67 h61 hf
    · refine sb_ic_ne hm dX10_closeSign_39 (tgt := 59) rfl (fun z => absurd z c78) (fun _ => ?_)
      refine mx_S.ext [(0, .ref a0), (1, .int v64)] (mx_sub_pos [2, 1] rfl (show ([2, 1, 0] : List Nat).Nodup by decide)) ?_
      exact j_X10_closeSign_42_ok X hF hL nn a0 v64 h61 hf
set_option maxHeartbeats 4000000 in
set_option maxRecDepth 20000 in
theorem f_X10_isSignDue_ok (X : Nat × (Nat → Int32)) {F L : Nat} (hF : 1 ≤ F) (hL : 20 ≤ L) (nn : Nat) (a0 : Nat) (a1 : Int32) (a2 : Int32) (h : mx_H) {r : (Int32 × mx_H)} (hf : f_X10_isSignDue nn a0 a1 a2 h = some r) : mx_R X F L 279 [.ref a0, .int a1, .int a2] h (some (.int r.1), r.2, 0, 0) := by
  have hm : mx_mt 279 = some (yX10_isSignDue, cX10_isSignDue, 3, (some .boolean)) := mt_X10_isSignDue
  show mx_S X F L 279 0 [(0, .ref a0), (1, .int a1), (2, .int a2)] [] h 0 0 (some (.int r.1), r.2, 0, 0)
  unfold f_X10_isSignDue at hf
  refine mx_S.pu (pc2 := 1) (lv2 := [(0, .ref a0), (1, .int a1), (2, .int a2)]) (st2 := [.ref a0]) hm dX10_isSignDue_0 rfl ?_
  replace hf := mx_sv_el hf; obtain ⟨v1, e_v1, hf⟩ := hf
  refine sx_get hm dX10_isSignDue_1 rs_RX10_65 (xgi_el e_v1) ?_
  clear e_v1
  refine mx_S.pu (pc2 := 5) (lv2 := [(0, .ref a0), (1, .int a1), (2, .int a2)]) (st2 := [.int a1, .int v1]) hm dX10_isSignDue_4 rfl ?_
  rcases mx_if_el hf with ⟨c8, hf⟩ | ⟨c8, hf⟩
  · refine sb_ic_le hm dX10_isSignDue_5 (tgt := 30) rfl (fun _ => ?_) (fun z => absurd c8 z)
    refine sx_ic (v := 0) hm dX10_isSignDue_30 (by decide) ?_
    cases hf
    exact sx_ire hm dX10_isSignDue_31 rfl (by decide)
  · refine sb_ic_le hm dX10_isSignDue_5 (tgt := 30) rfl (fun z => absurd z c8) (fun _ => ?_)
    refine mx_S.pu (pc2 := 9) (lv2 := [(0, .ref a0), (1, .int a1), (2, .int a2)]) (st2 := [.ref a0]) hm dX10_isSignDue_8 rfl ?_
    replace hf := mx_sv_el hf; obtain ⟨v2, e_v2, hf⟩ := hf
    refine sx_get hm dX10_isSignDue_9 rs_RX10_15 (xgr_el e_v2) ?_
    clear e_v2
    refine mx_S.pu (pc2 := 13) (lv2 := [(0, .ref a0), (1, .int a1), (2, .int a2)]) (st2 := [.ref a0, .ref v2]) hm dX10_isSignDue_12 rfl ?_
    replace hf := mx_sv_el hf; obtain ⟨v3, e_v3, hf⟩ := hf
    refine sx_get hm dX10_isSignDue_13 rs_RX10_65 (xgi_el e_v3) ?_
    clear e_v3
    refine sx_ic (v := 1) hm dX10_isSignDue_16 (by decide) ?_
    replace hf := xl_el hf; obtain ⟨v4, e_v4, hf⟩ := hf
    refine mx_S.pu (pc2 := 18) (lv2 := [(0, .ref a0), (1, .int a1), (2, .int a2)]) (st2 := [.int v4, .ref v2]) hm dX10_isSignDue_17 (by rw [← e_v4]; rfl) ?_
    clear e_v4
    replace hf := mx_sv_el hf; obtain ⟨v5, e_v5, hf⟩ := hf
    refine sx_ald hm dX10_isSignDue_18 e_v5 ?_
    clear e_v5
    replace hf := mx_sv_el hf; obtain ⟨u6, e_u6, hf⟩ := hf
    refine sx_cs hm dX10_isSignDue_19 rs_RX10_97 mt_X9_level [.int v5] [] rfl rfl (Nat.le_of_ble_eq_true rfl) (Nat.le_of_ble_eq_true rfl) (by omega) (by omega) (f_X9_level_ok X (by omega) (by omega) nn v5 h e_u6) ?_
    clear e_u6
    show mx_S X F L 279 22 [(0, .ref a0), (1, .int a1), (2, .int a2)] [.int u6.1] u6.2 0 0 (some (.int r.1), r.2, 0, 0)
    refine mx_S.pu (pc2 := 23) (lv2 := [(0, .ref a0), (1, .int a1), (2, .int a2)]) (st2 := [.int a2, .int u6.1]) hm dX10_isSignDue_22 rfl ?_
    rcases mx_if_el hf with ⟨c7, hf⟩ | ⟨c7, hf⟩
    · refine sb_ic_lt hm dX10_isSignDue_23 (tgt := 30) rfl (fun _ => ?_) (fun z => absurd c7 z)
      refine sx_ic (v := 0) hm dX10_isSignDue_30 (by decide) ?_
      cases hf
      exact sx_ire hm dX10_isSignDue_31 rfl (by decide)
    · refine sb_ic_lt hm dX10_isSignDue_23 (tgt := 30) rfl (fun z => absurd z c7) (fun _ => ?_)
      refine sx_ic (v := 1) hm dX10_isSignDue_26 (by decide) ?_
      refine mx_S.pu (pc2 := 31) (lv2 := [(0, .ref a0), (1, .int a1), (2, .int a2)]) (st2 := [.int 1]) hm dX10_isSignDue_27 rfl ?_
      cases hf
      exact sx_ire hm dX10_isSignDue_31 rfl (by decide)
set_option maxHeartbeats 4000000 in
set_option maxRecDepth 20000 in
theorem f_X9_kind_ok (X : Nat × (Nat → Int32)) {F L : Nat} (hF : 0 ≤ F) (hL : 0 ≤ L) (nn : Nat) (a0 : Nat) (h : mx_H) {r : (Int32 × mx_H)} (hf : f_X9_kind nn a0 h = some r) : mx_R X F L 249 [.ref a0] h (some (.int r.1), r.2, 0, 0) := by
  have hm : mx_mt 249 = some (yX9_kind, cX9_kind, 1, (some .int)) := mt_X9_kind
  show mx_S X F L 249 0 [(0, .ref a0)] [] h 0 0 (some (.int r.1), r.2, 0, 0)
  unfold f_X9_kind at hf
  refine mx_S.pu (pc2 := 1) (lv2 := [(0, .ref a0)]) (st2 := [.ref a0]) hm dX9_kind_0 rfl ?_
  replace hf := mx_sv_el hf; obtain ⟨v1, e_v1, hf⟩ := hf
  refine sx_get hm dX9_kind_1 rs_RX9_80 (xgi_el e_v1) ?_
  clear e_v1
  rcases mx_if_el hf with ⟨c10, hf⟩ | ⟨c10, hf⟩
  · refine sb_if_ne hm dX9_kind_4 (tgt := 37) rfl (fun _ => ?_) (fun z => absurd c10 z)
    refine sx_ic (v := 0) hm dX9_kind_37 (by decide) ?_
    cases hf
    exact sx_ire hm dX9_kind_38 rfl rfl
  · refine sb_if_ne hm dX9_kind_4 (tgt := 37) rfl (fun z => absurd z c10) (fun _ => ?_)
    refine mx_S.pu (pc2 := 8) (lv2 := [(0, .ref a0)]) (st2 := [.ref a0]) hm dX9_kind_7 rfl ?_
    replace hf := mx_sv_el hf; obtain ⟨v2, e_v2, hf⟩ := hf
    refine sx_get hm dX9_kind_8 rs_RX9_86 (xgi_el e_v2) ?_
    clear e_v2
    rcases mx_if_el hf with ⟨c9, hf⟩ | ⟨c9, hf⟩
    · refine sb_if_lt hm dX9_kind_11 (tgt := 37) rfl (fun _ => ?_) (fun z => absurd c9 z)
      refine sx_ic (v := 0) hm dX9_kind_37 (by decide) ?_
      cases hf
      exact sx_ire hm dX9_kind_38 rfl rfl
    · refine sb_if_lt hm dX9_kind_11 (tgt := 37) rfl (fun z => absurd z c9) (fun _ => ?_)
      refine mx_S.pu (pc2 := 15) (lv2 := [(0, .ref a0)]) (st2 := [.ref a0]) hm dX9_kind_14 rfl ?_
      replace hf := mx_sv_el hf; obtain ⟨v3, e_v3, hf⟩ := hf
      refine sx_get hm dX9_kind_15 rs_RX9_86 (xgi_el e_v3) ?_
      clear e_v3
      refine mx_S.pu (pc2 := 19) (lv2 := [(0, .ref a0)]) (st2 := [.ref a0, .int v3]) hm dX9_kind_18 rfl ?_
      replace hf := mx_sv_el hf; obtain ⟨v4, e_v4, hf⟩ := hf
      refine sx_get hm dX9_kind_19 rs_RX9_83 (xgi_el e_v4) ?_
      clear e_v4
      rcases mx_if_el hf with ⟨c8, hf⟩ | ⟨c8, hf⟩
      · refine sb_ic_ge hm dX9_kind_22 (tgt := 37) rfl (fun _ => ?_) (fun z => absurd c8 z)
        refine sx_ic (v := 0) hm dX9_kind_37 (by decide) ?_
        cases hf
        exact sx_ire hm dX9_kind_38 rfl rfl
      · refine sb_ic_ge hm dX9_kind_22 (tgt := 37) rfl (fun z => absurd z c8) (fun _ => ?_)
        refine mx_S.pu (pc2 := 26) (lv2 := [(0, .ref a0)]) (st2 := [.ref a0]) hm dX9_kind_25 rfl ?_
        replace hf := mx_sv_el hf; obtain ⟨v5, e_v5, hf⟩ := hf
        refine sx_get hm dX9_kind_26 rs_RX9_15 (xgr_el e_v5) ?_
        clear e_v5
        refine mx_S.pu (pc2 := 30) (lv2 := [(0, .ref a0)]) (st2 := [.ref a0, .ref v5]) hm dX9_kind_29 rfl ?_
        replace hf := mx_sv_el hf; obtain ⟨v6, e_v6, hf⟩ := hf
        refine sx_get hm dX9_kind_30 rs_RX9_86 (xgi_el e_v6) ?_
        clear e_v6
        replace hf := mx_sv_el hf; obtain ⟨v7, e_v7, hf⟩ := hf
        refine sx_ald hm dX9_kind_33 e_v7 ?_
        clear e_v7
        refine mx_S.pu (pc2 := 38) (lv2 := [(0, .ref a0)]) (st2 := [.int v7]) hm dX9_kind_34 rfl ?_
        cases hf
        exact sx_ire hm dX9_kind_38 rfl rfl
set_option maxHeartbeats 4000000 in
set_option maxRecDepth 20000 in
theorem j_X10_openSign_159_ok (X : Nat × (Nat → Int32)) {F L : Nat} (hF : 3 ≤ F) (hL : 104 ≤ L) (nn : Nat) (l0 : Nat) (h : mx_H) {r : mx_H} (hf : j_X10_openSign_159 nn l0 h = some r) : mx_S X F L 278 159 [(0, .ref l0)] [] h 0 0 (none, r, 0, 0) := by
  have hm : mx_mt 278 = some (yX10_openSign, cX10_openSign, 2, none) := mt_X10_openSign
  unfold j_X10_openSign_159 at hf
  refine mx_S.pu (pc2 := 160) (lv2 := [(0, .ref l0)]) (st2 := [.ref l0]) hm dX10_openSign_159 rfl ?_
  replace hf := mx_sv_el hf; obtain ⟨v1, e_v1, hf⟩ := hf
  refine sx_get hm dX10_openSign_160 rs_RX10_31 (xgr_el e_v1) ?_
  clear e_v1
  refine mx_S.pu (pc2 := 164) (lv2 := [(0, .ref l0)]) (st2 := [.ref v1, .ref v1]) hm dX10_openSign_163 rfl ?_
  replace hf := mx_sv_el hf; obtain ⟨v2, e_v2, hf⟩ := hf
  refine sx_get hm dX10_openSign_164 rs_RX10_72 (xgi_el e_v2) ?_
  clear e_v2
  refine sx_ic (v := 1) hm dX10_openSign_167 (by decide) ?_
  replace hf := xl_el hf; obtain ⟨v3, e_v3, hf⟩ := hf
  refine mx_S.pu (pc2 := 169) (lv2 := [(0, .ref l0)]) (st2 := [.int v3, .ref v1]) hm dX10_openSign_168 (by rw [← e_v3]; rfl) ?_
  clear e_v3
  replace hf := mx_sv_el hf; obtain ⟨h4, e_h4, hf⟩ := hf
  refine sx_put hm dX10_openSign_169 rs_RX10_72 ft_9_10 ⟨rfl, rfl⟩ (fun z => by cases z) e_h4 ?_
  clear e_h4
  cases hf
  exact sx_ret hm dX10_openSign_172 rfl
set_option maxHeartbeats 4000000 in
set_option maxRecDepth 20000 in
theorem j_X10_openSign_149_ok (X : Nat × (Nat → Int32)) {F L : Nat} (hF : 3 ≤ F) (hL : 104 ≤ L) (nn : Nat) (l0 : Nat) (h : mx_H) {r : mx_H} (hf : j_X10_openSign_149 nn l0 h = some r) : mx_S X F L 278 149 [(0, .ref l0)] [] h 0 0 (none, r, 0, 0) := by
  have hm : mx_mt 278 = some (yX10_openSign, cX10_openSign, 2, none) := mt_X10_openSign
  unfold j_X10_openSign_149 at hf
  refine mx_S.pu (pc2 := 150) (lv2 := [(0, .ref l0)]) (st2 := [.ref l0]) hm dX10_openSign_149 rfl ?_
  refine mx_S.pu (pc2 := 151) (lv2 := [(0, .ref l0)]) (st2 := [.ref l0, .ref l0]) hm dX10_openSign_150 rfl ?_
  replace hf := mx_sv_el hf; obtain ⟨v5, e_v5, hf⟩ := hf
  refine sx_get hm dX10_openSign_151 rs_RX10_65 (xgi_el e_v5) ?_
  clear e_v5
  refine sx_ic (v := 1) hm dX10_openSign_154 (by decide) ?_
  replace hf := xl_el hf; obtain ⟨v6, e_v6, hf⟩ := hf
  refine mx_S.pu (pc2 := 156) (lv2 := [(0, .ref l0)]) (st2 := [.int v6, .ref l0]) hm dX10_openSign_155 (by rw [← e_v6]; rfl) ?_
  clear e_v6
  replace hf := mx_sv_el hf; obtain ⟨h7, e_h7, hf⟩ := hf
  refine sx_put hm dX10_openSign_156 rs_RX10_65 ft_10_10 ⟨rfl, rfl⟩ (fun z => by cases z) e_h7 ?_
  clear e_h7
  exact j_X10_openSign_159_ok X hF hL nn l0 h7 hf
set_option maxHeartbeats 4000000 in
set_option maxRecDepth 20000 in
theorem j_X10_openSign_144_ok (X : Nat × (Nat → Int32)) {F L : Nat} (hF : 3 ≤ F) (hL : 104 ≤ L) (nn : Nat) (l0 : Nat) (s0 : Int32) (s1 : Nat) (s2 : Int32) (s3 : Nat) (h : mx_H) {r : mx_H} (hf : j_X10_openSign_144 nn l0 s0 s1 s2 s3 h = some r) : mx_S X F L 278 144 [(0, .ref l0)] [.int s0, .ref s1, .int s2, .ref s3] h 0 0 (none, r, 0, 0) := by
  have hm : mx_mt 278 = some (yX10_openSign, cX10_openSign, 2, none) := mt_X10_openSign
  unfold j_X10_openSign_144 at hf
  refine sx_ic (v := 1) hm dX10_openSign_144 (by decide) ?_
  replace hf := mx_gd_el hf; obtain ⟨c8, hf⟩ := hf
  replace hf := mx_sv_el hf; obtain ⟨u9, e_u9, hf⟩ := hf
  refine sx_cv hm dX10_openSign_145 rs_RX10_86 mt_X1_jump [.int s0, .int 1] [.int s2, .ref s3] (b := s1) (ci := 1) rfl rfl rfl c8 (Nat.le_of_ble_eq_true rfl) (Nat.le_of_ble_eq_true rfl) (by omega) (by omega) (f_X1_jump_ok X (by omega) (by omega) nn s1 s0 1 h e_u9) ?_
  clear e_u9
  show mx_S X F L 278 148 [(0, .ref l0)] [.int u9.1, .int s2, .ref s3] u9.2 0 0 (none, r, 0, 0)
  replace hf := mx_sv_el hf; obtain ⟨h10, e_h10, hf⟩ := hf
  refine sx_ast hm dX10_openSign_148 e_h10 ?_
  clear e_h10
  exact j_X10_openSign_149_ok X hF hL nn l0 h10 hf
set_option maxHeartbeats 4000000 in
set_option maxRecDepth 20000 in
theorem j_X10_openSign_110_ok (X : Nat × (Nat → Int32)) {F L : Nat} (hF : 3 ≤ F) (hL : 104 ≤ L) (nn : Nat) (l0 : Nat) (l1 : Int32) (s0 : Int32) (s1 : Nat) (h : mx_H) {r : mx_H} (hf : j_X10_openSign_110 nn l0 l1 s0 s1 h = some r) : mx_S X F L 278 110 [(0, .ref l0), (1, .int l1)] [.int s0, .ref s1] h 0 0 (none, r, 0, 0) := by
  have hm : mx_mt 278 = some (yX10_openSign, cX10_openSign, 2, none) := mt_X10_openSign
  unfold j_X10_openSign_110 at hf
  refine mx_S.pu (pc2 := 111) (lv2 := [(0, .ref l0), (1, .int l1)]) (st2 := [.ref l0, .int s0, .ref s1]) hm dX10_openSign_110 rfl ?_
  replace hf := mx_sv_el hf; obtain ⟨v11, e_v11, hf⟩ := hf
  refine sx_get hm dX10_openSign_111 rs_RX10_146 (xgi_el e_v11) ?_
  clear e_v11
  replace hf := mx_gd_el hf; obtain ⟨c12, hf⟩ := hf
  replace hf := mx_sv_el hf; obtain ⟨u13, e_u13, hf⟩ := hf
  refine sx_cv hm dX10_openSign_114 rs_RX10_80 mt_X10_wantType [.int s0, .int v11] [] (b := s1) (ci := 10) rfl rfl rfl c12 (Nat.le_of_ble_eq_true rfl) (Nat.le_of_ble_eq_true rfl) (by omega) (by omega) (f_X10_wantType_ok X (by omega) (by omega) nn s1 s0 v11 h e_u13) ?_
  clear e_u13
  show mx_S X F L 278 117 [(0, .ref l0), (1, .int l1)] [] u13 0 0 (none, r, 0, 0)
  refine mx_S.pu (pc2 := 118) (lv2 := [(0, .ref l0), (1, .int l1)]) (st2 := [.ref l0]) hm dX10_openSign_117 rfl ?_
  replace hf := mx_sv_el hf; obtain ⟨v14, e_v14, hf⟩ := hf
  refine sx_get hm dX10_openSign_118 rs_RX10_28 (xgr_el e_v14) ?_
  clear e_v14
  refine mx_S.pu (pc2 := 122) (lv2 := [(0, .ref l0), (1, .int l1)]) (st2 := [.ref l0, .ref v14]) hm dX10_openSign_121 rfl ?_
  replace hf := mx_sv_el hf; obtain ⟨v15, e_v15, hf⟩ := hf
  refine sx_get hm dX10_openSign_122 rs_RX10_65 (xgi_el e_v15) ?_
  clear e_v15
  refine mx_S.pu (pc2 := 126) (lv2 := [(0, .ref l0), (1, .int l1)]) (st2 := [.ref l0, .int v15, .ref v14]) hm dX10_openSign_125 rfl ?_
  replace hf := mx_sv_el hf; obtain ⟨v16, e_v16, hf⟩ := hf
  refine sx_get hm dX10_openSign_126 rs_RX10_46 (xgr_el e_v16) ?_
  clear e_v16
  refine mx_S.pu (pc2 := 130) (lv2 := [(0, .ref l0), (1, .int l1)]) (st2 := [.int l1, .ref v16, .int v15, .ref v14]) hm dX10_openSign_129 rfl ?_
  refine sx_bi (v := 67) hm dX10_openSign_130 (by decide) ?_
  rcases mx_if_el hf with ⟨c17, hf⟩ | ⟨c17, hf⟩
  · refine sb_ic_ne hm dX10_openSign_132 (tgt := 141) rfl (fun _ => ?_) (fun z => absurd c17 z)
    refine sx_si (v := 154) hm dX10_openSign_141 (by decide) ?_
    refine mx_S.ext [(0, .ref l0)] (mx_sub_pos [0] rfl (show ([0, 1] : List Nat).Nodup by decide)) ?_
    exact j_X10_openSign_144_ok X hF hL nn l0 154 v16 v15 v14 u13 hf
  · refine sb_ic_ne hm dX10_openSign_132 (tgt := 141) rfl (fun z => absurd z c17) (fun _ => ?_)
    refine sx_si (v := 153) hm dX10_openSign_135 (by decide) ?_
    refine mx_S.pu (pc2 := 144) (lv2 := [(0, .ref l0), (1, .int l1)]) (st2 := [.int 153, .ref v16, .int v15, .ref v14]) hm dX10_openSign_138 rfl ?_
    refine mx_S.ext [(0, .ref l0)] (mx_sub_pos [0] rfl (show ([0, 1] : List Nat).Nodup by decide)) ?_
    exact j_X10_openSign_144_ok X hF hL nn l0 153 v16 v15 v14 u13 hf
set_option maxHeartbeats 4000000 in
set_option maxRecDepth 20000 in
theorem j_X10_openSign_94_ok (X : Nat × (Nat → Int32)) {F L : Nat} (hF : 3 ≤ F) (hL : 104 ≤ L) (nn : Nat) (l0 : Nat) (l1 : Int32) (h : mx_H) {r : mx_H} (hf : j_X10_openSign_94 nn l0 l1 h = some r) : mx_S X F L 278 94 [(0, .ref l0), (1, .int l1)] [] h 0 0 (none, r, 0, 0) := by
  have hm : mx_mt 278 = some (yX10_openSign, cX10_openSign, 2, none) := mt_X10_openSign
  unfold j_X10_openSign_94 at hf
  refine mx_S.pu (pc2 := 95) (lv2 := [(0, .ref l0), (1, .int l1)]) (st2 := [.ref l0]) hm dX10_openSign_94 rfl ?_
  refine mx_S.pu (pc2 := 96) (lv2 := [(0, .ref l0), (1, .int l1)]) (st2 := [.ref l0, .ref l0]) hm dX10_openSign_95 rfl ?_
  replace hf := mx_sv_el hf; obtain ⟨v18, e_v18, hf⟩ := hf
  refine sx_get hm dX10_openSign_96 rs_RX10_75 (xgi_el e_v18) ?_
  clear e_v18
  refine sx_si (v := 302) hm dX10_openSign_99 (by decide) ?_
  rcases mx_if_el hf with ⟨c19, hf⟩ | ⟨c19, hf⟩
  · refine sb_ic_ne hm dX10_openSign_102 (tgt := 109) rfl (fun _ => ?_) (fun z => absurd c19 z)
    refine sx_ic (v := 0) hm dX10_openSign_109 (by decide) ?_
    exact j_X10_openSign_110_ok X hF hL nn l0 l1 0 l0 h hf
  · refine sb_ic_ne hm dX10_openSign_102 (tgt := 109) rfl (fun z => absurd z c19) (fun _ => ?_)
    refine sx_ic (v := 1) hm dX10_openSign_105 (by decide) ?_
    refine mx_S.pu (pc2 := 110) (lv2 := [(0, .ref l0), (1, .int l1)]) (st2 := [.int 1, .ref l0]) hm dX10_openSign_106 rfl ?_
    exact j_X10_openSign_110_ok X hF hL nn l0 l1 1 l0 h hf
set_option maxHeartbeats 4000000 in
set_option maxRecDepth 20000 in
theorem f_X10_openSign_ok (X : Nat × (Nat → Int32)) {F L : Nat} (hF : 3 ≤ F) (hL : 104 ≤ L) (nn : Nat) (a0 : Nat) (h : mx_H) {r : mx_H} (hf : f_X10_openSign nn a0 h = some r) : mx_R X F L 278 [.ref a0] h (none, r, 0, 0) := by
  have hm : mx_mt 278 = some (yX10_openSign, cX10_openSign, 2, none) := mt_X10_openSign
  show mx_S X F L 278 0 [(0, .ref a0)] [] h 0 0 (none, r, 0, 0)
  unfold f_X10_openSign at hf
  refine mx_S.pu (pc2 := 1) (lv2 := [(0, .ref a0)]) (st2 := [.ref a0]) hm dX10_openSign_0 rfl ?_
  replace hf := mx_sv_el hf; obtain ⟨v20, e_v20, hf⟩ := hf
  refine sx_get hm dX10_openSign_1 rs_RX10_31 (xgr_el e_v20) ?_
  clear e_v20
  replace hf := mx_gd_el hf; obtain ⟨c21, hf⟩ := hf
  replace hf := mx_sv_el hf; obtain ⟨u22, e_u22, hf⟩ := hf
  refine sx_cv hm dX10_openSign_4 rs_RX10_93 mt_X9_kind [] [] (b := v20) (ci := 9) rfl rfl rfl c21 (Nat.le_of_ble_eq_true rfl) (Nat.le_of_ble_eq_true rfl) (by omega) (by omega) (f_X9_kind_ok X (by omega) (by omega) nn v20 h e_u22) ?_
  clear e_u22
  show mx_S X F L 278 7 [(0, .ref a0)] [.int u22.1] u22.2 0 0 (none, r, 0, 0)
  refine mx_S.pu (pc2 := 8) (lv2 := [(1, .int u22.1), (0, .ref a0)]) (st2 := []) hm dX10_openSign_7 rfl ?_
  refine mx_S.pu (pc2 := 9) (lv2 := [(1, .int u22.1), (0, .ref a0)]) (st2 := [.ref a0]) hm dX10_openSign_8 rfl ?_
  replace hf := mx_sv_el hf; obtain ⟨v23, e_v23, hf⟩ := hf
  refine sx_get hm dX10_openSign_9 rs_RX10_65 (xgi_el e_v23) ?_
  clear e_v23
  refine mx_S.pu (pc2 := 13) (lv2 := [(1, .int u22.1), (0, .ref a0)]) (st2 := [.ref a0, .int v23]) hm dX10_openSign_12 rfl ?_
  replace hf := mx_sv_el hf; obtain ⟨v24, e_v24, hf⟩ := hf
  refine sx_get hm dX10_openSign_13 rs_RX10_15 (xgr_el e_v24) ?_
  clear e_v24
  replace hf := mx_sv_el hf; obtain ⟨v25, e_v25, hf⟩ := hf
  refine sx_len hm dX10_openSign_16 e_v25 ?_
  clear e_v25
  rcases mx_if_el hf with ⟨c47, hf⟩ | ⟨c47, hf⟩
  · refine sb_ic_ge hm dX10_openSign_17 (tgt := 159) rfl (fun _ => ?_) (fun z => absurd c47 z)
    refine mx_S.ext [(0, .ref a0)] (mx_sub_pos [1] rfl (show ([1, 0] : List Nat).Nodup by decide)) ?_
    exact j_X10_openSign_159_ok X hF hL nn a0 u22.2 hf
  · refine sb_ic_ge hm dX10_openSign_17 (tgt := 159) rfl (fun z => absurd z c47) (fun _ => ?_)
    refine mx_S.pu (pc2 := 21) (lv2 := [(1, .int u22.1), (0, .ref a0)]) (st2 := [.ref a0]) hm dX10_openSign_20 rfl ?_
    replace hf := mx_sv_el hf; obtain ⟨v26, e_v26, hf⟩ := hf
    refine sx_get hm dX10_openSign_21 rs_RX10_15 (xgr_el e_v26) ?_
    clear e_v26
    refine mx_S.pu (pc2 := 25) (lv2 := [(1, .int u22.1), (0, .ref a0)]) (st2 := [.ref a0, .ref v26]) hm dX10_openSign_24 rfl ?_
    replace hf := mx_sv_el hf; obtain ⟨v27, e_v27, hf⟩ := hf
    refine sx_get hm dX10_openSign_25 rs_RX10_65 (xgi_el e_v27) ?_
    clear e_v27
    refine mx_S.pu (pc2 := 29) (lv2 := [(1, .int u22.1), (0, .ref a0)]) (st2 := [.int u22.1, .int v27, .ref v26]) hm dX10_openSign_28 rfl ?_
    replace hf := mx_sv_el hf; obtain ⟨h28, e_h28, hf⟩ := hf
    refine sx_ast hm dX10_openSign_29 e_h28 ?_
    clear e_h28
    refine mx_S.pu (pc2 := 31) (lv2 := [(1, .int u22.1), (0, .ref a0)]) (st2 := [.ref a0]) hm dX10_openSign_30 rfl ?_
    replace hf := mx_sv_el hf; obtain ⟨v29, e_v29, hf⟩ := hf
    refine sx_get hm dX10_openSign_31 rs_RX10_19 (xgr_el e_v29) ?_
    clear e_v29
    refine mx_S.pu (pc2 := 35) (lv2 := [(1, .int u22.1), (0, .ref a0)]) (st2 := [.ref a0, .ref v29]) hm dX10_openSign_34 rfl ?_
    replace hf := mx_sv_el hf; obtain ⟨v30, e_v30, hf⟩ := hf
    refine sx_get hm dX10_openSign_35 rs_RX10_65 (xgi_el e_v30) ?_
    clear e_v30
    refine mx_S.pu (pc2 := 39) (lv2 := [(1, .int u22.1), (0, .ref a0)]) (st2 := [.ref a0, .int v30, .ref v29]) hm dX10_openSign_38 rfl ?_
    replace hf := mx_sv_el hf; obtain ⟨v31, e_v31, hf⟩ := hf
    refine sx_get hm dX10_openSign_39 rs_RX10_31 (xgr_el e_v31) ?_
    clear e_v31
    replace hf := mx_sv_el hf; obtain ⟨v32, e_v32, hf⟩ := hf
    refine sx_get hm dX10_openSign_42 rs_RX10_72 (xgi_el e_v32) ?_
    clear e_v32
    replace hf := mx_sv_el hf; obtain ⟨h33, e_h33, hf⟩ := hf
    refine sx_ast hm dX10_openSign_45 e_h33 ?_
    clear e_h33
    refine mx_S.pu (pc2 := 47) (lv2 := [(1, .int u22.1), (0, .ref a0)]) (st2 := [.ref a0]) hm dX10_openSign_46 rfl ?_
    replace hf := mx_sv_el hf; obtain ⟨v34, e_v34, hf⟩ := hf
    refine sx_get hm dX10_openSign_47 rs_RX10_22 (xgr_el e_v34) ?_
    clear e_v34
    refine mx_S.pu (pc2 := 51) (lv2 := [(1, .int u22.1), (0, .ref a0)]) (st2 := [.ref a0, .ref v34]) hm dX10_openSign_50 rfl ?_
    replace hf := mx_sv_el hf; obtain ⟨v35, e_v35, hf⟩ := hf
    refine sx_get hm dX10_openSign_51 rs_RX10_65 (xgi_el e_v35) ?_
    clear e_v35
    refine mx_S.pu (pc2 := 55) (lv2 := [(1, .int u22.1), (0, .ref a0)]) (st2 := [.ref a0, .int v35, .ref v34]) hm dX10_openSign_54 rfl ?_
    replace hf := mx_sv_el hf; obtain ⟨v36, e_v36, hf⟩ := hf
    refine sx_get hm dX10_openSign_55 rs_RX10_146 (xgi_el e_v36) ?_
    clear e_v36
    replace hf := mx_sv_el hf; obtain ⟨h37, e_h37, hf⟩ := hf
    refine sx_ast hm dX10_openSign_58 e_h37 ?_
    clear e_h37
    refine mx_S.pu (pc2 := 60) (lv2 := [(1, .int u22.1), (0, .ref a0)]) (st2 := [.ref a0]) hm dX10_openSign_59 rfl ?_
    replace hf := mx_sv_el hf; obtain ⟨v38, e_v38, hf⟩ := hf
    refine sx_get hm dX10_openSign_60 rs_RX10_25 (xgr_el e_v38) ?_
    clear e_v38
    refine mx_S.pu (pc2 := 64) (lv2 := [(1, .int u22.1), (0, .ref a0)]) (st2 := [.ref a0, .ref v38]) hm dX10_openSign_63 rfl ?_
    replace hf := mx_sv_el hf; obtain ⟨v39, e_v39, hf⟩ := hf
    refine sx_get hm dX10_openSign_64 rs_RX10_65 (xgi_el e_v39) ?_
    clear e_v39
    refine mx_S.pu (pc2 := 68) (lv2 := [(1, .int u22.1), (0, .ref a0)]) (st2 := [.ref a0, .int v39, .ref v38]) hm dX10_openSign_67 rfl ?_
    replace hf := mx_sv_el hf; obtain ⟨v40, e_v40, hf⟩ := hf
    refine sx_get hm dX10_openSign_68 rs_RX10_75 (xgi_el e_v40) ?_
    clear e_v40
    replace hf := mx_sv_el hf; obtain ⟨h41, e_h41, hf⟩ := hf
    refine sx_ast hm dX10_openSign_71 e_h41 ?_
    clear e_h41
    refine mx_S.pu (pc2 := 73) (lv2 := [(1, .int u22.1), (0, .ref a0)]) (st2 := [.ref a0]) hm dX10_openSign_72 rfl ?_
    replace hf := mx_sv_el hf; obtain ⟨v42, e_v42, hf⟩ := hf
    refine sx_get hm dX10_openSign_73 rs_RX10_28 (xgr_el e_v42) ?_
    clear e_v42
    refine mx_S.pu (pc2 := 77) (lv2 := [(1, .int u22.1), (0, .ref a0)]) (st2 := [.ref a0, .ref v42]) hm dX10_openSign_76 rfl ?_
    replace hf := mx_sv_el hf; obtain ⟨v43, e_v43, hf⟩ := hf
    refine sx_get hm dX10_openSign_77 rs_RX10_65 (xgi_el e_v43) ?_
    clear e_v43
    refine sx_ic (v := (-1)) hm dX10_openSign_80 (by decide) ?_
    replace hf := mx_sv_el hf; obtain ⟨h44, e_h44, hf⟩ := hf
    refine sx_ast hm dX10_openSign_81 e_h44 ?_
    clear e_h44
    refine mx_S.pu (pc2 := 83) (lv2 := [(1, .int u22.1), (0, .ref a0)]) (st2 := [.int u22.1]) hm dX10_openSign_82 rfl ?_
    refine sx_bi (v := 67) hm dX10_openSign_83 (by decide) ?_
    rcases mx_if_el hf with ⟨c46, hf⟩ | ⟨c46, hf⟩
    · refine sb_ic_eq hm dX10_openSign_85 (tgt := 94) rfl (fun _ => ?_) (fun z => absurd c46 z)
      refine mx_S.ext [(0, .ref a0), (1, .int u22.1)] (mx_sub_pos [1, 0] rfl (show ([1, 0] : List Nat).Nodup by decide)) ?_
      exact j_X10_openSign_94_ok X hF hL nn a0 u22.1 h44 hf
    · refine sb_ic_eq hm dX10_openSign_85 (tgt := 94) rfl (fun z => absurd z c46) (fun _ => ?_)
      refine mx_S.pu (pc2 := 89) (lv2 := [(1, .int u22.1), (0, .ref a0)]) (st2 := [.int u22.1]) hm dX10_openSign_88 rfl ?_
      refine sx_bi (v := 69) hm dX10_openSign_89 (by decide) ?_
      rcases mx_if_el hf with ⟨c45, hf⟩ | ⟨c45, hf⟩
      · refine sb_ic_ne hm dX10_openSign_91 (tgt := 149) rfl (fun _ => ?_) (fun z => absurd c45 z)
        refine mx_S.ext [(0, .ref a0)] (mx_sub_pos [1] rfl (show ([1, 0] : List Nat).Nodup by decide)) ?_
        exact j_X10_openSign_149_ok X hF hL nn a0 h44 hf
      · refine sb_ic_ne hm dX10_openSign_91 (tgt := 149) rfl (fun z => absurd z c45) (fun _ => ?_)
        refine mx_S.ext [(0, .ref a0), (1, .int u22.1)] (mx_sub_pos [1, 0] rfl (show ([1, 0] : List Nat).Nodup by decide)) ?_
        exact j_X10_openSign_94_ok X hF hL nn a0 u22.1 h44 hf
set_option maxHeartbeats 4000000 in
set_option maxRecDepth 20000 in
theorem f_X9_kindAt_ok (X : Nat × (Nat → Int32)) {F L : Nat} (hF : 0 ≤ F) (hL : 0 ≤ L) (nn : Nat) (a0 : Nat) (a1 : Int32) (h : mx_H) {r : (Int32 × mx_H)} (hf : f_X9_kindAt nn a0 a1 h = some r) : mx_R X F L 247 [.ref a0, .int a1] h (some (.int r.1), r.2, 0, 0) := by
  have hm : mx_mt 247 = some (yX9_kindAt, cX9_kindAt, 2, (some .int)) := mt_X9_kindAt
  show mx_S X F L 247 0 [(0, .ref a0), (1, .int a1)] [] h 0 0 (some (.int r.1), r.2, 0, 0)
  unfold f_X9_kindAt at hf
  refine mx_S.pu (pc2 := 1) (lv2 := [(0, .ref a0), (1, .int a1)]) (st2 := [.int a1]) hm dX9_kindAt_0 rfl ?_
  rcases mx_if_el hf with ⟨c5, hf⟩ | ⟨c5, hf⟩
  · refine sb_if_lt hm dX9_kindAt_1 (tgt := 21) rfl (fun _ => ?_) (fun z => absurd c5 z)
    refine sx_ic (v := 0) hm dX9_kindAt_21 (by decide) ?_
    cases hf
    exact sx_ire hm dX9_kindAt_22 rfl rfl
  · refine sb_if_lt hm dX9_kindAt_1 (tgt := 21) rfl (fun z => absurd z c5) (fun _ => ?_)
    refine mx_S.pu (pc2 := 5) (lv2 := [(0, .ref a0), (1, .int a1)]) (st2 := [.int a1]) hm dX9_kindAt_4 rfl ?_
    refine mx_S.pu (pc2 := 6) (lv2 := [(0, .ref a0), (1, .int a1)]) (st2 := [.ref a0, .int a1]) hm dX9_kindAt_5 rfl ?_
    replace hf := mx_sv_el hf; obtain ⟨v1, e_v1, hf⟩ := hf
    refine sx_get hm dX9_kindAt_6 rs_RX9_83 (xgi_el e_v1) ?_
    clear e_v1
    rcases mx_if_el hf with ⟨c4, hf⟩ | ⟨c4, hf⟩
    · refine sb_ic_ge hm dX9_kindAt_9 (tgt := 21) rfl (fun _ => ?_) (fun z => absurd c4 z)
      refine sx_ic (v := 0) hm dX9_kindAt_21 (by decide) ?_
      cases hf
      exact sx_ire hm dX9_kindAt_22 rfl rfl
    · refine sb_ic_ge hm dX9_kindAt_9 (tgt := 21) rfl (fun z => absurd z c4) (fun _ => ?_)
      refine mx_S.pu (pc2 := 13) (lv2 := [(0, .ref a0), (1, .int a1)]) (st2 := [.ref a0]) hm dX9_kindAt_12 rfl ?_
      replace hf := mx_sv_el hf; obtain ⟨v2, e_v2, hf⟩ := hf
      refine sx_get hm dX9_kindAt_13 rs_RX9_15 (xgr_el e_v2) ?_
      clear e_v2
      refine mx_S.pu (pc2 := 17) (lv2 := [(0, .ref a0), (1, .int a1)]) (st2 := [.int a1, .ref v2]) hm dX9_kindAt_16 rfl ?_
      replace hf := mx_sv_el hf; obtain ⟨v3, e_v3, hf⟩ := hf
      refine sx_ald hm dX9_kindAt_17 e_v3 ?_
      clear e_v3
      refine mx_S.pu (pc2 := 22) (lv2 := [(0, .ref a0), (1, .int a1)]) (st2 := [.int v3]) hm dX9_kindAt_18 rfl ?_
      cases hf
      exact sx_ire hm dX9_kindAt_22 rfl rfl
set_option maxHeartbeats 4000000 in
set_option maxRecDepth 20000 in
theorem f_X9_valueAt_ok (X : Nat × (Nat → Int32)) {F L : Nat} (hF : 0 ≤ F) (hL : 0 ≤ L) (nn : Nat) (a0 : Nat) (a1 : Int32) (h : mx_H) {r : (Int32 × mx_H)} (hf : f_X9_valueAt nn a0 a1 h = some r) : mx_R X F L 248 [.ref a0, .int a1] h (some (.int r.1), r.2, 0, 0) := by
  have hm : mx_mt 248 = some (yX9_valueAt, cX9_valueAt, 2, (some .int)) := mt_X9_valueAt
  show mx_S X F L 248 0 [(0, .ref a0), (1, .int a1)] [] h 0 0 (some (.int r.1), r.2, 0, 0)
  unfold f_X9_valueAt at hf
  refine mx_S.pu (pc2 := 1) (lv2 := [(0, .ref a0), (1, .int a1)]) (st2 := [.int a1]) hm dX9_valueAt_0 rfl ?_
  rcases mx_if_el hf with ⟨c5, hf⟩ | ⟨c5, hf⟩
  · refine sb_if_lt hm dX9_valueAt_1 (tgt := 21) rfl (fun _ => ?_) (fun z => absurd c5 z)
    refine sx_ic (v := 0) hm dX9_valueAt_21 (by decide) ?_
    cases hf
    exact sx_ire hm dX9_valueAt_22 rfl rfl
  · refine sb_if_lt hm dX9_valueAt_1 (tgt := 21) rfl (fun z => absurd z c5) (fun _ => ?_)
    refine mx_S.pu (pc2 := 5) (lv2 := [(0, .ref a0), (1, .int a1)]) (st2 := [.int a1]) hm dX9_valueAt_4 rfl ?_
    refine mx_S.pu (pc2 := 6) (lv2 := [(0, .ref a0), (1, .int a1)]) (st2 := [.ref a0, .int a1]) hm dX9_valueAt_5 rfl ?_
    replace hf := mx_sv_el hf; obtain ⟨v1, e_v1, hf⟩ := hf
    refine sx_get hm dX9_valueAt_6 rs_RX9_83 (xgi_el e_v1) ?_
    clear e_v1
    rcases mx_if_el hf with ⟨c4, hf⟩ | ⟨c4, hf⟩
    · refine sb_ic_ge hm dX9_valueAt_9 (tgt := 21) rfl (fun _ => ?_) (fun z => absurd c4 z)
      refine sx_ic (v := 0) hm dX9_valueAt_21 (by decide) ?_
      cases hf
      exact sx_ire hm dX9_valueAt_22 rfl rfl
    · refine sb_ic_ge hm dX9_valueAt_9 (tgt := 21) rfl (fun z => absurd z c4) (fun _ => ?_)
      refine mx_S.pu (pc2 := 13) (lv2 := [(0, .ref a0), (1, .int a1)]) (st2 := [.ref a0]) hm dX9_valueAt_12 rfl ?_
      replace hf := mx_sv_el hf; obtain ⟨v2, e_v2, hf⟩ := hf
      refine sx_get hm dX9_valueAt_13 rs_RX9_22 (xgr_el e_v2) ?_
      clear e_v2
      refine mx_S.pu (pc2 := 17) (lv2 := [(0, .ref a0), (1, .int a1)]) (st2 := [.int a1, .ref v2]) hm dX9_valueAt_16 rfl ?_
      replace hf := mx_sv_el hf; obtain ⟨v3, e_v3, hf⟩ := hf
      refine sx_ald hm dX9_valueAt_17 e_v3 ?_
      clear e_v3
      refine mx_S.pu (pc2 := 22) (lv2 := [(0, .ref a0), (1, .int a1)]) (st2 := [.int v3]) hm dX9_valueAt_18 rfl ?_
      cases hf
      exact sx_ire hm dX9_valueAt_22 rfl rfl
set_option maxHeartbeats 4000000 in
set_option maxRecDepth 20000 in
theorem f_X2_classAt_ok (X : Nat × (Nat → Int32)) {F L : Nat} (hF : 1 ≤ F) (hL : 21 ≤ L) (nn : Nat) (a0 : Nat) (a1 : Int32) (h : mx_H) {r : (Int32 × mx_H)} (hf : f_X2_classAt nn a0 a1 h = some r) : mx_R X F L 58 [.ref a0, .int a1] h (some (.int r.1), r.2, 0, 0) := by
  have hm : mx_mt 58 = some (yX2_classAt, cX2_classAt, 3, (some .int)) := mt_X2_classAt
  show mx_S X F L 58 0 [(0, .ref a0), (1, .int a1)] [] h 0 0 (some (.int r.1), r.2, 0, 0)
  unfold f_X2_classAt at hf
  refine mx_S.pu (pc2 := 1) (lv2 := [(0, .ref a0), (1, .int a1)]) (st2 := [.ref a0]) hm dX2_classAt_0 rfl ?_
  replace hf := mx_sv_el hf; obtain ⟨v1, e_v1, hf⟩ := hf
  refine sx_get hm dX2_classAt_1 rs_RX2_74 (xgr_el e_v1) ?_
  clear e_v1
  refine mx_S.pu (pc2 := 5) (lv2 := [(0, .ref a0), (1, .int a1)]) (st2 := [.int a1, .ref v1]) hm dX2_classAt_4 rfl ?_
  replace hf := mx_gd_el hf; obtain ⟨c2, hf⟩ := hf
  replace hf := mx_sv_el hf; obtain ⟨u3, e_u3, hf⟩ := hf
  refine sx_cv hm dX2_classAt_5 rs_RX2_135 mt_X9_valueAt [.int a1] [] (b := v1) (ci := 9) rfl rfl rfl c2 (Nat.le_of_ble_eq_true rfl) (Nat.le_of_ble_eq_true rfl) (by omega) (by omega) (f_X9_valueAt_ok X (by omega) (by omega) nn v1 a1 h e_u3) ?_
  clear e_u3
  show mx_S X F L 58 8 [(0, .ref a0), (1, .int a1)] [.int u3.1] u3.2 0 0 (some (.int r.1), r.2, 0, 0)
  refine mx_S.pu (pc2 := 9) (lv2 := [(2, .int u3.1), (0, .ref a0), (1, .int a1)]) (st2 := []) hm dX2_classAt_8 rfl ?_
  refine mx_S.pu (pc2 := 10) (lv2 := [(2, .int u3.1), (0, .ref a0), (1, .int a1)]) (st2 := [.ref a0]) hm dX2_classAt_9 rfl ?_
  replace hf := mx_sv_el hf; obtain ⟨v4, e_v4, hf⟩ := hf
  refine sx_get hm dX2_classAt_10 rs_RX2_74 (xgr_el e_v4) ?_
  clear e_v4
  refine mx_S.pu (pc2 := 14) (lv2 := [(2, .int u3.1), (0, .ref a0), (1, .int a1)]) (st2 := [.int a1, .ref v4]) hm dX2_classAt_13 rfl ?_
  replace hf := mx_gd_el hf; obtain ⟨c5, hf⟩ := hf
  replace hf := mx_sv_el hf; obtain ⟨u6, e_u6, hf⟩ := hf
  refine sx_cv hm dX2_classAt_14 rs_RX2_115 mt_X9_kindAt [.int a1] [] (b := v4) (ci := 9) rfl rfl rfl c5 (Nat.le_of_ble_eq_true rfl) (Nat.le_of_ble_eq_true rfl) (by omega) (by omega) (f_X9_kindAt_ok X (by omega) (by omega) nn v4 a1 u3.2 e_u6) ?_
  clear e_u6
  show mx_S X F L 58 17 [(2, .int u3.1), (0, .ref a0), (1, .int a1)] [.int u6.1] u6.2 0 0 (some (.int r.1), r.2, 0, 0)
  refine sx_ic (v := 2) hm dX2_classAt_17 (by decide) ?_
  rcases mx_if_el hf with ⟨c12, hf⟩ | ⟨c12, hf⟩
  · refine sb_ic_ne hm dX2_classAt_18 (tgt := 39) rfl (fun _ => ?_) (fun z => absurd c12 z)
    refine sx_ic (v := (-1)) hm dX2_classAt_39 (by decide) ?_
    cases hf
    exact sx_ire hm dX2_classAt_40 rfl rfl
  · refine sb_ic_ne hm dX2_classAt_18 (tgt := 39) rfl (fun z => absurd z c12) (fun _ => ?_)
    refine mx_S.pu (pc2 := 22) (lv2 := [(2, .int u3.1), (0, .ref a0), (1, .int a1)]) (st2 := [.int u3.1]) hm dX2_classAt_21 rfl ?_
    refine mx_S.pu (pc2 := 23) (lv2 := [(2, .int u3.1), (0, .ref a0), (1, .int a1)]) (st2 := [.ref a0, .int u3.1]) hm dX2_classAt_22 rfl ?_
    replace hf := mx_sv_el hf; obtain ⟨v7, e_v7, hf⟩ := hf
    refine sx_get hm dX2_classAt_23 rs_RX2_24 (xgr_el e_v7) ?_
    clear e_v7
    replace hf := mx_sv_el hf; obtain ⟨v8, e_v8, hf⟩ := hf
    refine sx_len hm dX2_classAt_26 e_v8 ?_
    clear e_v8
    rcases mx_if_el hf with ⟨c11, hf⟩ | ⟨c11, hf⟩
    · refine sb_ic_ge hm dX2_classAt_27 (tgt := 39) rfl (fun _ => ?_) (fun z => absurd c11 z)
      refine sx_ic (v := (-1)) hm dX2_classAt_39 (by decide) ?_
      cases hf
      exact sx_ire hm dX2_classAt_40 rfl rfl
    · refine sb_ic_ge hm dX2_classAt_27 (tgt := 39) rfl (fun z => absurd z c11) (fun _ => ?_)
      refine mx_S.pu (pc2 := 31) (lv2 := [(2, .int u3.1), (0, .ref a0), (1, .int a1)]) (st2 := [.ref a0]) hm dX2_classAt_30 rfl ?_
      replace hf := mx_sv_el hf; obtain ⟨v9, e_v9, hf⟩ := hf
      refine sx_get hm dX2_classAt_31 rs_RX2_24 (xgr_el e_v9) ?_
      clear e_v9
      refine mx_S.pu (pc2 := 35) (lv2 := [(2, .int u3.1), (0, .ref a0), (1, .int a1)]) (st2 := [.int u3.1, .ref v9]) hm dX2_classAt_34 rfl ?_
      replace hf := mx_sv_el hf; obtain ⟨v10, e_v10, hf⟩ := hf
      refine sx_ald hm dX2_classAt_35 e_v10 ?_
      clear e_v10
      refine mx_S.pu (pc2 := 40) (lv2 := [(2, .int u3.1), (0, .ref a0), (1, .int a1)]) (st2 := [.int v10]) hm dX2_classAt_36 rfl ?_
      cases hf
      exact sx_ire hm dX2_classAt_40 rfl rfl
set_option maxHeartbeats 4000000 in
set_option maxRecDepth 20000 in
theorem j_X10_readNamedClass_23_ok (X : Nat × (Nat → Int32)) {F L : Nat} (hF : 2 ≤ F) (hL : 43 ≤ L) (nn : Nat) (l0 : Nat) (l2 : Int32) (l3 : Int32) (h : mx_H) {r : (Int32 × mx_H)} (hf : j_X10_readNamedClass_23 nn l0 l2 l3 h = some r) : mx_S X F L 286 23 [(0, .ref l0), (2, .int l2), (3, .int l3)] [] h 0 0 (some (.int r.1), r.2, 0, 0) := by
  have hm : mx_mt 286 = some (yX10_readNamedClass, cX10_readNamedClass, 4, (some .int)) := mt_X10_readNamedClass
  unfold j_X10_readNamedClass_23 at hf
  refine mx_S.pu (pc2 := 24) (lv2 := [(0, .ref l0), (2, .int l2), (3, .int l3)]) (st2 := [.ref l0]) hm dX10_readNamedClass_23 rfl ?_
  replace hf := mx_sv_el hf; obtain ⟨v1, e_v1, hf⟩ := hf
  refine sx_get hm dX10_readNamedClass_24 rs_RX10_31 (xgr_el e_v1) ?_
  clear e_v1
  refine mx_S.pu (pc2 := 28) (lv2 := [(0, .ref l0), (2, .int l2), (3, .int l3)]) (st2 := [.int l2, .ref v1]) hm dX10_readNamedClass_27 rfl ?_
  replace hf := mx_sv_el hf; obtain ⟨h2, e_h2, hf⟩ := hf
  refine sx_put hm dX10_readNamedClass_28 rs_RX10_72 ft_9_10 ⟨rfl, rfl⟩ (fun z => by cases z) e_h2 ?_
  clear e_h2
  refine mx_S.pu (pc2 := 32) (lv2 := [(0, .ref l0), (2, .int l2), (3, .int l3)]) (st2 := [.int l3]) hm dX10_readNamedClass_31 rfl ?_
  cases hf
  exact sx_ire hm dX10_readNamedClass_32 rfl rfl
set_option maxHeartbeats 4000000 in
set_option maxRecDepth 20000 in
theorem f_X10_readNamedClass_ok (X : Nat × (Nat → Int32)) {F L : Nat} (hF : 2 ≤ F) (hL : 43 ≤ L) (nn : Nat) (a0 : Nat) (a1 : Int32) (a2 : Int32) (h : mx_H) {r : (Int32 × mx_H)} (hf : f_X10_readNamedClass nn a0 a1 a2 h = some r) : mx_R X F L 286 [.ref a0, .int a1, .int a2] h (some (.int r.1), r.2, 0, 0) := by
  have hm : mx_mt 286 = some (yX10_readNamedClass, cX10_readNamedClass, 4, (some .int)) := mt_X10_readNamedClass
  show mx_S X F L 286 0 [(0, .ref a0), (1, .int a1), (2, .int a2)] [] h 0 0 (some (.int r.1), r.2, 0, 0)
  unfold f_X10_readNamedClass at hf
  refine mx_S.pu (pc2 := 1) (lv2 := [(0, .ref a0), (1, .int a1), (2, .int a2)]) (st2 := [.ref a0]) hm dX10_readNamedClass_0 rfl ?_
  replace hf := mx_sv_el hf; obtain ⟨v3, e_v3, hf⟩ := hf
  refine sx_get hm dX10_readNamedClass_1 rs_RX10_35 (xgr_el e_v3) ?_
  clear e_v3
  refine mx_S.pu (pc2 := 5) (lv2 := [(0, .ref a0), (1, .int a1), (2, .int a2)]) (st2 := [.int a1, .ref v3]) hm dX10_readNamedClass_4 rfl ?_
  replace hf := mx_gd_el hf; obtain ⟨c4, hf⟩ := hf
  replace hf := mx_sv_el hf; obtain ⟨u5, e_u5, hf⟩ := hf
  refine sx_cv hm dX10_readNamedClass_5 rs_RX10_181 mt_X2_classAt [.int a1] [] (b := v3) (ci := 2) rfl rfl rfl c4 (Nat.le_of_ble_eq_true rfl) (Nat.le_of_ble_eq_true rfl) (by omega) (by omega) (f_X2_classAt_ok X (by omega) (by omega) nn v3 a1 h e_u5) ?_
  clear e_u5
  show mx_S X F L 286 8 [(0, .ref a0), (1, .int a1), (2, .int a2)] [.int u5.1] u5.2 0 0 (some (.int r.1), r.2, 0, 0)
  refine mx_S.pu (pc2 := 9) (lv2 := [(3, .int u5.1), (0, .ref a0), (1, .int a1), (2, .int a2)]) (st2 := []) hm dX10_readNamedClass_8 rfl ?_
  refine mx_S.pu (pc2 := 10) (lv2 := [(3, .int u5.1), (0, .ref a0), (1, .int a1), (2, .int a2)]) (st2 := [.int u5.1]) hm dX10_readNamedClass_9 rfl ?_
  refine sx_ic (v := (-1)) hm dX10_readNamedClass_10 (by decide) ?_
  rcases mx_if_el hf with ⟨c9, hf⟩ | ⟨c9, hf⟩
  · refine sb_ic_ne hm dX10_readNamedClass_11 (tgt := 23) rfl (fun _ => ?_) (fun z => absurd c9 z)
    refine mx_S.ext [(0, .ref a0), (2, .int a2), (3, .int u5.1)] (mx_sub_pos [1, 3, 0] rfl (show ([3, 0, 1, 2] : List Nat).Nodup by decide)) ?_
    exact j_X10_readNamedClass_23_ok X hF hL nn a0 a2 u5.1 u5.2 hf
  · refine sb_ic_ne hm dX10_readNamedClass_11 (tgt := 23) rfl (fun z => absurd z c9) (fun _ => ?_)
    refine mx_S.pu (pc2 := 15) (lv2 := [(3, .int u5.1), (0, .ref a0), (1, .int a1), (2, .int a2)]) (st2 := [.ref a0]) hm dX10_readNamedClass_14 rfl ?_
    replace hf := mx_sv_el hf; obtain ⟨v6, e_v6, hf⟩ := hf
    refine sx_get hm dX10_readNamedClass_15 rs_RX10_31 (xgr_el e_v6) ?_
    clear e_v6
    refine sx_ic (v := 5) hm dX10_readNamedClass_18 (by decide) ?_
    refine mx_S.pu (pc2 := 20) (lv2 := [(3, .int u5.1), (0, .ref a0), (1, .int a1), (2, .int a2)]) (st2 := [.int a1, .int 5, .ref v6]) hm dX10_readNamedClass_19 rfl ?_
    replace hf := mx_gd_el hf; obtain ⟨c7, hf⟩ := hf
    replace hf := mx_sv_el hf; obtain ⟨u8, e_u8, hf⟩ := hf
    refine sx_cv hm dX10_readNamedClass_20 rs_RX10_165 mt_X9_tell [.int 5, .int a1] [] (b := v6) (ci := 9) rfl rfl rfl c7 (Nat.le_of_ble_eq_true rfl) (Nat.le_of_ble_eq_true rfl) (by omega) (by omega) (f_X9_tell_ok X (by omega) (by omega) nn v6 5 a1 u5.2 e_u8) ?_
    clear e_u8
    show mx_S X F L 286 23 [(3, .int u5.1), (0, .ref a0), (1, .int a1), (2, .int a2)] [] u8 0 0 (some (.int r.1), r.2, 0, 0)
    refine mx_S.ext [(0, .ref a0), (2, .int a2), (3, .int u5.1)] (mx_sub_pos [1, 3, 0] rfl (show ([3, 0, 1, 2] : List Nat).Nodup by decide)) ?_
    exact j_X10_readNamedClass_23_ok X hF hL nn a0 a2 u5.1 u8 hf
set_option maxHeartbeats 4000000 in
set_option maxRecDepth 20000 in
theorem j_X10_wantKinOf_30_ok (X : Nat × (Nat → Int32)) {F L : Nat} (hF : 2 ≤ F) (hL : 45 ≤ L) (nn : Nat) (l2 : Int32) (s0 : Nat) (h : mx_H) {r : mx_H} (hf : j_X10_wantKinOf_30 nn l2 s0 h = some r) : mx_S X F L 287 30 [(2, .int l2)] [.ref s0] h 0 0 (none, r, 0, 0) := by
  have hm : mx_mt 287 = some (yX10_wantKinOf, cX10_wantKinOf, 3, none) := mt_X10_wantKinOf
  unfold j_X10_wantKinOf_30 at hf
  refine sx_ic (v := 0) hm dX10_wantKinOf_30 (by decide) ?_
  refine mx_S.pu (pc2 := 32) (lv2 := [(2, .int l2)]) (st2 := [.int l2, .int 0, .ref s0]) hm dX10_wantKinOf_31 rfl ?_
  replace hf := mx_gd_el hf; obtain ⟨c1, hf⟩ := hf
  replace hf := mx_sv_el hf; obtain ⟨u2, e_u2, hf⟩ := hf
  refine sx_cv hm dX10_wantKinOf_32 rs_RX10_80 mt_X10_wantType [.int 0, .int l2] [] (b := s0) (ci := 10) rfl rfl rfl c1 (Nat.le_of_ble_eq_true rfl) (Nat.le_of_ble_eq_true rfl) (by omega) (by omega) (f_X10_wantType_ok X (by omega) (by omega) nn s0 0 l2 h e_u2) ?_
  clear e_u2
  show mx_S X F L 287 35 [(2, .int l2)] [] u2 0 0 (none, r, 0, 0)
  cases hf
  exact sx_ret hm dX10_wantKinOf_35 rfl
set_option maxHeartbeats 4000000 in
set_option maxRecDepth 20000 in
theorem f_X10_wantKinOf_ok (X : Nat × (Nat → Int32)) {F L : Nat} (hF : 2 ≤ F) (hL : 45 ≤ L) (nn : Nat) (a0 : Nat) (a1 : Int32) (a2 : Int32) (h : mx_H) {r : mx_H} (hf : f_X10_wantKinOf nn a0 a1 a2 h = some r) : mx_R X F L 287 [.ref a0, .int a1, .int a2] h (none, r, 0, 0) := by
  have hm : mx_mt 287 = some (yX10_wantKinOf, cX10_wantKinOf, 3, none) := mt_X10_wantKinOf
  show mx_S X F L 287 0 [(0, .ref a0), (1, .int a1), (2, .int a2)] [] h 0 0 (none, r, 0, 0)
  unfold f_X10_wantKinOf at hf
  refine mx_S.pu (pc2 := 1) (lv2 := [(0, .ref a0), (1, .int a1), (2, .int a2)]) (st2 := [.ref a0]) hm dX10_wantKinOf_0 rfl ?_
  refine mx_S.pu (pc2 := 2) (lv2 := [(0, .ref a0), (1, .int a1), (2, .int a2)]) (st2 := [.ref a0, .ref a0]) hm dX10_wantKinOf_1 rfl ?_
  replace hf := mx_sv_el hf; obtain ⟨v3, e_v3, hf⟩ := hf
  refine sx_get hm dX10_wantKinOf_2 rs_RX10_75 (xgi_el e_v3) ?_
  clear e_v3
  replace hf := mx_sv_el hf; obtain ⟨u4, e_u4, hf⟩ := hf
  refine sx_cs hm dX10_wantKinOf_5 rs_RX10_136 mt_X4_isReference [.int v3] [.ref a0] rfl rfl (Nat.le_of_ble_eq_true rfl) (Nat.le_of_ble_eq_true rfl) (by omega) (by omega) (f_X4_isReference_ok X (by omega) (by omega) nn v3 h e_u4) ?_
  clear e_u4
  show mx_S X F L 287 8 [(0, .ref a0), (1, .int a1), (2, .int a2)] [.int u4.1, .ref a0] u4.2 0 0 (none, r, 0, 0)
  rcases mx_if_el hf with ⟨c12, hf⟩ | ⟨c12, hf⟩
  · refine sb_if_eq hm dX10_wantKinOf_8 (tgt := 30) rfl (fun _ => ?_) (fun z => absurd c12 z)
    refine mx_S.ext [(2, .int a2)] (mx_sub_pos [2] rfl (show ([0, 1, 2] : List Nat).Nodup by decide)) ?_
    exact j_X10_wantKinOf_30_ok X hF hL nn a2 a0 u4.2 hf
  · refine sb_if_eq hm dX10_wantKinOf_8 (tgt := 30) rfl (fun z => absurd z c12) (fun _ => ?_)
    refine mx_S.pu (pc2 := 12) (lv2 := [(0, .ref a0), (1, .int a1), (2, .int a2)]) (st2 := [.ref a0, .ref a0]) hm dX10_wantKinOf_11 rfl ?_
    replace hf := mx_sv_el hf; obtain ⟨v5, e_v5, hf⟩ := hf
    refine sx_get hm dX10_wantKinOf_12 rs_RX10_45 (xgr_el e_v5) ?_
    clear e_v5
    refine mx_S.pu (pc2 := 16) (lv2 := [(0, .ref a0), (1, .int a1), (2, .int a2)]) (st2 := [.ref a0, .ref v5, .ref a0]) hm dX10_wantKinOf_15 rfl ?_
    replace hf := mx_sv_el hf; obtain ⟨v6, e_v6, hf⟩ := hf
    refine sx_get hm dX10_wantKinOf_16 rs_RX10_75 (xgi_el e_v6) ?_
    clear e_v6
    refine mx_S.pu (pc2 := 20) (lv2 := [(0, .ref a0), (1, .int a1), (2, .int a2)]) (st2 := [.int a1, .int v6, .ref v5, .ref a0]) hm dX10_wantKinOf_19 rfl ?_
    replace hf := mx_gd_el hf; obtain ⟨c7, hf⟩ := hf
    replace hf := mx_sv_el hf; obtain ⟨u8, e_u8, hf⟩ := hf
    refine sx_cv hm dX10_wantKinOf_20 rs_RX10_140 mt_X4_oneFits [.int v6, .int a1] [.ref a0] (b := v5) (ci := 4) rfl rfl rfl c7 (Nat.le_of_ble_eq_true rfl) (Nat.le_of_ble_eq_true rfl) (by omega) (by omega) (f_X4_oneFits_ok X (by omega) (by omega) nn v5 v6 a1 u4.2 e_u8) ?_
    clear e_u8
    show mx_S X F L 287 23 [(0, .ref a0), (1, .int a1), (2, .int a2)] [.int u8.1, .ref a0] u8.2 0 0 (none, r, 0, 0)
    rcases mx_if_el hf with ⟨c11, hf⟩ | ⟨c11, hf⟩
    · refine sb_if_eq hm dX10_wantKinOf_23 (tgt := 30) rfl (fun _ => ?_) (fun z => absurd c11 z)
      refine mx_S.ext [(2, .int a2)] (mx_sub_pos [2] rfl (show ([0, 1, 2] : List Nat).Nodup by decide)) ?_
      exact j_X10_wantKinOf_30_ok X hF hL nn a2 a0 u8.2 hf
    · refine sb_if_eq hm dX10_wantKinOf_23 (tgt := 30) rfl (fun z => absurd z c11) (fun _ => ?_)
      refine sx_ic (v := 1) hm dX10_wantKinOf_26 (by decide) ?_
      refine mx_S.pu (pc2 := 31) (lv2 := [(0, .ref a0), (1, .int a1), (2, .int a2)]) (st2 := [.int 1, .ref a0]) hm dX10_wantKinOf_27 rfl ?_
      refine mx_S.pu (pc2 := 32) (lv2 := [(0, .ref a0), (1, .int a1), (2, .int a2)]) (st2 := [.int a2, .int 1, .ref a0]) hm dX10_wantKinOf_31 rfl ?_
      replace hf := mx_gd_el hf; obtain ⟨c9, hf⟩ := hf
      replace hf := mx_sv_el hf; obtain ⟨u10, e_u10, hf⟩ := hf
      refine sx_cv hm dX10_wantKinOf_32 rs_RX10_80 mt_X10_wantType [.int 1, .int a2] [] (b := a0) (ci := 10) rfl rfl rfl c9 (Nat.le_of_ble_eq_true rfl) (Nat.le_of_ble_eq_true rfl) (by omega) (by omega) (f_X10_wantType_ok X (by omega) (by omega) nn a0 1 a2 u8.2 e_u10) ?_
      clear e_u10
      show mx_S X F L 287 35 [(0, .ref a0), (1, .int a1), (2, .int a2)] [] u10 0 0 (none, r, 0, 0)
      cases hf
      exact sx_ret hm dX10_wantKinOf_35 rfl

set_option maxHeartbeats 4000000 in
set_option maxRecDepth 20000 in
theorem j_X13_widthOf_742_ok (X : Nat × (Nat → Int32)) {F L : Nat} (hF : 0 ≤ F) (hL : 0 ≤ L) (nn : Nat) (h : mx_H) {r : (Int32 × mx_H)} (hf : j_X13_widthOf_742 nn h = some r) : mx_S X F L 540 742 [] [] h 0 0 (some (.int r.1), r.2, 0, 0) := by
  have hm : mx_mt 540 = some (yX13_widthOf, cX13_widthOf, 1, (some .int)) := mt_X13_widthOf
  unfold j_X13_widthOf_742 at hf
  refine sx_ic (v := 0) hm dX13_widthOf_742 (by decide) ?_
  cases hf
  exact sx_ire hm dX13_widthOf_743 rfl rfl
set_option maxHeartbeats 4000000 in
set_option maxRecDepth 20000 in
theorem j_X13_widthOf_740_ok (X : Nat × (Nat → Int32)) {F L : Nat} (hF : 0 ≤ F) (hL : 0 ≤ L) (nn : Nat) (h : mx_H) {r : (Int32 × mx_H)} (hf : j_X13_widthOf_740 nn h = some r) : mx_S X F L 540 740 [] [] h 0 0 (some (.int r.1), r.2, 0, 0) := by
  have hm : mx_mt 540 = some (yX13_widthOf, cX13_widthOf, 1, (some .int)) := mt_X13_widthOf
  unfold j_X13_widthOf_740 at hf
  refine sx_ic (v := 3) hm dX13_widthOf_740 (by decide) ?_
  cases hf
  exact sx_ire hm dX13_widthOf_741 rfl rfl
set_option maxHeartbeats 4000000 in
set_option maxRecDepth 20000 in
theorem j_X13_widthOf_738_ok (X : Nat × (Nat → Int32)) {F L : Nat} (hF : 0 ≤ F) (hL : 0 ≤ L) (nn : Nat) (h : mx_H) {r : (Int32 × mx_H)} (hf : j_X13_widthOf_738 nn h = some r) : mx_S X F L 540 738 [] [] h 0 0 (some (.int r.1), r.2, 0, 0) := by
  have hm : mx_mt 540 = some (yX13_widthOf, cX13_widthOf, 1, (some .int)) := mt_X13_widthOf
  unfold j_X13_widthOf_738 at hf
  refine sx_ic (v := 1) hm dX13_widthOf_738 (by decide) ?_
  cases hf
  exact sx_ire hm dX13_widthOf_739 rfl rfl
set_option maxHeartbeats 4000000 in
set_option maxRecDepth 20000 in
theorem j_X13_widthOf_736_ok (X : Nat × (Nat → Int32)) {F L : Nat} (hF : 0 ≤ F) (hL : 0 ≤ L) (nn : Nat) (h : mx_H) {r : (Int32 × mx_H)} (hf : j_X13_widthOf_736 nn h = some r) : mx_S X F L 540 736 [] [] h 0 0 (some (.int r.1), r.2, 0, 0) := by
  have hm : mx_mt 540 = some (yX13_widthOf, cX13_widthOf, 1, (some .int)) := mt_X13_widthOf
  unfold j_X13_widthOf_736 at hf
  refine sx_ic (v := 2) hm dX13_widthOf_736 (by decide) ?_
  cases hf
  exact sx_ire hm dX13_widthOf_737 rfl rfl
set_option maxHeartbeats 4000000 in
set_option maxRecDepth 20000 in
theorem f_X13_widthOf_ok (X : Nat × (Nat → Int32)) {F L : Nat} (hF : 0 ≤ F) (hL : 0 ≤ L) (nn : Nat) (a0 : Int32) (h : mx_H) {r : (Int32 × mx_H)} (hf : f_X13_widthOf nn a0 h = some r) : mx_R X F L 540 [.int a0] h (some (.int r.1), r.2, 0, 0) := by
  have hm : mx_mt 540 = some (yX13_widthOf, cX13_widthOf, 1, (some .int)) := mt_X13_widthOf
  show mx_S X F L 540 0 [(0, .int a0)] [] h 0 0 (some (.int r.1), r.2, 0, 0)
  unfold f_X13_widthOf at hf
  refine mx_S.pu (pc2 := 1) (lv2 := [(0, .int a0)]) (st2 := [.int a0]) hm dX13_widthOf_0 rfl ?_
  refine sx_bi (v := 8) hm dX13_widthOf_1 (by decide) ?_
  rcases mx_if_el hf with ⟨c1, hf⟩ | ⟨c1, hf⟩
  · refine sb_ic_gt hm dX13_widthOf_3 (tgt := 8) rfl (fun _ => ?_) (fun z => absurd c1 z)
    refine mx_S.pu (pc2 := 9) (lv2 := [(0, .int a0)]) (st2 := [.int a0]) hm dX13_widthOf_8 rfl ?_
    rcases mx_if_el hf with ⟨n_0, hf⟩ | ⟨n_0, hf⟩
    · refine sx_tin hm dX13_widthOf_9 (by rw [n_0]; decide) (by rw [n_0]; decide) (off := 727) (by rw [n_0]; rfl) (tgt := 736) rfl ?_
      clear n_0
      refine mx_S.ext [] (mx_sub_pos [] rfl (show ([0] : List Nat).Nodup by decide)) ?_
      exact j_X13_widthOf_736_ok X hF hL nn h hf
    · rcases mx_if_el hf with ⟨n_1, hf⟩ | ⟨n_1, hf⟩
      · refine sx_tin hm dX13_widthOf_9 (by rw [n_1]; decide) (by rw [n_1]; decide) (off := 727) (by rw [n_1]; rfl) (tgt := 736) rfl ?_
        clear n_0 n_1
        refine mx_S.ext [] (mx_sub_pos [] rfl (show ([0] : List Nat).Nodup by decide)) ?_
        exact j_X13_widthOf_736_ok X hF hL nn h hf
      · rcases mx_if_el hf with ⟨n_2, hf⟩ | ⟨n_2, hf⟩
        · refine sx_tin hm dX13_widthOf_9 (by rw [n_2]; decide) (by rw [n_2]; decide) (off := 727) (by rw [n_2]; rfl) (tgt := 736) rfl ?_
          clear n_0 n_1 n_2
          refine mx_S.ext [] (mx_sub_pos [] rfl (show ([0] : List Nat).Nodup by decide)) ?_
          exact j_X13_widthOf_736_ok X hF hL nn h hf
        · rcases mx_if_el hf with ⟨n_3, hf⟩ | ⟨n_3, hf⟩
          · refine sx_tin hm dX13_widthOf_9 (by rw [n_3]; decide) (by rw [n_3]; decide) (off := 727) (by rw [n_3]; rfl) (tgt := 736) rfl ?_
            clear n_0 n_1 n_2 n_3
            refine mx_S.ext [] (mx_sub_pos [] rfl (show ([0] : List Nat).Nodup by decide)) ?_
            exact j_X13_widthOf_736_ok X hF hL nn h hf
          · rcases mx_if_el hf with ⟨n_4, hf⟩ | ⟨n_4, hf⟩
            · refine sx_tin hm dX13_widthOf_9 (by rw [n_4]; decide) (by rw [n_4]; decide) (off := 729) (by rw [n_4]; rfl) (tgt := 738) rfl ?_
              clear n_0 n_1 n_2 n_3 n_4
              refine mx_S.ext [] (mx_sub_pos [] rfl (show ([0] : List Nat).Nodup by decide)) ?_
              exact j_X13_widthOf_738_ok X hF hL nn h hf
            · rcases mx_if_el hf with ⟨n_5, hf⟩ | ⟨n_5, hf⟩
              · refine sx_tin hm dX13_widthOf_9 (by rw [n_5]; decide) (by rw [n_5]; decide) (off := 729) (by rw [n_5]; rfl) (tgt := 738) rfl ?_
                clear n_0 n_1 n_2 n_3 n_4 n_5
                refine mx_S.ext [] (mx_sub_pos [] rfl (show ([0] : List Nat).Nodup by decide)) ?_
                exact j_X13_widthOf_738_ok X hF hL nn h hf
              · rcases mx_if_el hf with ⟨n_6, hf⟩ | ⟨n_6, hf⟩
                · refine sx_tin hm dX13_widthOf_9 (by rw [n_6]; decide) (by rw [n_6]; decide) (off := 727) (by rw [n_6]; rfl) (tgt := 736) rfl ?_
                  clear n_0 n_1 n_2 n_3 n_4 n_5 n_6
                  refine mx_S.ext [] (mx_sub_pos [] rfl (show ([0] : List Nat).Nodup by decide)) ?_
                  exact j_X13_widthOf_736_ok X hF hL nn h hf
                · rcases mx_if_el hf with ⟨n_7, hf⟩ | ⟨n_7, hf⟩
                  · refine sx_tin hm dX13_widthOf_9 (by rw [n_7]; decide) (by rw [n_7]; decide) (off := 727) (by rw [n_7]; rfl) (tgt := 736) rfl ?_
                    clear n_0 n_1 n_2 n_3 n_4 n_5 n_6 n_7
                    refine mx_S.ext [] (mx_sub_pos [] rfl (show ([0] : List Nat).Nodup by decide)) ?_
                    exact j_X13_widthOf_736_ok X hF hL nn h hf
                  · rcases mx_if_el hf with ⟨n_8, hf⟩ | ⟨n_8, hf⟩
                    · refine sx_tin hm dX13_widthOf_9 (by rw [n_8]; decide) (by rw [n_8]; decide) (off := 729) (by rw [n_8]; rfl) (tgt := 738) rfl ?_
                      clear n_0 n_1 n_2 n_3 n_4 n_5 n_6 n_7 n_8
                      refine mx_S.ext [] (mx_sub_pos [] rfl (show ([0] : List Nat).Nodup by decide)) ?_
                      exact j_X13_widthOf_738_ok X hF hL nn h hf
                    · rcases mx_if_el hf with ⟨n_9, hf⟩ | ⟨n_9, hf⟩
                      · refine sx_tin hm dX13_widthOf_9 (by rw [n_9]; decide) (by rw [n_9]; decide) (off := 729) (by rw [n_9]; rfl) (tgt := 738) rfl ?_
                        clear n_0 n_1 n_2 n_3 n_4 n_5 n_6 n_7 n_8 n_9
                        refine mx_S.ext [] (mx_sub_pos [] rfl (show ([0] : List Nat).Nodup by decide)) ?_
                        exact j_X13_widthOf_738_ok X hF hL nn h hf
                      · rcases mx_if_el hf with ⟨n_10, hf⟩ | ⟨n_10, hf⟩
                        · refine sx_tin hm dX13_widthOf_9 (by rw [n_10]; decide) (by rw [n_10]; decide) (off := 729) (by rw [n_10]; rfl) (tgt := 738) rfl ?_
                          clear n_0 n_1 n_2 n_3 n_4 n_5 n_6 n_7 n_8 n_9 n_10
                          refine mx_S.ext [] (mx_sub_pos [] rfl (show ([0] : List Nat).Nodup by decide)) ?_
                          exact j_X13_widthOf_738_ok X hF hL nn h hf
                        · rcases mx_if_el hf with ⟨n_11, hf⟩ | ⟨n_11, hf⟩
                          · refine sx_tin hm dX13_widthOf_9 (by rw [n_11]; decide) (by rw [n_11]; decide) (off := 729) (by rw [n_11]; rfl) (tgt := 738) rfl ?_
                            clear n_0 n_1 n_2 n_3 n_4 n_5 n_6 n_7 n_8 n_9 n_10 n_11
                            refine mx_S.ext [] (mx_sub_pos [] rfl (show ([0] : List Nat).Nodup by decide)) ?_
                            exact j_X13_widthOf_738_ok X hF hL nn h hf
                          · rcases mx_if_el hf with ⟨n_12, hf⟩ | ⟨n_12, hf⟩
                            · refine sx_tin hm dX13_widthOf_9 (by rw [n_12]; decide) (by rw [n_12]; decide) (off := 729) (by rw [n_12]; rfl) (tgt := 738) rfl ?_
                              clear n_0 n_1 n_2 n_3 n_4 n_5 n_6 n_7 n_8 n_9 n_10 n_11 n_12
                              refine mx_S.ext [] (mx_sub_pos [] rfl (show ([0] : List Nat).Nodup by decide)) ?_
                              exact j_X13_widthOf_738_ok X hF hL nn h hf
                            · rcases mx_if_el hf with ⟨n_13, hf⟩ | ⟨n_13, hf⟩
                              · refine sx_tin hm dX13_widthOf_9 (by rw [n_13]; decide) (by rw [n_13]; decide) (off := 729) (by rw [n_13]; rfl) (tgt := 738) rfl ?_
                                clear n_0 n_1 n_2 n_3 n_4 n_5 n_6 n_7 n_8 n_9 n_10 n_11 n_12 n_13
                                refine mx_S.ext [] (mx_sub_pos [] rfl (show ([0] : List Nat).Nodup by decide)) ?_
                                exact j_X13_widthOf_738_ok X hF hL nn h hf
                              · rcases mx_if_el hf with ⟨n_14, hf⟩ | ⟨n_14, hf⟩
                                · refine sx_tin hm dX13_widthOf_9 (by rw [n_14]; decide) (by rw [n_14]; decide) (off := 729) (by rw [n_14]; rfl) (tgt := 738) rfl ?_
                                  clear n_0 n_1 n_2 n_3 n_4 n_5 n_6 n_7 n_8 n_9 n_10 n_11 n_12 n_13 n_14
                                  refine mx_S.ext [] (mx_sub_pos [] rfl (show ([0] : List Nat).Nodup by decide)) ?_
                                  exact j_X13_widthOf_738_ok X hF hL nn h hf
                                · rcases mx_if_el hf with ⟨n_15, hf⟩ | ⟨n_15, hf⟩
                                  · refine sx_tin hm dX13_widthOf_9 (by rw [n_15]; decide) (by rw [n_15]; decide) (off := 729) (by rw [n_15]; rfl) (tgt := 738) rfl ?_
                                    clear n_0 n_1 n_2 n_3 n_4 n_5 n_6 n_7 n_8 n_9 n_10 n_11 n_12 n_13 n_14 n_15
                                    refine mx_S.ext [] (mx_sub_pos [] rfl (show ([0] : List Nat).Nodup by decide)) ?_
                                    exact j_X13_widthOf_738_ok X hF hL nn h hf
                                  · rcases mx_if_el hf with ⟨n_16, hf⟩ | ⟨n_16, hf⟩
                                    · refine sx_tin hm dX13_widthOf_9 (by rw [n_16]; decide) (by rw [n_16]; decide) (off := 729) (by rw [n_16]; rfl) (tgt := 738) rfl ?_
                                      clear n_0 n_1 n_2 n_3 n_4 n_5 n_6 n_7 n_8 n_9 n_10 n_11 n_12 n_13 n_14 n_15 n_16
                                      refine mx_S.ext [] (mx_sub_pos [] rfl (show ([0] : List Nat).Nodup by decide)) ?_
                                      exact j_X13_widthOf_738_ok X hF hL nn h hf
                                    · rcases mx_if_el hf with ⟨n_17, hf⟩ | ⟨n_17, hf⟩
                                      · refine sx_tin hm dX13_widthOf_9 (by rw [n_17]; decide) (by rw [n_17]; decide) (off := 729) (by rw [n_17]; rfl) (tgt := 738) rfl ?_
                                        clear n_0 n_1 n_2 n_3 n_4 n_5 n_6 n_7 n_8 n_9 n_10 n_11 n_12 n_13 n_14 n_15 n_16 n_17
                                        refine mx_S.ext [] (mx_sub_pos [] rfl (show ([0] : List Nat).Nodup by decide)) ?_
                                        exact j_X13_widthOf_738_ok X hF hL nn h hf
                                      · rcases mx_if_el hf with ⟨n_18, hf⟩ | ⟨n_18, hf⟩
                                        · refine sx_tin hm dX13_widthOf_9 (by rw [n_18]; decide) (by rw [n_18]; decide) (off := 729) (by rw [n_18]; rfl) (tgt := 738) rfl ?_
                                          clear n_0 n_1 n_2 n_3 n_4 n_5 n_6 n_7 n_8 n_9 n_10 n_11 n_12 n_13 n_14 n_15 n_16 n_17 n_18
                                          refine mx_S.ext [] (mx_sub_pos [] rfl (show ([0] : List Nat).Nodup by decide)) ?_
                                          exact j_X13_widthOf_738_ok X hF hL nn h hf
                                        · rcases mx_if_el hf with ⟨n_19, hf⟩ | ⟨n_19, hf⟩
                                          · refine sx_tin hm dX13_widthOf_9 (by rw [n_19]; decide) (by rw [n_19]; decide) (off := 729) (by rw [n_19]; rfl) (tgt := 738) rfl ?_
                                            clear n_0 n_1 n_2 n_3 n_4 n_5 n_6 n_7 n_8 n_9 n_10 n_11 n_12 n_13 n_14 n_15 n_16 n_17 n_18 n_19
                                            refine mx_S.ext [] (mx_sub_pos [] rfl (show ([0] : List Nat).Nodup by decide)) ?_
                                            exact j_X13_widthOf_738_ok X hF hL nn h hf
                                          · rcases mx_if_el hf with ⟨n_20, hf⟩ | ⟨n_20, hf⟩
                                            · refine sx_tin hm dX13_widthOf_9 (by rw [n_20]; decide) (by rw [n_20]; decide) (off := 729) (by rw [n_20]; rfl) (tgt := 738) rfl ?_
                                              clear n_0 n_1 n_2 n_3 n_4 n_5 n_6 n_7 n_8 n_9 n_10 n_11 n_12 n_13 n_14 n_15 n_16 n_17 n_18 n_19 n_20
                                              refine mx_S.ext [] (mx_sub_pos [] rfl (show ([0] : List Nat).Nodup by decide)) ?_
                                              exact j_X13_widthOf_738_ok X hF hL nn h hf
                                            · rcases mx_if_el hf with ⟨n_21, hf⟩ | ⟨n_21, hf⟩
                                              · refine sx_tin hm dX13_widthOf_9 (by rw [n_21]; decide) (by rw [n_21]; decide) (off := 729) (by rw [n_21]; rfl) (tgt := 738) rfl ?_
                                                clear n_0 n_1 n_2 n_3 n_4 n_5 n_6 n_7 n_8 n_9 n_10 n_11 n_12 n_13 n_14 n_15 n_16 n_17 n_18 n_19 n_20 n_21
                                                refine mx_S.ext [] (mx_sub_pos [] rfl (show ([0] : List Nat).Nodup by decide)) ?_
                                                exact j_X13_widthOf_738_ok X hF hL nn h hf
                                              · rcases mx_if_el hf with ⟨n_22, hf⟩ | ⟨n_22, hf⟩
                                                · refine sx_tin hm dX13_widthOf_9 (by rw [n_22]; decide) (by rw [n_22]; decide) (off := 729) (by rw [n_22]; rfl) (tgt := 738) rfl ?_
                                                  clear n_0 n_1 n_2 n_3 n_4 n_5 n_6 n_7 n_8 n_9 n_10 n_11 n_12 n_13 n_14 n_15 n_16 n_17 n_18 n_19 n_20 n_21 n_22
                                                  refine mx_S.ext [] (mx_sub_pos [] rfl (show ([0] : List Nat).Nodup by decide)) ?_
                                                  exact j_X13_widthOf_738_ok X hF hL nn h hf
                                                · rcases mx_if_el hf with ⟨n_23, hf⟩ | ⟨n_23, hf⟩
                                                  · refine sx_tin hm dX13_widthOf_9 (by rw [n_23]; decide) (by rw [n_23]; decide) (off := 729) (by rw [n_23]; rfl) (tgt := 738) rfl ?_
                                                    clear n_0 n_1 n_2 n_3 n_4 n_5 n_6 n_7 n_8 n_9 n_10 n_11 n_12 n_13 n_14 n_15 n_16 n_17 n_18 n_19 n_20 n_21 n_22 n_23
                                                    refine mx_S.ext [] (mx_sub_pos [] rfl (show ([0] : List Nat).Nodup by decide)) ?_
                                                    exact j_X13_widthOf_738_ok X hF hL nn h hf
                                                  · rcases mx_if_el hf with ⟨n_24, hf⟩ | ⟨n_24, hf⟩
                                                    · refine sx_tin hm dX13_widthOf_9 (by rw [n_24]; decide) (by rw [n_24]; decide) (off := 731) (by rw [n_24]; rfl) (tgt := 740) rfl ?_
                                                      clear n_0 n_1 n_2 n_3 n_4 n_5 n_6 n_7 n_8 n_9 n_10 n_11 n_12 n_13 n_14 n_15 n_16 n_17 n_18 n_19 n_20 n_21 n_22 n_23 n_24
                                                      refine mx_S.ext [] (mx_sub_pos [] rfl (show ([0] : List Nat).Nodup by decide)) ?_
                                                      exact j_X13_widthOf_740_ok X hF hL nn h hf
                                                    · rcases mx_if_el hf with ⟨n_25, hf⟩ | ⟨n_25, hf⟩
                                                      · refine sx_tin hm dX13_widthOf_9 (by rw [n_25]; decide) (by rw [n_25]; decide) (off := 731) (by rw [n_25]; rfl) (tgt := 740) rfl ?_
                                                        clear n_0 n_1 n_2 n_3 n_4 n_5 n_6 n_7 n_8 n_9 n_10 n_11 n_12 n_13 n_14 n_15 n_16 n_17 n_18 n_19 n_20 n_21 n_22 n_23 n_24 n_25
                                                        refine mx_S.ext [] (mx_sub_pos [] rfl (show ([0] : List Nat).Nodup by decide)) ?_
                                                        exact j_X13_widthOf_740_ok X hF hL nn h hf
                                                      · rcases mx_if_el hf with ⟨n_26, hf⟩ | ⟨n_26, hf⟩
                                                        · refine sx_tin hm dX13_widthOf_9 (by rw [n_26]; decide) (by rw [n_26]; decide) (off := 731) (by rw [n_26]; rfl) (tgt := 740) rfl ?_
                                                          clear n_0 n_1 n_2 n_3 n_4 n_5 n_6 n_7 n_8 n_9 n_10 n_11 n_12 n_13 n_14 n_15 n_16 n_17 n_18 n_19 n_20 n_21 n_22 n_23 n_24 n_25 n_26
                                                          refine mx_S.ext [] (mx_sub_pos [] rfl (show ([0] : List Nat).Nodup by decide)) ?_
                                                          exact j_X13_widthOf_740_ok X hF hL nn h hf
                                                        · rcases mx_if_el hf with ⟨n_27, hf⟩ | ⟨n_27, hf⟩
                                                          · refine sx_tin hm dX13_widthOf_9 (by rw [n_27]; decide) (by rw [n_27]; decide) (off := 731) (by rw [n_27]; rfl) (tgt := 740) rfl ?_
                                                            clear n_0 n_1 n_2 n_3 n_4 n_5 n_6 n_7 n_8 n_9 n_10 n_11 n_12 n_13 n_14 n_15 n_16 n_17 n_18 n_19 n_20 n_21 n_22 n_23 n_24 n_25 n_26 n_27
                                                            refine mx_S.ext [] (mx_sub_pos [] rfl (show ([0] : List Nat).Nodup by decide)) ?_
                                                            exact j_X13_widthOf_740_ok X hF hL nn h hf
                                                          · rcases mx_if_el hf with ⟨n_28, hf⟩ | ⟨n_28, hf⟩
                                                            · refine sx_tin hm dX13_widthOf_9 (by rw [n_28]; decide) (by rw [n_28]; decide) (off := 731) (by rw [n_28]; rfl) (tgt := 740) rfl ?_
                                                              clear n_0 n_1 n_2 n_3 n_4 n_5 n_6 n_7 n_8 n_9 n_10 n_11 n_12 n_13 n_14 n_15 n_16 n_17 n_18 n_19 n_20 n_21 n_22 n_23 n_24 n_25 n_26 n_27 n_28
                                                              refine mx_S.ext [] (mx_sub_pos [] rfl (show ([0] : List Nat).Nodup by decide)) ?_
                                                              exact j_X13_widthOf_740_ok X hF hL nn h hf
                                                            · rcases mx_if_el hf with ⟨n_29, hf⟩ | ⟨n_29, hf⟩
                                                              · refine sx_tin hm dX13_widthOf_9 (by rw [n_29]; decide) (by rw [n_29]; decide) (off := 731) (by rw [n_29]; rfl) (tgt := 740) rfl ?_
                                                                clear n_0 n_1 n_2 n_3 n_4 n_5 n_6 n_7 n_8 n_9 n_10 n_11 n_12 n_13 n_14 n_15 n_16 n_17 n_18 n_19 n_20 n_21 n_22 n_23 n_24 n_25 n_26 n_27 n_28 n_29
                                                                refine mx_S.ext [] (mx_sub_pos [] rfl (show ([0] : List Nat).Nodup by decide)) ?_
                                                                exact j_X13_widthOf_740_ok X hF hL nn h hf
                                                              · rcases mx_if_el hf with ⟨n_30, hf⟩ | ⟨n_30, hf⟩
                                                                · refine sx_tin hm dX13_widthOf_9 (by rw [n_30]; decide) (by rw [n_30]; decide) (off := 731) (by rw [n_30]; rfl) (tgt := 740) rfl ?_
                                                                  clear n_0 n_1 n_2 n_3 n_4 n_5 n_6 n_7 n_8 n_9 n_10 n_11 n_12 n_13 n_14 n_15 n_16 n_17 n_18 n_19 n_20 n_21 n_22 n_23 n_24 n_25 n_26 n_27 n_28 n_29 n_30
                                                                  refine mx_S.ext [] (mx_sub_pos [] rfl (show ([0] : List Nat).Nodup by decide)) ?_
                                                                  exact j_X13_widthOf_740_ok X hF hL nn h hf
                                                                · rcases mx_if_el hf with ⟨n_31, hf⟩ | ⟨n_31, hf⟩
                                                                  · refine sx_tin hm dX13_widthOf_9 (by rw [n_31]; decide) (by rw [n_31]; decide) (off := 731) (by rw [n_31]; rfl) (tgt := 740) rfl ?_
                                                                    clear n_0 n_1 n_2 n_3 n_4 n_5 n_6 n_7 n_8 n_9 n_10 n_11 n_12 n_13 n_14 n_15 n_16 n_17 n_18 n_19 n_20 n_21 n_22 n_23 n_24 n_25 n_26 n_27 n_28 n_29 n_30 n_31
                                                                    refine mx_S.ext [] (mx_sub_pos [] rfl (show ([0] : List Nat).Nodup by decide)) ?_
                                                                    exact j_X13_widthOf_740_ok X hF hL nn h hf
                                                                  · rcases mx_if_el hf with ⟨n_32, hf⟩ | ⟨n_32, hf⟩
                                                                    · refine sx_tin hm dX13_widthOf_9 (by rw [n_32]; decide) (by rw [n_32]; decide) (off := 731) (by rw [n_32]; rfl) (tgt := 740) rfl ?_
                                                                      clear n_0 n_1 n_2 n_3 n_4 n_5 n_6 n_7 n_8 n_9 n_10 n_11 n_12 n_13 n_14 n_15 n_16 n_17 n_18 n_19 n_20 n_21 n_22 n_23 n_24 n_25 n_26 n_27 n_28 n_29 n_30 n_31 n_32
                                                                      refine mx_S.ext [] (mx_sub_pos [] rfl (show ([0] : List Nat).Nodup by decide)) ?_
                                                                      exact j_X13_widthOf_740_ok X hF hL nn h hf
                                                                    · rcases mx_if_el hf with ⟨n_33, hf⟩ | ⟨n_33, hf⟩
                                                                      · refine sx_tin hm dX13_widthOf_9 (by rw [n_33]; decide) (by rw [n_33]; decide) (off := 731) (by rw [n_33]; rfl) (tgt := 740) rfl ?_
                                                                        clear n_0 n_1 n_2 n_3 n_4 n_5 n_6 n_7 n_8 n_9 n_10 n_11 n_12 n_13 n_14 n_15 n_16 n_17 n_18 n_19 n_20 n_21 n_22 n_23 n_24 n_25 n_26 n_27 n_28 n_29 n_30 n_31 n_32 n_33
                                                                        refine mx_S.ext [] (mx_sub_pos [] rfl (show ([0] : List Nat).Nodup by decide)) ?_
                                                                        exact j_X13_widthOf_740_ok X hF hL nn h hf
                                                                      · rcases mx_if_el hf with ⟨n_34, hf⟩ | ⟨n_34, hf⟩
                                                                        · refine sx_tin hm dX13_widthOf_9 (by rw [n_34]; decide) (by rw [n_34]; decide) (off := 731) (by rw [n_34]; rfl) (tgt := 740) rfl ?_
                                                                          clear n_0 n_1 n_2 n_3 n_4 n_5 n_6 n_7 n_8 n_9 n_10 n_11 n_12 n_13 n_14 n_15 n_16 n_17 n_18 n_19 n_20 n_21 n_22 n_23 n_24 n_25 n_26 n_27 n_28 n_29 n_30 n_31 n_32 n_33 n_34
                                                                          refine mx_S.ext [] (mx_sub_pos [] rfl (show ([0] : List Nat).Nodup by decide)) ?_
                                                                          exact j_X13_widthOf_740_ok X hF hL nn h hf
                                                                        · rcases mx_if_el hf with ⟨n_35, hf⟩ | ⟨n_35, hf⟩
                                                                          · refine sx_tin hm dX13_widthOf_9 (by rw [n_35]; decide) (by rw [n_35]; decide) (off := 729) (by rw [n_35]; rfl) (tgt := 738) rfl ?_
                                                                            clear n_0 n_1 n_2 n_3 n_4 n_5 n_6 n_7 n_8 n_9 n_10 n_11 n_12 n_13 n_14 n_15 n_16 n_17 n_18 n_19 n_20 n_21 n_22 n_23 n_24 n_25 n_26 n_27 n_28 n_29 n_30 n_31 n_32 n_33 n_34 n_35
                                                                            refine mx_S.ext [] (mx_sub_pos [] rfl (show ([0] : List Nat).Nodup by decide)) ?_
                                                                            exact j_X13_widthOf_738_ok X hF hL nn h hf
                                                                          · rcases mx_if_el hf with ⟨n_36, hf⟩ | ⟨n_36, hf⟩
                                                                            · refine sx_tin hm dX13_widthOf_9 (by rw [n_36]; decide) (by rw [n_36]; decide) (off := 729) (by rw [n_36]; rfl) (tgt := 738) rfl ?_
                                                                              clear n_0 n_1 n_2 n_3 n_4 n_5 n_6 n_7 n_8 n_9 n_10 n_11 n_12 n_13 n_14 n_15 n_16 n_17 n_18 n_19 n_20 n_21 n_22 n_23 n_24 n_25 n_26 n_27 n_28 n_29 n_30 n_31 n_32 n_33 n_34 n_35 n_36
                                                                              refine mx_S.ext [] (mx_sub_pos [] rfl (show ([0] : List Nat).Nodup by decide)) ?_
                                                                              exact j_X13_widthOf_738_ok X hF hL nn h hf
                                                                            · rcases mx_if_el hf with ⟨n_37, hf⟩ | ⟨n_37, hf⟩
                                                                              · refine sx_tin hm dX13_widthOf_9 (by rw [n_37]; decide) (by rw [n_37]; decide) (off := 729) (by rw [n_37]; rfl) (tgt := 738) rfl ?_
                                                                                clear n_0 n_1 n_2 n_3 n_4 n_5 n_6 n_7 n_8 n_9 n_10 n_11 n_12 n_13 n_14 n_15 n_16 n_17 n_18 n_19 n_20 n_21 n_22 n_23 n_24 n_25 n_26 n_27 n_28 n_29 n_30 n_31 n_32 n_33 n_34 n_35 n_36 n_37
                                                                                refine mx_S.ext [] (mx_sub_pos [] rfl (show ([0] : List Nat).Nodup by decide)) ?_
                                                                                exact j_X13_widthOf_738_ok X hF hL nn h hf
                                                                              · rcases mx_if_el hf with ⟨n_38, hf⟩ | ⟨n_38, hf⟩
                                                                                · refine sx_tin hm dX13_widthOf_9 (by rw [n_38]; decide) (by rw [n_38]; decide) (off := 727) (by rw [n_38]; rfl) (tgt := 736) rfl ?_
                                                                                  clear n_0 n_1 n_2 n_3 n_4 n_5 n_6 n_7 n_8 n_9 n_10 n_11 n_12 n_13 n_14 n_15 n_16 n_17 n_18 n_19 n_20 n_21 n_22 n_23 n_24 n_25 n_26 n_27 n_28 n_29 n_30 n_31 n_32 n_33 n_34 n_35 n_36 n_37 n_38
                                                                                  refine mx_S.ext [] (mx_sub_pos [] rfl (show ([0] : List Nat).Nodup by decide)) ?_
                                                                                  exact j_X13_widthOf_736_ok X hF hL nn h hf
                                                                                · rcases mx_if_el hf with ⟨n_39, hf⟩ | ⟨n_39, hf⟩
                                                                                  · refine sx_tin hm dX13_widthOf_9 (by rw [n_39]; decide) (by rw [n_39]; decide) (off := 727) (by rw [n_39]; rfl) (tgt := 736) rfl ?_
                                                                                    clear n_0 n_1 n_2 n_3 n_4 n_5 n_6 n_7 n_8 n_9 n_10 n_11 n_12 n_13 n_14 n_15 n_16 n_17 n_18 n_19 n_20 n_21 n_22 n_23 n_24 n_25 n_26 n_27 n_28 n_29 n_30 n_31 n_32 n_33 n_34 n_35 n_36 n_37 n_38 n_39
                                                                                    refine mx_S.ext [] (mx_sub_pos [] rfl (show ([0] : List Nat).Nodup by decide)) ?_
                                                                                    exact j_X13_widthOf_736_ok X hF hL nn h hf
                                                                                  · rcases mx_if_el hf with ⟨n_40, hf⟩ | ⟨n_40, hf⟩
                                                                                    · refine sx_tin hm dX13_widthOf_9 (by rw [n_40]; decide) (by rw [n_40]; decide) (off := 727) (by rw [n_40]; rfl) (tgt := 736) rfl ?_
                                                                                      clear n_0 n_1 n_2 n_3 n_4 n_5 n_6 n_7 n_8 n_9 n_10 n_11 n_12 n_13 n_14 n_15 n_16 n_17 n_18 n_19 n_20 n_21 n_22 n_23 n_24 n_25 n_26 n_27 n_28 n_29 n_30 n_31 n_32 n_33 n_34 n_35 n_36 n_37 n_38 n_39 n_40
                                                                                      refine mx_S.ext [] (mx_sub_pos [] rfl (show ([0] : List Nat).Nodup by decide)) ?_
                                                                                      exact j_X13_widthOf_736_ok X hF hL nn h hf
                                                                                    · rcases mx_if_el hf with ⟨n_41, hf⟩ | ⟨n_41, hf⟩
                                                                                      · refine sx_tin hm dX13_widthOf_9 (by rw [n_41]; decide) (by rw [n_41]; decide) (off := 727) (by rw [n_41]; rfl) (tgt := 736) rfl ?_
                                                                                        clear n_0 n_1 n_2 n_3 n_4 n_5 n_6 n_7 n_8 n_9 n_10 n_11 n_12 n_13 n_14 n_15 n_16 n_17 n_18 n_19 n_20 n_21 n_22 n_23 n_24 n_25 n_26 n_27 n_28 n_29 n_30 n_31 n_32 n_33 n_34 n_35 n_36 n_37 n_38 n_39 n_40 n_41
                                                                                        refine mx_S.ext [] (mx_sub_pos [] rfl (show ([0] : List Nat).Nodup by decide)) ?_
                                                                                        exact j_X13_widthOf_736_ok X hF hL nn h hf
                                                                                      · rcases mx_if_el hf with ⟨n_42, hf⟩ | ⟨n_42, hf⟩
                                                                                        · refine sx_tin hm dX13_widthOf_9 (by rw [n_42]; decide) (by rw [n_42]; decide) (off := 729) (by rw [n_42]; rfl) (tgt := 738) rfl ?_
                                                                                          clear n_0 n_1 n_2 n_3 n_4 n_5 n_6 n_7 n_8 n_9 n_10 n_11 n_12 n_13 n_14 n_15 n_16 n_17 n_18 n_19 n_20 n_21 n_22 n_23 n_24 n_25 n_26 n_27 n_28 n_29 n_30 n_31 n_32 n_33 n_34 n_35 n_36 n_37 n_38 n_39 n_40 n_41 n_42
                                                                                          refine mx_S.ext [] (mx_sub_pos [] rfl (show ([0] : List Nat).Nodup by decide)) ?_
                                                                                          exact j_X13_widthOf_738_ok X hF hL nn h hf
                                                                                        · rcases mx_if_el hf with ⟨n_43, hf⟩ | ⟨n_43, hf⟩
                                                                                          · refine sx_tin hm dX13_widthOf_9 (by rw [n_43]; decide) (by rw [n_43]; decide) (off := 727) (by rw [n_43]; rfl) (tgt := 736) rfl ?_
                                                                                            clear n_0 n_1 n_2 n_3 n_4 n_5 n_6 n_7 n_8 n_9 n_10 n_11 n_12 n_13 n_14 n_15 n_16 n_17 n_18 n_19 n_20 n_21 n_22 n_23 n_24 n_25 n_26 n_27 n_28 n_29 n_30 n_31 n_32 n_33 n_34 n_35 n_36 n_37 n_38 n_39 n_40 n_41 n_42 n_43
                                                                                            refine mx_S.ext [] (mx_sub_pos [] rfl (show ([0] : List Nat).Nodup by decide)) ?_
                                                                                            exact j_X13_widthOf_736_ok X hF hL nn h hf
                                                                                          · rcases mx_if_el hf with ⟨n_44, hf⟩ | ⟨n_44, hf⟩
                                                                                            · refine sx_tin hm dX13_widthOf_9 (by rw [n_44]; decide) (by rw [n_44]; decide) (off := 727) (by rw [n_44]; rfl) (tgt := 736) rfl ?_
                                                                                              clear n_0 n_1 n_2 n_3 n_4 n_5 n_6 n_7 n_8 n_9 n_10 n_11 n_12 n_13 n_14 n_15 n_16 n_17 n_18 n_19 n_20 n_21 n_22 n_23 n_24 n_25 n_26 n_27 n_28 n_29 n_30 n_31 n_32 n_33 n_34 n_35 n_36 n_37 n_38 n_39 n_40 n_41 n_42 n_43 n_44
                                                                                              refine mx_S.ext [] (mx_sub_pos [] rfl (show ([0] : List Nat).Nodup by decide)) ?_
                                                                                              exact j_X13_widthOf_736_ok X hF hL nn h hf
                                                                                            · rcases mx_if_el hf with ⟨n_45, hf⟩ | ⟨n_45, hf⟩
                                                                                              · refine sx_tin hm dX13_widthOf_9 (by rw [n_45]; decide) (by rw [n_45]; decide) (off := 727) (by rw [n_45]; rfl) (tgt := 736) rfl ?_
                                                                                                clear n_0 n_1 n_2 n_3 n_4 n_5 n_6 n_7 n_8 n_9 n_10 n_11 n_12 n_13 n_14 n_15 n_16 n_17 n_18 n_19 n_20 n_21 n_22 n_23 n_24 n_25 n_26 n_27 n_28 n_29 n_30 n_31 n_32 n_33 n_34 n_35 n_36 n_37 n_38 n_39 n_40 n_41 n_42 n_43 n_44 n_45
                                                                                                refine mx_S.ext [] (mx_sub_pos [] rfl (show ([0] : List Nat).Nodup by decide)) ?_
                                                                                                exact j_X13_widthOf_736_ok X hF hL nn h hf
                                                                                              · rcases mx_if_el hf with ⟨n_46, hf⟩ | ⟨n_46, hf⟩
                                                                                                · refine sx_tin hm dX13_widthOf_9 (by rw [n_46]; decide) (by rw [n_46]; decide) (off := 729) (by rw [n_46]; rfl) (tgt := 738) rfl ?_
                                                                                                  clear n_0 n_1 n_2 n_3 n_4 n_5 n_6 n_7 n_8 n_9 n_10 n_11 n_12 n_13 n_14 n_15 n_16 n_17 n_18 n_19 n_20 n_21 n_22 n_23 n_24 n_25 n_26 n_27 n_28 n_29 n_30 n_31 n_32 n_33 n_34 n_35 n_36 n_37 n_38 n_39 n_40 n_41 n_42 n_43 n_44 n_45 n_46
                                                                                                  refine mx_S.ext [] (mx_sub_pos [] rfl (show ([0] : List Nat).Nodup by decide)) ?_
                                                                                                  exact j_X13_widthOf_738_ok X hF hL nn h hf
                                                                                                · rcases mx_if_el hf with ⟨n_47, hf⟩ | ⟨n_47, hf⟩
                                                                                                  · refine sx_tin hm dX13_widthOf_9 (by rw [n_47]; decide) (by rw [n_47]; decide) (off := 729) (by rw [n_47]; rfl) (tgt := 738) rfl ?_
                                                                                                    clear n_0 n_1 n_2 n_3 n_4 n_5 n_6 n_7 n_8 n_9 n_10 n_11 n_12 n_13 n_14 n_15 n_16 n_17 n_18 n_19 n_20 n_21 n_22 n_23 n_24 n_25 n_26 n_27 n_28 n_29 n_30 n_31 n_32 n_33 n_34 n_35 n_36 n_37 n_38 n_39 n_40 n_41 n_42 n_43 n_44 n_45 n_46 n_47
                                                                                                    refine mx_S.ext [] (mx_sub_pos [] rfl (show ([0] : List Nat).Nodup by decide)) ?_
                                                                                                    exact j_X13_widthOf_738_ok X hF hL nn h hf
                                                                                                  · rcases mx_if_el hf with ⟨n_48, hf⟩ | ⟨n_48, hf⟩
                                                                                                    · refine sx_tin hm dX13_widthOf_9 (by rw [n_48]; decide) (by rw [n_48]; decide) (off := 727) (by rw [n_48]; rfl) (tgt := 736) rfl ?_
                                                                                                      clear n_0 n_1 n_2 n_3 n_4 n_5 n_6 n_7 n_8 n_9 n_10 n_11 n_12 n_13 n_14 n_15 n_16 n_17 n_18 n_19 n_20 n_21 n_22 n_23 n_24 n_25 n_26 n_27 n_28 n_29 n_30 n_31 n_32 n_33 n_34 n_35 n_36 n_37 n_38 n_39 n_40 n_41 n_42 n_43 n_44 n_45 n_46 n_47 n_48
                                                                                                      refine mx_S.ext [] (mx_sub_pos [] rfl (show ([0] : List Nat).Nodup by decide)) ?_
                                                                                                      exact j_X13_widthOf_736_ok X hF hL nn h hf
                                                                                                    · rcases mx_if_el hf with ⟨n_49, hf⟩ | ⟨n_49, hf⟩
                                                                                                      · refine sx_tin hm dX13_widthOf_9 (by rw [n_49]; decide) (by rw [n_49]; decide) (off := 727) (by rw [n_49]; rfl) (tgt := 736) rfl ?_
                                                                                                        clear n_0 n_1 n_2 n_3 n_4 n_5 n_6 n_7 n_8 n_9 n_10 n_11 n_12 n_13 n_14 n_15 n_16 n_17 n_18 n_19 n_20 n_21 n_22 n_23 n_24 n_25 n_26 n_27 n_28 n_29 n_30 n_31 n_32 n_33 n_34 n_35 n_36 n_37 n_38 n_39 n_40 n_41 n_42 n_43 n_44 n_45 n_46 n_47 n_48 n_49
                                                                                                        refine mx_S.ext [] (mx_sub_pos [] rfl (show ([0] : List Nat).Nodup by decide)) ?_
                                                                                                        exact j_X13_widthOf_736_ok X hF hL nn h hf
                                                                                                      · rcases (show (a0.toInt < 16 ∨ 193 < a0.toInt) ∨ a0.toInt = 16 ∨ a0.toInt = 17 ∨ a0.toInt = 18 ∨ a0.toInt = 19 ∨ a0.toInt = 20 ∨ a0.toInt = 21 ∨ a0.toInt = 22 ∨ a0.toInt = 23 ∨ a0.toInt = 24 ∨ a0.toInt = 25 ∨ a0.toInt = 26 ∨ a0.toInt = 27 ∨ a0.toInt = 28 ∨ a0.toInt = 29 ∨ a0.toInt = 30 ∨ a0.toInt = 31 ∨ a0.toInt = 32 ∨ a0.toInt = 33 ∨ a0.toInt = 34 ∨ a0.toInt = 35 ∨ a0.toInt = 36 ∨ a0.toInt = 37 ∨ a0.toInt = 38 ∨ a0.toInt = 39 ∨ a0.toInt = 40 ∨ a0.toInt = 41 ∨ a0.toInt = 42 ∨ a0.toInt = 43 ∨ a0.toInt = 44 ∨ a0.toInt = 45 ∨ a0.toInt = 46 ∨ a0.toInt = 47 ∨ a0.toInt = 48 ∨ a0.toInt = 49 ∨ a0.toInt = 50 ∨ a0.toInt = 51 ∨ a0.toInt = 52 ∨ a0.toInt = 53 ∨ a0.toInt = 54 ∨ a0.toInt = 55 ∨ a0.toInt = 56 ∨ a0.toInt = 57 ∨ a0.toInt = 58 ∨ a0.toInt = 59 ∨ a0.toInt = 60 ∨ a0.toInt = 61 ∨ a0.toInt = 62 ∨ a0.toInt = 63 ∨ a0.toInt = 64 ∨ a0.toInt = 65 ∨ a0.toInt = 66 ∨ a0.toInt = 67 ∨ a0.toInt = 68 ∨ a0.toInt = 69 ∨ a0.toInt = 70 ∨ a0.toInt = 71 ∨ a0.toInt = 72 ∨ a0.toInt = 73 ∨ a0.toInt = 74 ∨ a0.toInt = 75 ∨ a0.toInt = 76 ∨ a0.toInt = 77 ∨ a0.toInt = 78 ∨ a0.toInt = 79 ∨ a0.toInt = 80 ∨ a0.toInt = 81 ∨ a0.toInt = 82 ∨ a0.toInt = 83 ∨ a0.toInt = 84 ∨ a0.toInt = 85 ∨ a0.toInt = 86 ∨ a0.toInt = 87 ∨ a0.toInt = 88 ∨ a0.toInt = 89 ∨ a0.toInt = 90 ∨ a0.toInt = 91 ∨ a0.toInt = 92 ∨ a0.toInt = 93 ∨ a0.toInt = 94 ∨ a0.toInt = 95 ∨ a0.toInt = 96 ∨ a0.toInt = 97 ∨ a0.toInt = 98 ∨ a0.toInt = 99 ∨ a0.toInt = 100 ∨ a0.toInt = 101 ∨ a0.toInt = 102 ∨ a0.toInt = 103 ∨ a0.toInt = 104 ∨ a0.toInt = 105 ∨ a0.toInt = 106 ∨ a0.toInt = 107 ∨ a0.toInt = 108 ∨ a0.toInt = 109 ∨ a0.toInt = 110 ∨ a0.toInt = 111 ∨ a0.toInt = 112 ∨ a0.toInt = 113 ∨ a0.toInt = 114 ∨ a0.toInt = 115 ∨ a0.toInt = 116 ∨ a0.toInt = 117 ∨ a0.toInt = 118 ∨ a0.toInt = 119 ∨ a0.toInt = 120 ∨ a0.toInt = 121 ∨ a0.toInt = 122 ∨ a0.toInt = 123 ∨ a0.toInt = 124 ∨ a0.toInt = 125 ∨ a0.toInt = 126 ∨ a0.toInt = 127 ∨ a0.toInt = 128 ∨ a0.toInt = 129 ∨ a0.toInt = 130 ∨ a0.toInt = 131 ∨ a0.toInt = 132 ∨ a0.toInt = 133 ∨ a0.toInt = 134 ∨ a0.toInt = 135 ∨ a0.toInt = 136 ∨ a0.toInt = 137 ∨ a0.toInt = 138 ∨ a0.toInt = 139 ∨ a0.toInt = 140 ∨ a0.toInt = 141 ∨ a0.toInt = 142 ∨ a0.toInt = 143 ∨ a0.toInt = 144 ∨ a0.toInt = 145 ∨ a0.toInt = 146 ∨ a0.toInt = 147 ∨ a0.toInt = 148 ∨ a0.toInt = 149 ∨ a0.toInt = 150 ∨ a0.toInt = 151 ∨ a0.toInt = 152 ∨ a0.toInt = 153 ∨ a0.toInt = 154 ∨ a0.toInt = 155 ∨ a0.toInt = 156 ∨ a0.toInt = 157 ∨ a0.toInt = 158 ∨ a0.toInt = 159 ∨ a0.toInt = 160 ∨ a0.toInt = 161 ∨ a0.toInt = 162 ∨ a0.toInt = 163 ∨ a0.toInt = 164 ∨ a0.toInt = 165 ∨ a0.toInt = 166 ∨ a0.toInt = 167 ∨ a0.toInt = 168 ∨ a0.toInt = 169 ∨ a0.toInt = 170 ∨ a0.toInt = 171 ∨ a0.toInt = 172 ∨ a0.toInt = 173 ∨ a0.toInt = 174 ∨ a0.toInt = 175 ∨ a0.toInt = 176 ∨ a0.toInt = 177 ∨ a0.toInt = 178 ∨ a0.toInt = 179 ∨ a0.toInt = 180 ∨ a0.toInt = 181 ∨ a0.toInt = 182 ∨ a0.toInt = 183 ∨ a0.toInt = 184 ∨ a0.toInt = 185 ∨ a0.toInt = 186 ∨ a0.toInt = 187 ∨ a0.toInt = 188 ∨ a0.toInt = 189 ∨ a0.toInt = 190 ∨ a0.toInt = 191 ∨ a0.toInt = 192 ∨ a0.toInt = 193 by omega) with z0 | z0 | z0 | z0 | z0 | z0 | z0 | z0 | z0 | z0 | z0 | z0 | z0 | z0 | z0 | z0 | z0 | z0 | z0 | z0 | z0 | z0 | z0 | z0 | z0 | z0 | z0 | z0 | z0 | z0 | z0 | z0 | z0 | z0 | z0 | z0 | z0 | z0 | z0 | z0 | z0 | z0 | z0 | z0 | z0 | z0 | z0 | z0 | z0 | z0 | z0 | z0 | z0 | z0 | z0 | z0 | z0 | z0 | z0 | z0 | z0 | z0 | z0 | z0 | z0 | z0 | z0 | z0 | z0 | z0 | z0 | z0 | z0 | z0 | z0 | z0 | z0 | z0 | z0 | z0 | z0 | z0 | z0 | z0 | z0 | z0 | z0 | z0 | z0 | z0 | z0 | z0 | z0 | z0 | z0 | z0 | z0 | z0 | z0 | z0 | z0 | z0 | z0 | z0 | z0 | z0 | z0 | z0 | z0 | z0 | z0 | z0 | z0 | z0 | z0 | z0 | z0 | z0 | z0 | z0 | z0 | z0 | z0 | z0 | z0 | z0 | z0 | z0 | z0 | z0 | z0 | z0 | z0 | z0 | z0 | z0 | z0 | z0 | z0 | z0 | z0 | z0 | z0 | z0 | z0 | z0 | z0 | z0 | z0 | z0 | z0 | z0 | z0 | z0 | z0 | z0 | z0 | z0 | z0 | z0 | z0 | z0 | z0 | z0 | z0 | z0 | z0 | z0 | z0 | z0 | z0 | z0 | z0 | z0 | z0 | z0 | z0 | z0 | z0
                                                                                                        · refine sx_tout hm dX13_widthOf_9 z0 (tgt := 742) rfl ?_
                                                                                                          refine mx_S.ext [] (mx_sub_pos [] rfl (show ([0] : List Nat).Nodup by decide)) ?_
                                                                                                          exact j_X13_widthOf_742_ok X hF hL nn h hf
                                                                                                        · exact absurd (Int32.toInt_inj.mp (z0.trans (by decide : (16 : Int) = (16 : Int32).toInt))) n_0
                                                                                                        · refine sx_tin hm dX13_widthOf_9 (by omega) (by omega) (off := 733) (by rw [z0]; rfl) (tgt := 742) rfl ?_
                                                                                                          refine mx_S.ext [] (mx_sub_pos [] rfl (show ([0] : List Nat).Nodup by decide)) ?_
                                                                                                          exact j_X13_widthOf_742_ok X hF hL nn h hf
                                                                                                        · exact absurd (Int32.toInt_inj.mp (z0.trans (by decide : (18 : Int) = (18 : Int32).toInt))) n_1
                                                                                                        · refine sx_tin hm dX13_widthOf_9 (by omega) (by omega) (off := 733) (by rw [z0]; rfl) (tgt := 742) rfl ?_
                                                                                                          refine mx_S.ext [] (mx_sub_pos [] rfl (show ([0] : List Nat).Nodup by decide)) ?_
                                                                                                          exact j_X13_widthOf_742_ok X hF hL nn h hf
                                                                                                        · refine sx_tin hm dX13_widthOf_9 (by omega) (by omega) (off := 733) (by rw [z0]; rfl) (tgt := 742) rfl ?_
                                                                                                          refine mx_S.ext [] (mx_sub_pos [] rfl (show ([0] : List Nat).Nodup by decide)) ?_
                                                                                                          exact j_X13_widthOf_742_ok X hF hL nn h hf
                                                                                                        · exact absurd (Int32.toInt_inj.mp (z0.trans (by decide : (21 : Int) = (21 : Int32).toInt))) n_2
                                                                                                        · refine sx_tin hm dX13_widthOf_9 (by omega) (by omega) (off := 733) (by rw [z0]; rfl) (tgt := 742) rfl ?_
                                                                                                          refine mx_S.ext [] (mx_sub_pos [] rfl (show ([0] : List Nat).Nodup by decide)) ?_
                                                                                                          exact j_X13_widthOf_742_ok X hF hL nn h hf
                                                                                                        · refine sx_tin hm dX13_widthOf_9 (by omega) (by omega) (off := 733) (by rw [z0]; rfl) (tgt := 742) rfl ?_
                                                                                                          refine mx_S.ext [] (mx_sub_pos [] rfl (show ([0] : List Nat).Nodup by decide)) ?_
                                                                                                          exact j_X13_widthOf_742_ok X hF hL nn h hf
                                                                                                        · refine sx_tin hm dX13_widthOf_9 (by omega) (by omega) (off := 733) (by rw [z0]; rfl) (tgt := 742) rfl ?_
                                                                                                          refine mx_S.ext [] (mx_sub_pos [] rfl (show ([0] : List Nat).Nodup by decide)) ?_
                                                                                                          exact j_X13_widthOf_742_ok X hF hL nn h hf
                                                                                                        · exact absurd (Int32.toInt_inj.mp (z0.trans (by decide : (25 : Int) = (25 : Int32).toInt))) n_3
                                                                                                        · refine sx_tin hm dX13_widthOf_9 (by omega) (by omega) (off := 733) (by rw [z0]; rfl) (tgt := 742) rfl ?_
                                                                                                          refine mx_S.ext [] (mx_sub_pos [] rfl (show ([0] : List Nat).Nodup by decide)) ?_
                                                                                                          exact j_X13_widthOf_742_ok X hF hL nn h hf
                                                                                                        · refine sx_tin hm dX13_widthOf_9 (by omega) (by omega) (off := 733) (by rw [z0]; rfl) (tgt := 742) rfl ?_
                                                                                                          refine mx_S.ext [] (mx_sub_pos [] rfl (show ([0] : List Nat).Nodup by decide)) ?_
                                                                                                          exact j_X13_widthOf_742_ok X hF hL nn h hf
                                                                                                        · refine sx_tin hm dX13_widthOf_9 (by omega) (by omega) (off := 733) (by rw [z0]; rfl) (tgt := 742) rfl ?_
                                                                                                          refine mx_S.ext [] (mx_sub_pos [] rfl (show ([0] : List Nat).Nodup by decide)) ?_
                                                                                                          exact j_X13_widthOf_742_ok X hF hL nn h hf
                                                                                                        · refine sx_tin hm dX13_widthOf_9 (by omega) (by omega) (off := 733) (by rw [z0]; rfl) (tgt := 742) rfl ?_
                                                                                                          refine mx_S.ext [] (mx_sub_pos [] rfl (show ([0] : List Nat).Nodup by decide)) ?_
                                                                                                          exact j_X13_widthOf_742_ok X hF hL nn h hf
                                                                                                        · refine sx_tin hm dX13_widthOf_9 (by omega) (by omega) (off := 733) (by rw [z0]; rfl) (tgt := 742) rfl ?_
                                                                                                          refine mx_S.ext [] (mx_sub_pos [] rfl (show ([0] : List Nat).Nodup by decide)) ?_
                                                                                                          exact j_X13_widthOf_742_ok X hF hL nn h hf
                                                                                                        · refine sx_tin hm dX13_widthOf_9 (by omega) (by omega) (off := 733) (by rw [z0]; rfl) (tgt := 742) rfl ?_
                                                                                                          refine mx_S.ext [] (mx_sub_pos [] rfl (show ([0] : List Nat).Nodup by decide)) ?_
                                                                                                          exact j_X13_widthOf_742_ok X hF hL nn h hf
                                                                                                        · refine sx_tin hm dX13_widthOf_9 (by omega) (by omega) (off := 733) (by rw [z0]; rfl) (tgt := 742) rfl ?_
                                                                                                          refine mx_S.ext [] (mx_sub_pos [] rfl (show ([0] : List Nat).Nodup by decide)) ?_
                                                                                                          exact j_X13_widthOf_742_ok X hF hL nn h hf
                                                                                                        · refine sx_tin hm dX13_widthOf_9 (by omega) (by omega) (off := 733) (by rw [z0]; rfl) (tgt := 742) rfl ?_
                                                                                                          refine mx_S.ext [] (mx_sub_pos [] rfl (show ([0] : List Nat).Nodup by decide)) ?_
                                                                                                          exact j_X13_widthOf_742_ok X hF hL nn h hf
                                                                                                        · refine sx_tin hm dX13_widthOf_9 (by omega) (by omega) (off := 733) (by rw [z0]; rfl) (tgt := 742) rfl ?_
                                                                                                          refine mx_S.ext [] (mx_sub_pos [] rfl (show ([0] : List Nat).Nodup by decide)) ?_
                                                                                                          exact j_X13_widthOf_742_ok X hF hL nn h hf
                                                                                                        · refine sx_tin hm dX13_widthOf_9 (by omega) (by omega) (off := 733) (by rw [z0]; rfl) (tgt := 742) rfl ?_
                                                                                                          refine mx_S.ext [] (mx_sub_pos [] rfl (show ([0] : List Nat).Nodup by decide)) ?_
                                                                                                          exact j_X13_widthOf_742_ok X hF hL nn h hf
                                                                                                        · refine sx_tin hm dX13_widthOf_9 (by omega) (by omega) (off := 733) (by rw [z0]; rfl) (tgt := 742) rfl ?_
                                                                                                          refine mx_S.ext [] (mx_sub_pos [] rfl (show ([0] : List Nat).Nodup by decide)) ?_
                                                                                                          exact j_X13_widthOf_742_ok X hF hL nn h hf
                                                                                                        · refine sx_tin hm dX13_widthOf_9 (by omega) (by omega) (off := 733) (by rw [z0]; rfl) (tgt := 742) rfl ?_
                                                                                                          refine mx_S.ext [] (mx_sub_pos [] rfl (show ([0] : List Nat).Nodup by decide)) ?_
                                                                                                          exact j_X13_widthOf_742_ok X hF hL nn h hf
                                                                                                        · refine sx_tin hm dX13_widthOf_9 (by omega) (by omega) (off := 733) (by rw [z0]; rfl) (tgt := 742) rfl ?_
                                                                                                          refine mx_S.ext [] (mx_sub_pos [] rfl (show ([0] : List Nat).Nodup by decide)) ?_
                                                                                                          exact j_X13_widthOf_742_ok X hF hL nn h hf
                                                                                                        · refine sx_tin hm dX13_widthOf_9 (by omega) (by omega) (off := 733) (by rw [z0]; rfl) (tgt := 742) rfl ?_
                                                                                                          refine mx_S.ext [] (mx_sub_pos [] rfl (show ([0] : List Nat).Nodup by decide)) ?_
                                                                                                          exact j_X13_widthOf_742_ok X hF hL nn h hf
                                                                                                        · refine sx_tin hm dX13_widthOf_9 (by omega) (by omega) (off := 733) (by rw [z0]; rfl) (tgt := 742) rfl ?_
                                                                                                          refine mx_S.ext [] (mx_sub_pos [] rfl (show ([0] : List Nat).Nodup by decide)) ?_
                                                                                                          exact j_X13_widthOf_742_ok X hF hL nn h hf
                                                                                                        · refine sx_tin hm dX13_widthOf_9 (by omega) (by omega) (off := 733) (by rw [z0]; rfl) (tgt := 742) rfl ?_
                                                                                                          refine mx_S.ext [] (mx_sub_pos [] rfl (show ([0] : List Nat).Nodup by decide)) ?_
                                                                                                          exact j_X13_widthOf_742_ok X hF hL nn h hf
                                                                                                        · refine sx_tin hm dX13_widthOf_9 (by omega) (by omega) (off := 733) (by rw [z0]; rfl) (tgt := 742) rfl ?_
                                                                                                          refine mx_S.ext [] (mx_sub_pos [] rfl (show ([0] : List Nat).Nodup by decide)) ?_
                                                                                                          exact j_X13_widthOf_742_ok X hF hL nn h hf
                                                                                                        · refine sx_tin hm dX13_widthOf_9 (by omega) (by omega) (off := 733) (by rw [z0]; rfl) (tgt := 742) rfl ?_
                                                                                                          refine mx_S.ext [] (mx_sub_pos [] rfl (show ([0] : List Nat).Nodup by decide)) ?_
                                                                                                          exact j_X13_widthOf_742_ok X hF hL nn h hf
                                                                                                        · refine sx_tin hm dX13_widthOf_9 (by omega) (by omega) (off := 733) (by rw [z0]; rfl) (tgt := 742) rfl ?_
                                                                                                          refine mx_S.ext [] (mx_sub_pos [] rfl (show ([0] : List Nat).Nodup by decide)) ?_
                                                                                                          exact j_X13_widthOf_742_ok X hF hL nn h hf
                                                                                                        · refine sx_tin hm dX13_widthOf_9 (by omega) (by omega) (off := 733) (by rw [z0]; rfl) (tgt := 742) rfl ?_
                                                                                                          refine mx_S.ext [] (mx_sub_pos [] rfl (show ([0] : List Nat).Nodup by decide)) ?_
                                                                                                          exact j_X13_widthOf_742_ok X hF hL nn h hf
                                                                                                        · exact absurd (Int32.toInt_inj.mp (z0.trans (by decide : (46 : Int) = (46 : Int32).toInt))) n_4
                                                                                                        · refine sx_tin hm dX13_widthOf_9 (by omega) (by omega) (off := 733) (by rw [z0]; rfl) (tgt := 742) rfl ?_
                                                                                                          refine mx_S.ext [] (mx_sub_pos [] rfl (show ([0] : List Nat).Nodup by decide)) ?_
                                                                                                          exact j_X13_widthOf_742_ok X hF hL nn h hf
                                                                                                        · refine sx_tin hm dX13_widthOf_9 (by omega) (by omega) (off := 733) (by rw [z0]; rfl) (tgt := 742) rfl ?_
                                                                                                          refine mx_S.ext [] (mx_sub_pos [] rfl (show ([0] : List Nat).Nodup by decide)) ?_
                                                                                                          exact j_X13_widthOf_742_ok X hF hL nn h hf
                                                                                                        · refine sx_tin hm dX13_widthOf_9 (by omega) (by omega) (off := 733) (by rw [z0]; rfl) (tgt := 742) rfl ?_
                                                                                                          refine mx_S.ext [] (mx_sub_pos [] rfl (show ([0] : List Nat).Nodup by decide)) ?_
                                                                                                          exact j_X13_widthOf_742_ok X hF hL nn h hf
                                                                                                        · exact absurd (Int32.toInt_inj.mp (z0.trans (by decide : (50 : Int) = (50 : Int32).toInt))) n_5
                                                                                                        · refine sx_tin hm dX13_widthOf_9 (by omega) (by omega) (off := 733) (by rw [z0]; rfl) (tgt := 742) rfl ?_
                                                                                                          refine mx_S.ext [] (mx_sub_pos [] rfl (show ([0] : List Nat).Nodup by decide)) ?_
                                                                                                          exact j_X13_widthOf_742_ok X hF hL nn h hf
                                                                                                        · refine sx_tin hm dX13_widthOf_9 (by omega) (by omega) (off := 733) (by rw [z0]; rfl) (tgt := 742) rfl ?_
                                                                                                          refine mx_S.ext [] (mx_sub_pos [] rfl (show ([0] : List Nat).Nodup by decide)) ?_
                                                                                                          exact j_X13_widthOf_742_ok X hF hL nn h hf
                                                                                                        · refine sx_tin hm dX13_widthOf_9 (by omega) (by omega) (off := 733) (by rw [z0]; rfl) (tgt := 742) rfl ?_
                                                                                                          refine mx_S.ext [] (mx_sub_pos [] rfl (show ([0] : List Nat).Nodup by decide)) ?_
                                                                                                          exact j_X13_widthOf_742_ok X hF hL nn h hf
                                                                                                        · exact absurd (Int32.toInt_inj.mp (z0.trans (by decide : (54 : Int) = (54 : Int32).toInt))) n_6
                                                                                                        · refine sx_tin hm dX13_widthOf_9 (by omega) (by omega) (off := 733) (by rw [z0]; rfl) (tgt := 742) rfl ?_
                                                                                                          refine mx_S.ext [] (mx_sub_pos [] rfl (show ([0] : List Nat).Nodup by decide)) ?_
                                                                                                          exact j_X13_widthOf_742_ok X hF hL nn h hf
                                                                                                        · refine sx_tin hm dX13_widthOf_9 (by omega) (by omega) (off := 733) (by rw [z0]; rfl) (tgt := 742) rfl ?_
                                                                                                          refine mx_S.ext [] (mx_sub_pos [] rfl (show ([0] : List Nat).Nodup by decide)) ?_
                                                                                                          exact j_X13_widthOf_742_ok X hF hL nn h hf
                                                                                                        · refine sx_tin hm dX13_widthOf_9 (by omega) (by omega) (off := 733) (by rw [z0]; rfl) (tgt := 742) rfl ?_
                                                                                                          refine mx_S.ext [] (mx_sub_pos [] rfl (show ([0] : List Nat).Nodup by decide)) ?_
                                                                                                          exact j_X13_widthOf_742_ok X hF hL nn h hf
                                                                                                        · exact absurd (Int32.toInt_inj.mp (z0.trans (by decide : (58 : Int) = (58 : Int32).toInt))) n_7
                                                                                                        · refine sx_tin hm dX13_widthOf_9 (by omega) (by omega) (off := 733) (by rw [z0]; rfl) (tgt := 742) rfl ?_
                                                                                                          refine mx_S.ext [] (mx_sub_pos [] rfl (show ([0] : List Nat).Nodup by decide)) ?_
                                                                                                          exact j_X13_widthOf_742_ok X hF hL nn h hf
                                                                                                        · refine sx_tin hm dX13_widthOf_9 (by omega) (by omega) (off := 733) (by rw [z0]; rfl) (tgt := 742) rfl ?_
                                                                                                          refine mx_S.ext [] (mx_sub_pos [] rfl (show ([0] : List Nat).Nodup by decide)) ?_
                                                                                                          exact j_X13_widthOf_742_ok X hF hL nn h hf
                                                                                                        · refine sx_tin hm dX13_widthOf_9 (by omega) (by omega) (off := 733) (by rw [z0]; rfl) (tgt := 742) rfl ?_
                                                                                                          refine mx_S.ext [] (mx_sub_pos [] rfl (show ([0] : List Nat).Nodup by decide)) ?_
                                                                                                          exact j_X13_widthOf_742_ok X hF hL nn h hf
                                                                                                        · refine sx_tin hm dX13_widthOf_9 (by omega) (by omega) (off := 733) (by rw [z0]; rfl) (tgt := 742) rfl ?_
                                                                                                          refine mx_S.ext [] (mx_sub_pos [] rfl (show ([0] : List Nat).Nodup by decide)) ?_
                                                                                                          exact j_X13_widthOf_742_ok X hF hL nn h hf
                                                                                                        · refine sx_tin hm dX13_widthOf_9 (by omega) (by omega) (off := 733) (by rw [z0]; rfl) (tgt := 742) rfl ?_
                                                                                                          refine mx_S.ext [] (mx_sub_pos [] rfl (show ([0] : List Nat).Nodup by decide)) ?_
                                                                                                          exact j_X13_widthOf_742_ok X hF hL nn h hf
                                                                                                        · refine sx_tin hm dX13_widthOf_9 (by omega) (by omega) (off := 733) (by rw [z0]; rfl) (tgt := 742) rfl ?_
                                                                                                          refine mx_S.ext [] (mx_sub_pos [] rfl (show ([0] : List Nat).Nodup by decide)) ?_
                                                                                                          exact j_X13_widthOf_742_ok X hF hL nn h hf
                                                                                                        · refine sx_tin hm dX13_widthOf_9 (by omega) (by omega) (off := 733) (by rw [z0]; rfl) (tgt := 742) rfl ?_
                                                                                                          refine mx_S.ext [] (mx_sub_pos [] rfl (show ([0] : List Nat).Nodup by decide)) ?_
                                                                                                          exact j_X13_widthOf_742_ok X hF hL nn h hf
                                                                                                        · refine sx_tin hm dX13_widthOf_9 (by omega) (by omega) (off := 733) (by rw [z0]; rfl) (tgt := 742) rfl ?_
                                                                                                          refine mx_S.ext [] (mx_sub_pos [] rfl (show ([0] : List Nat).Nodup by decide)) ?_
                                                                                                          exact j_X13_widthOf_742_ok X hF hL nn h hf
                                                                                                        · refine sx_tin hm dX13_widthOf_9 (by omega) (by omega) (off := 733) (by rw [z0]; rfl) (tgt := 742) rfl ?_
                                                                                                          refine mx_S.ext [] (mx_sub_pos [] rfl (show ([0] : List Nat).Nodup by decide)) ?_
                                                                                                          exact j_X13_widthOf_742_ok X hF hL nn h hf
                                                                                                        · refine sx_tin hm dX13_widthOf_9 (by omega) (by omega) (off := 733) (by rw [z0]; rfl) (tgt := 742) rfl ?_
                                                                                                          refine mx_S.ext [] (mx_sub_pos [] rfl (show ([0] : List Nat).Nodup by decide)) ?_
                                                                                                          exact j_X13_widthOf_742_ok X hF hL nn h hf
                                                                                                        · refine sx_tin hm dX13_widthOf_9 (by omega) (by omega) (off := 733) (by rw [z0]; rfl) (tgt := 742) rfl ?_
                                                                                                          refine mx_S.ext [] (mx_sub_pos [] rfl (show ([0] : List Nat).Nodup by decide)) ?_
                                                                                                          exact j_X13_widthOf_742_ok X hF hL nn h hf
                                                                                                        · refine sx_tin hm dX13_widthOf_9 (by omega) (by omega) (off := 733) (by rw [z0]; rfl) (tgt := 742) rfl ?_
                                                                                                          refine mx_S.ext [] (mx_sub_pos [] rfl (show ([0] : List Nat).Nodup by decide)) ?_
                                                                                                          exact j_X13_widthOf_742_ok X hF hL nn h hf
                                                                                                        · refine sx_tin hm dX13_widthOf_9 (by omega) (by omega) (off := 733) (by rw [z0]; rfl) (tgt := 742) rfl ?_
                                                                                                          refine mx_S.ext [] (mx_sub_pos [] rfl (show ([0] : List Nat).Nodup by decide)) ?_
                                                                                                          exact j_X13_widthOf_742_ok X hF hL nn h hf
                                                                                                        · refine sx_tin hm dX13_widthOf_9 (by omega) (by omega) (off := 733) (by rw [z0]; rfl) (tgt := 742) rfl ?_
                                                                                                          refine mx_S.ext [] (mx_sub_pos [] rfl (show ([0] : List Nat).Nodup by decide)) ?_
                                                                                                          exact j_X13_widthOf_742_ok X hF hL nn h hf
                                                                                                        · refine sx_tin hm dX13_widthOf_9 (by omega) (by omega) (off := 733) (by rw [z0]; rfl) (tgt := 742) rfl ?_
                                                                                                          refine mx_S.ext [] (mx_sub_pos [] rfl (show ([0] : List Nat).Nodup by decide)) ?_
                                                                                                          exact j_X13_widthOf_742_ok X hF hL nn h hf
                                                                                                        · refine sx_tin hm dX13_widthOf_9 (by omega) (by omega) (off := 733) (by rw [z0]; rfl) (tgt := 742) rfl ?_
                                                                                                          refine mx_S.ext [] (mx_sub_pos [] rfl (show ([0] : List Nat).Nodup by decide)) ?_
                                                                                                          exact j_X13_widthOf_742_ok X hF hL nn h hf
                                                                                                        · refine sx_tin hm dX13_widthOf_9 (by omega) (by omega) (off := 733) (by rw [z0]; rfl) (tgt := 742) rfl ?_
                                                                                                          refine mx_S.ext [] (mx_sub_pos [] rfl (show ([0] : List Nat).Nodup by decide)) ?_
                                                                                                          exact j_X13_widthOf_742_ok X hF hL nn h hf
                                                                                                        · refine sx_tin hm dX13_widthOf_9 (by omega) (by omega) (off := 733) (by rw [z0]; rfl) (tgt := 742) rfl ?_
                                                                                                          refine mx_S.ext [] (mx_sub_pos [] rfl (show ([0] : List Nat).Nodup by decide)) ?_
                                                                                                          exact j_X13_widthOf_742_ok X hF hL nn h hf
                                                                                                        · refine sx_tin hm dX13_widthOf_9 (by omega) (by omega) (off := 733) (by rw [z0]; rfl) (tgt := 742) rfl ?_
                                                                                                          refine mx_S.ext [] (mx_sub_pos [] rfl (show ([0] : List Nat).Nodup by decide)) ?_
                                                                                                          exact j_X13_widthOf_742_ok X hF hL nn h hf
                                                                                                        · refine sx_tin hm dX13_widthOf_9 (by omega) (by omega) (off := 733) (by rw [z0]; rfl) (tgt := 742) rfl ?_
                                                                                                          refine mx_S.ext [] (mx_sub_pos [] rfl (show ([0] : List Nat).Nodup by decide)) ?_
                                                                                                          exact j_X13_widthOf_742_ok X hF hL nn h hf
                                                                                                        · exact absurd (Int32.toInt_inj.mp (z0.trans (by decide : (79 : Int) = (79 : Int32).toInt))) n_8
                                                                                                        · refine sx_tin hm dX13_widthOf_9 (by omega) (by omega) (off := 733) (by rw [z0]; rfl) (tgt := 742) rfl ?_
                                                                                                          refine mx_S.ext [] (mx_sub_pos [] rfl (show ([0] : List Nat).Nodup by decide)) ?_
                                                                                                          exact j_X13_widthOf_742_ok X hF hL nn h hf
                                                                                                        · refine sx_tin hm dX13_widthOf_9 (by omega) (by omega) (off := 733) (by rw [z0]; rfl) (tgt := 742) rfl ?_
                                                                                                          refine mx_S.ext [] (mx_sub_pos [] rfl (show ([0] : List Nat).Nodup by decide)) ?_
                                                                                                          exact j_X13_widthOf_742_ok X hF hL nn h hf
                                                                                                        · refine sx_tin hm dX13_widthOf_9 (by omega) (by omega) (off := 733) (by rw [z0]; rfl) (tgt := 742) rfl ?_
                                                                                                          refine mx_S.ext [] (mx_sub_pos [] rfl (show ([0] : List Nat).Nodup by decide)) ?_
                                                                                                          exact j_X13_widthOf_742_ok X hF hL nn h hf
                                                                                                        · exact absurd (Int32.toInt_inj.mp (z0.trans (by decide : (83 : Int) = (83 : Int32).toInt))) n_9
                                                                                                        · refine sx_tin hm dX13_widthOf_9 (by omega) (by omega) (off := 733) (by rw [z0]; rfl) (tgt := 742) rfl ?_
                                                                                                          refine mx_S.ext [] (mx_sub_pos [] rfl (show ([0] : List Nat).Nodup by decide)) ?_
                                                                                                          exact j_X13_widthOf_742_ok X hF hL nn h hf
                                                                                                        · refine sx_tin hm dX13_widthOf_9 (by omega) (by omega) (off := 733) (by rw [z0]; rfl) (tgt := 742) rfl ?_
                                                                                                          refine mx_S.ext [] (mx_sub_pos [] rfl (show ([0] : List Nat).Nodup by decide)) ?_
                                                                                                          exact j_X13_widthOf_742_ok X hF hL nn h hf
                                                                                                        · refine sx_tin hm dX13_widthOf_9 (by omega) (by omega) (off := 733) (by rw [z0]; rfl) (tgt := 742) rfl ?_
                                                                                                          refine mx_S.ext [] (mx_sub_pos [] rfl (show ([0] : List Nat).Nodup by decide)) ?_
                                                                                                          exact j_X13_widthOf_742_ok X hF hL nn h hf
                                                                                                        · exact absurd (Int32.toInt_inj.mp (z0.trans (by decide : (87 : Int) = (87 : Int32).toInt))) n_10
                                                                                                        · refine sx_tin hm dX13_widthOf_9 (by omega) (by omega) (off := 733) (by rw [z0]; rfl) (tgt := 742) rfl ?_
                                                                                                          refine mx_S.ext [] (mx_sub_pos [] rfl (show ([0] : List Nat).Nodup by decide)) ?_
                                                                                                          exact j_X13_widthOf_742_ok X hF hL nn h hf
                                                                                                        · exact absurd (Int32.toInt_inj.mp (z0.trans (by decide : (89 : Int) = (89 : Int32).toInt))) n_11
                                                                                                        · refine sx_tin hm dX13_widthOf_9 (by omega) (by omega) (off := 733) (by rw [z0]; rfl) (tgt := 742) rfl ?_
                                                                                                          refine mx_S.ext [] (mx_sub_pos [] rfl (show ([0] : List Nat).Nodup by decide)) ?_
                                                                                                          exact j_X13_widthOf_742_ok X hF hL nn h hf
                                                                                                        · refine sx_tin hm dX13_widthOf_9 (by omega) (by omega) (off := 733) (by rw [z0]; rfl) (tgt := 742) rfl ?_
                                                                                                          refine mx_S.ext [] (mx_sub_pos [] rfl (show ([0] : List Nat).Nodup by decide)) ?_
                                                                                                          exact j_X13_widthOf_742_ok X hF hL nn h hf
                                                                                                        · refine sx_tin hm dX13_widthOf_9 (by omega) (by omega) (off := 733) (by rw [z0]; rfl) (tgt := 742) rfl ?_
                                                                                                          refine mx_S.ext [] (mx_sub_pos [] rfl (show ([0] : List Nat).Nodup by decide)) ?_
                                                                                                          exact j_X13_widthOf_742_ok X hF hL nn h hf
                                                                                                        · refine sx_tin hm dX13_widthOf_9 (by omega) (by omega) (off := 733) (by rw [z0]; rfl) (tgt := 742) rfl ?_
                                                                                                          refine mx_S.ext [] (mx_sub_pos [] rfl (show ([0] : List Nat).Nodup by decide)) ?_
                                                                                                          exact j_X13_widthOf_742_ok X hF hL nn h hf
                                                                                                        · refine sx_tin hm dX13_widthOf_9 (by omega) (by omega) (off := 733) (by rw [z0]; rfl) (tgt := 742) rfl ?_
                                                                                                          refine mx_S.ext [] (mx_sub_pos [] rfl (show ([0] : List Nat).Nodup by decide)) ?_
                                                                                                          exact j_X13_widthOf_742_ok X hF hL nn h hf
                                                                                                        · refine sx_tin hm dX13_widthOf_9 (by omega) (by omega) (off := 733) (by rw [z0]; rfl) (tgt := 742) rfl ?_
                                                                                                          refine mx_S.ext [] (mx_sub_pos [] rfl (show ([0] : List Nat).Nodup by decide)) ?_
                                                                                                          exact j_X13_widthOf_742_ok X hF hL nn h hf
                                                                                                        · exact absurd (Int32.toInt_inj.mp (z0.trans (by decide : (96 : Int) = (96 : Int32).toInt))) n_12
                                                                                                        · refine sx_tin hm dX13_widthOf_9 (by omega) (by omega) (off := 733) (by rw [z0]; rfl) (tgt := 742) rfl ?_
                                                                                                          refine mx_S.ext [] (mx_sub_pos [] rfl (show ([0] : List Nat).Nodup by decide)) ?_
                                                                                                          exact j_X13_widthOf_742_ok X hF hL nn h hf
                                                                                                        · refine sx_tin hm dX13_widthOf_9 (by omega) (by omega) (off := 733) (by rw [z0]; rfl) (tgt := 742) rfl ?_
                                                                                                          refine mx_S.ext [] (mx_sub_pos [] rfl (show ([0] : List Nat).Nodup by decide)) ?_
                                                                                                          exact j_X13_widthOf_742_ok X hF hL nn h hf
                                                                                                        · refine sx_tin hm dX13_widthOf_9 (by omega) (by omega) (off := 733) (by rw [z0]; rfl) (tgt := 742) rfl ?_
                                                                                                          refine mx_S.ext [] (mx_sub_pos [] rfl (show ([0] : List Nat).Nodup by decide)) ?_
                                                                                                          exact j_X13_widthOf_742_ok X hF hL nn h hf
                                                                                                        · exact absurd (Int32.toInt_inj.mp (z0.trans (by decide : (100 : Int) = (100 : Int32).toInt))) n_13
                                                                                                        · refine sx_tin hm dX13_widthOf_9 (by omega) (by omega) (off := 733) (by rw [z0]; rfl) (tgt := 742) rfl ?_
                                                                                                          refine mx_S.ext [] (mx_sub_pos [] rfl (show ([0] : List Nat).Nodup by decide)) ?_
                                                                                                          exact j_X13_widthOf_742_ok X hF hL nn h hf
                                                                                                        · refine sx_tin hm dX13_widthOf_9 (by omega) (by omega) (off := 733) (by rw [z0]; rfl) (tgt := 742) rfl ?_
                                                                                                          refine mx_S.ext [] (mx_sub_pos [] rfl (show ([0] : List Nat).Nodup by decide)) ?_
                                                                                                          exact j_X13_widthOf_742_ok X hF hL nn h hf
                                                                                                        · refine sx_tin hm dX13_widthOf_9 (by omega) (by omega) (off := 733) (by rw [z0]; rfl) (tgt := 742) rfl ?_
                                                                                                          refine mx_S.ext [] (mx_sub_pos [] rfl (show ([0] : List Nat).Nodup by decide)) ?_
                                                                                                          exact j_X13_widthOf_742_ok X hF hL nn h hf
                                                                                                        · exact absurd (Int32.toInt_inj.mp (z0.trans (by decide : (104 : Int) = (104 : Int32).toInt))) n_14
                                                                                                        · refine sx_tin hm dX13_widthOf_9 (by omega) (by omega) (off := 733) (by rw [z0]; rfl) (tgt := 742) rfl ?_
                                                                                                          refine mx_S.ext [] (mx_sub_pos [] rfl (show ([0] : List Nat).Nodup by decide)) ?_
                                                                                                          exact j_X13_widthOf_742_ok X hF hL nn h hf
                                                                                                        · refine sx_tin hm dX13_widthOf_9 (by omega) (by omega) (off := 733) (by rw [z0]; rfl) (tgt := 742) rfl ?_
                                                                                                          refine mx_S.ext [] (mx_sub_pos [] rfl (show ([0] : List Nat).Nodup by decide)) ?_
                                                                                                          exact j_X13_widthOf_742_ok X hF hL nn h hf
                                                                                                        · refine sx_tin hm dX13_widthOf_9 (by omega) (by omega) (off := 733) (by rw [z0]; rfl) (tgt := 742) rfl ?_
                                                                                                          refine mx_S.ext [] (mx_sub_pos [] rfl (show ([0] : List Nat).Nodup by decide)) ?_
                                                                                                          exact j_X13_widthOf_742_ok X hF hL nn h hf
                                                                                                        · exact absurd (Int32.toInt_inj.mp (z0.trans (by decide : (108 : Int) = (108 : Int32).toInt))) n_15
                                                                                                        · refine sx_tin hm dX13_widthOf_9 (by omega) (by omega) (off := 733) (by rw [z0]; rfl) (tgt := 742) rfl ?_
                                                                                                          refine mx_S.ext [] (mx_sub_pos [] rfl (show ([0] : List Nat).Nodup by decide)) ?_
                                                                                                          exact j_X13_widthOf_742_ok X hF hL nn h hf
                                                                                                        · refine sx_tin hm dX13_widthOf_9 (by omega) (by omega) (off := 733) (by rw [z0]; rfl) (tgt := 742) rfl ?_
                                                                                                          refine mx_S.ext [] (mx_sub_pos [] rfl (show ([0] : List Nat).Nodup by decide)) ?_
                                                                                                          exact j_X13_widthOf_742_ok X hF hL nn h hf
                                                                                                        · refine sx_tin hm dX13_widthOf_9 (by omega) (by omega) (off := 733) (by rw [z0]; rfl) (tgt := 742) rfl ?_
                                                                                                          refine mx_S.ext [] (mx_sub_pos [] rfl (show ([0] : List Nat).Nodup by decide)) ?_
                                                                                                          exact j_X13_widthOf_742_ok X hF hL nn h hf
                                                                                                        · exact absurd (Int32.toInt_inj.mp (z0.trans (by decide : (112 : Int) = (112 : Int32).toInt))) n_16
                                                                                                        · refine sx_tin hm dX13_widthOf_9 (by omega) (by omega) (off := 733) (by rw [z0]; rfl) (tgt := 742) rfl ?_
                                                                                                          refine mx_S.ext [] (mx_sub_pos [] rfl (show ([0] : List Nat).Nodup by decide)) ?_
                                                                                                          exact j_X13_widthOf_742_ok X hF hL nn h hf
                                                                                                        · refine sx_tin hm dX13_widthOf_9 (by omega) (by omega) (off := 733) (by rw [z0]; rfl) (tgt := 742) rfl ?_
                                                                                                          refine mx_S.ext [] (mx_sub_pos [] rfl (show ([0] : List Nat).Nodup by decide)) ?_
                                                                                                          exact j_X13_widthOf_742_ok X hF hL nn h hf
                                                                                                        · refine sx_tin hm dX13_widthOf_9 (by omega) (by omega) (off := 733) (by rw [z0]; rfl) (tgt := 742) rfl ?_
                                                                                                          refine mx_S.ext [] (mx_sub_pos [] rfl (show ([0] : List Nat).Nodup by decide)) ?_
                                                                                                          exact j_X13_widthOf_742_ok X hF hL nn h hf
                                                                                                        · exact absurd (Int32.toInt_inj.mp (z0.trans (by decide : (116 : Int) = (116 : Int32).toInt))) n_17
                                                                                                        · refine sx_tin hm dX13_widthOf_9 (by omega) (by omega) (off := 733) (by rw [z0]; rfl) (tgt := 742) rfl ?_
                                                                                                          refine mx_S.ext [] (mx_sub_pos [] rfl (show ([0] : List Nat).Nodup by decide)) ?_
                                                                                                          exact j_X13_widthOf_742_ok X hF hL nn h hf
                                                                                                        · refine sx_tin hm dX13_widthOf_9 (by omega) (by omega) (off := 733) (by rw [z0]; rfl) (tgt := 742) rfl ?_
                                                                                                          refine mx_S.ext [] (mx_sub_pos [] rfl (show ([0] : List Nat).Nodup by decide)) ?_
                                                                                                          exact j_X13_widthOf_742_ok X hF hL nn h hf
                                                                                                        · refine sx_tin hm dX13_widthOf_9 (by omega) (by omega) (off := 733) (by rw [z0]; rfl) (tgt := 742) rfl ?_
                                                                                                          refine mx_S.ext [] (mx_sub_pos [] rfl (show ([0] : List Nat).Nodup by decide)) ?_
                                                                                                          exact j_X13_widthOf_742_ok X hF hL nn h hf
                                                                                                        · exact absurd (Int32.toInt_inj.mp (z0.trans (by decide : (120 : Int) = (120 : Int32).toInt))) n_18
                                                                                                        · refine sx_tin hm dX13_widthOf_9 (by omega) (by omega) (off := 733) (by rw [z0]; rfl) (tgt := 742) rfl ?_
                                                                                                          refine mx_S.ext [] (mx_sub_pos [] rfl (show ([0] : List Nat).Nodup by decide)) ?_
                                                                                                          exact j_X13_widthOf_742_ok X hF hL nn h hf
                                                                                                        · exact absurd (Int32.toInt_inj.mp (z0.trans (by decide : (122 : Int) = (122 : Int32).toInt))) n_19
                                                                                                        · refine sx_tin hm dX13_widthOf_9 (by omega) (by omega) (off := 733) (by rw [z0]; rfl) (tgt := 742) rfl ?_
                                                                                                          refine mx_S.ext [] (mx_sub_pos [] rfl (show ([0] : List Nat).Nodup by decide)) ?_
                                                                                                          exact j_X13_widthOf_742_ok X hF hL nn h hf
                                                                                                        · exact absurd (Int32.toInt_inj.mp (z0.trans (by decide : (124 : Int) = (124 : Int32).toInt))) n_20
                                                                                                        · refine sx_tin hm dX13_widthOf_9 (by omega) (by omega) (off := 733) (by rw [z0]; rfl) (tgt := 742) rfl ?_
                                                                                                          refine mx_S.ext [] (mx_sub_pos [] rfl (show ([0] : List Nat).Nodup by decide)) ?_
                                                                                                          exact j_X13_widthOf_742_ok X hF hL nn h hf
                                                                                                        · exact absurd (Int32.toInt_inj.mp (z0.trans (by decide : (126 : Int) = (126 : Int32).toInt))) n_21
                                                                                                        · refine sx_tin hm dX13_widthOf_9 (by omega) (by omega) (off := 733) (by rw [z0]; rfl) (tgt := 742) rfl ?_
                                                                                                          refine mx_S.ext [] (mx_sub_pos [] rfl (show ([0] : List Nat).Nodup by decide)) ?_
                                                                                                          exact j_X13_widthOf_742_ok X hF hL nn h hf
                                                                                                        · exact absurd (Int32.toInt_inj.mp (z0.trans (by decide : (128 : Int) = (128 : Int32).toInt))) n_22
                                                                                                        · refine sx_tin hm dX13_widthOf_9 (by omega) (by omega) (off := 733) (by rw [z0]; rfl) (tgt := 742) rfl ?_
                                                                                                          refine mx_S.ext [] (mx_sub_pos [] rfl (show ([0] : List Nat).Nodup by decide)) ?_
                                                                                                          exact j_X13_widthOf_742_ok X hF hL nn h hf
                                                                                                        · exact absurd (Int32.toInt_inj.mp (z0.trans (by decide : (130 : Int) = (130 : Int32).toInt))) n_23
                                                                                                        · refine sx_tin hm dX13_widthOf_9 (by omega) (by omega) (off := 733) (by rw [z0]; rfl) (tgt := 742) rfl ?_
                                                                                                          refine mx_S.ext [] (mx_sub_pos [] rfl (show ([0] : List Nat).Nodup by decide)) ?_
                                                                                                          exact j_X13_widthOf_742_ok X hF hL nn h hf
                                                                                                        · refine sx_tin hm dX13_widthOf_9 (by omega) (by omega) (off := 733) (by rw [z0]; rfl) (tgt := 742) rfl ?_
                                                                                                          refine mx_S.ext [] (mx_sub_pos [] rfl (show ([0] : List Nat).Nodup by decide)) ?_
                                                                                                          exact j_X13_widthOf_742_ok X hF hL nn h hf
                                                                                                        · refine sx_tin hm dX13_widthOf_9 (by omega) (by omega) (off := 733) (by rw [z0]; rfl) (tgt := 742) rfl ?_
                                                                                                          refine mx_S.ext [] (mx_sub_pos [] rfl (show ([0] : List Nat).Nodup by decide)) ?_
                                                                                                          exact j_X13_widthOf_742_ok X hF hL nn h hf
                                                                                                        · refine sx_tin hm dX13_widthOf_9 (by omega) (by omega) (off := 733) (by rw [z0]; rfl) (tgt := 742) rfl ?_
                                                                                                          refine mx_S.ext [] (mx_sub_pos [] rfl (show ([0] : List Nat).Nodup by decide)) ?_
                                                                                                          exact j_X13_widthOf_742_ok X hF hL nn h hf
                                                                                                        · refine sx_tin hm dX13_widthOf_9 (by omega) (by omega) (off := 733) (by rw [z0]; rfl) (tgt := 742) rfl ?_
                                                                                                          refine mx_S.ext [] (mx_sub_pos [] rfl (show ([0] : List Nat).Nodup by decide)) ?_
                                                                                                          exact j_X13_widthOf_742_ok X hF hL nn h hf
                                                                                                        · refine sx_tin hm dX13_widthOf_9 (by omega) (by omega) (off := 733) (by rw [z0]; rfl) (tgt := 742) rfl ?_
                                                                                                          refine mx_S.ext [] (mx_sub_pos [] rfl (show ([0] : List Nat).Nodup by decide)) ?_
                                                                                                          exact j_X13_widthOf_742_ok X hF hL nn h hf
                                                                                                        · refine sx_tin hm dX13_widthOf_9 (by omega) (by omega) (off := 733) (by rw [z0]; rfl) (tgt := 742) rfl ?_
                                                                                                          refine mx_S.ext [] (mx_sub_pos [] rfl (show ([0] : List Nat).Nodup by decide)) ?_
                                                                                                          exact j_X13_widthOf_742_ok X hF hL nn h hf
                                                                                                        · refine sx_tin hm dX13_widthOf_9 (by omega) (by omega) (off := 733) (by rw [z0]; rfl) (tgt := 742) rfl ?_
                                                                                                          refine mx_S.ext [] (mx_sub_pos [] rfl (show ([0] : List Nat).Nodup by decide)) ?_
                                                                                                          exact j_X13_widthOf_742_ok X hF hL nn h hf
                                                                                                        · refine sx_tin hm dX13_widthOf_9 (by omega) (by omega) (off := 733) (by rw [z0]; rfl) (tgt := 742) rfl ?_
                                                                                                          refine mx_S.ext [] (mx_sub_pos [] rfl (show ([0] : List Nat).Nodup by decide)) ?_
                                                                                                          exact j_X13_widthOf_742_ok X hF hL nn h hf
                                                                                                        · refine sx_tin hm dX13_widthOf_9 (by omega) (by omega) (off := 733) (by rw [z0]; rfl) (tgt := 742) rfl ?_
                                                                                                          refine mx_S.ext [] (mx_sub_pos [] rfl (show ([0] : List Nat).Nodup by decide)) ?_
                                                                                                          exact j_X13_widthOf_742_ok X hF hL nn h hf
                                                                                                        · refine sx_tin hm dX13_widthOf_9 (by omega) (by omega) (off := 733) (by rw [z0]; rfl) (tgt := 742) rfl ?_
                                                                                                          refine mx_S.ext [] (mx_sub_pos [] rfl (show ([0] : List Nat).Nodup by decide)) ?_
                                                                                                          exact j_X13_widthOf_742_ok X hF hL nn h hf
                                                                                                        · refine sx_tin hm dX13_widthOf_9 (by omega) (by omega) (off := 733) (by rw [z0]; rfl) (tgt := 742) rfl ?_
                                                                                                          refine mx_S.ext [] (mx_sub_pos [] rfl (show ([0] : List Nat).Nodup by decide)) ?_
                                                                                                          exact j_X13_widthOf_742_ok X hF hL nn h hf
                                                                                                        · refine sx_tin hm dX13_widthOf_9 (by omega) (by omega) (off := 733) (by rw [z0]; rfl) (tgt := 742) rfl ?_
                                                                                                          refine mx_S.ext [] (mx_sub_pos [] rfl (show ([0] : List Nat).Nodup by decide)) ?_
                                                                                                          exact j_X13_widthOf_742_ok X hF hL nn h hf
                                                                                                        · refine sx_tin hm dX13_widthOf_9 (by omega) (by omega) (off := 733) (by rw [z0]; rfl) (tgt := 742) rfl ?_
                                                                                                          refine mx_S.ext [] (mx_sub_pos [] rfl (show ([0] : List Nat).Nodup by decide)) ?_
                                                                                                          exact j_X13_widthOf_742_ok X hF hL nn h hf
                                                                                                        · refine sx_tin hm dX13_widthOf_9 (by omega) (by omega) (off := 733) (by rw [z0]; rfl) (tgt := 742) rfl ?_
                                                                                                          refine mx_S.ext [] (mx_sub_pos [] rfl (show ([0] : List Nat).Nodup by decide)) ?_
                                                                                                          exact j_X13_widthOf_742_ok X hF hL nn h hf
                                                                                                        · refine sx_tin hm dX13_widthOf_9 (by omega) (by omega) (off := 733) (by rw [z0]; rfl) (tgt := 742) rfl ?_
                                                                                                          refine mx_S.ext [] (mx_sub_pos [] rfl (show ([0] : List Nat).Nodup by decide)) ?_
                                                                                                          exact j_X13_widthOf_742_ok X hF hL nn h hf
                                                                                                        · refine sx_tin hm dX13_widthOf_9 (by omega) (by omega) (off := 733) (by rw [z0]; rfl) (tgt := 742) rfl ?_
                                                                                                          refine mx_S.ext [] (mx_sub_pos [] rfl (show ([0] : List Nat).Nodup by decide)) ?_
                                                                                                          exact j_X13_widthOf_742_ok X hF hL nn h hf
                                                                                                        · refine sx_tin hm dX13_widthOf_9 (by omega) (by omega) (off := 733) (by rw [z0]; rfl) (tgt := 742) rfl ?_
                                                                                                          refine mx_S.ext [] (mx_sub_pos [] rfl (show ([0] : List Nat).Nodup by decide)) ?_
                                                                                                          exact j_X13_widthOf_742_ok X hF hL nn h hf
                                                                                                        · refine sx_tin hm dX13_widthOf_9 (by omega) (by omega) (off := 733) (by rw [z0]; rfl) (tgt := 742) rfl ?_
                                                                                                          refine mx_S.ext [] (mx_sub_pos [] rfl (show ([0] : List Nat).Nodup by decide)) ?_
                                                                                                          exact j_X13_widthOf_742_ok X hF hL nn h hf
                                                                                                        · refine sx_tin hm dX13_widthOf_9 (by omega) (by omega) (off := 733) (by rw [z0]; rfl) (tgt := 742) rfl ?_
                                                                                                          refine mx_S.ext [] (mx_sub_pos [] rfl (show ([0] : List Nat).Nodup by decide)) ?_
                                                                                                          exact j_X13_widthOf_742_ok X hF hL nn h hf
                                                                                                        · refine sx_tin hm dX13_widthOf_9 (by omega) (by omega) (off := 733) (by rw [z0]; rfl) (tgt := 742) rfl ?_
                                                                                                          refine mx_S.ext [] (mx_sub_pos [] rfl (show ([0] : List Nat).Nodup by decide)) ?_
                                                                                                          exact j_X13_widthOf_742_ok X hF hL nn h hf
                                                                                                        · refine sx_tin hm dX13_widthOf_9 (by omega) (by omega) (off := 733) (by rw [z0]; rfl) (tgt := 742) rfl ?_
                                                                                                          refine mx_S.ext [] (mx_sub_pos [] rfl (show ([0] : List Nat).Nodup by decide)) ?_
                                                                                                          exact j_X13_widthOf_742_ok X hF hL nn h hf
                                                                                                        · exact absurd (Int32.toInt_inj.mp (z0.trans (by decide : (153 : Int) = (153 : Int32).toInt))) n_24
                                                                                                        · exact absurd (Int32.toInt_inj.mp (z0.trans (by decide : (154 : Int) = (154 : Int32).toInt))) n_25
                                                                                                        · refine sx_tin hm dX13_widthOf_9 (by omega) (by omega) (off := 733) (by rw [z0]; rfl) (tgt := 742) rfl ?_
                                                                                                          refine mx_S.ext [] (mx_sub_pos [] rfl (show ([0] : List Nat).Nodup by decide)) ?_
                                                                                                          exact j_X13_widthOf_742_ok X hF hL nn h hf
                                                                                                        · refine sx_tin hm dX13_widthOf_9 (by omega) (by omega) (off := 733) (by rw [z0]; rfl) (tgt := 742) rfl ?_
                                                                                                          refine mx_S.ext [] (mx_sub_pos [] rfl (show ([0] : List Nat).Nodup by decide)) ?_
                                                                                                          exact j_X13_widthOf_742_ok X hF hL nn h hf
                                                                                                        · refine sx_tin hm dX13_widthOf_9 (by omega) (by omega) (off := 733) (by rw [z0]; rfl) (tgt := 742) rfl ?_
                                                                                                          refine mx_S.ext [] (mx_sub_pos [] rfl (show ([0] : List Nat).Nodup by decide)) ?_
                                                                                                          exact j_X13_widthOf_742_ok X hF hL nn h hf
                                                                                                        · refine sx_tin hm dX13_widthOf_9 (by omega) (by omega) (off := 733) (by rw [z0]; rfl) (tgt := 742) rfl ?_
                                                                                                          refine mx_S.ext [] (mx_sub_pos [] rfl (show ([0] : List Nat).Nodup by decide)) ?_
                                                                                                          exact j_X13_widthOf_742_ok X hF hL nn h hf
                                                                                                        · exact absurd (Int32.toInt_inj.mp (z0.trans (by decide : (159 : Int) = (159 : Int32).toInt))) n_26
                                                                                                        · exact absurd (Int32.toInt_inj.mp (z0.trans (by decide : (160 : Int) = (160 : Int32).toInt))) n_27
                                                                                                        · exact absurd (Int32.toInt_inj.mp (z0.trans (by decide : (161 : Int) = (161 : Int32).toInt))) n_28
                                                                                                        · exact absurd (Int32.toInt_inj.mp (z0.trans (by decide : (162 : Int) = (162 : Int32).toInt))) n_29
                                                                                                        · exact absurd (Int32.toInt_inj.mp (z0.trans (by decide : (163 : Int) = (163 : Int32).toInt))) n_30
                                                                                                        · exact absurd (Int32.toInt_inj.mp (z0.trans (by decide : (164 : Int) = (164 : Int32).toInt))) n_31
                                                                                                        · exact absurd (Int32.toInt_inj.mp (z0.trans (by decide : (165 : Int) = (165 : Int32).toInt))) n_32
                                                                                                        · exact absurd (Int32.toInt_inj.mp (z0.trans (by decide : (166 : Int) = (166 : Int32).toInt))) n_33
                                                                                                        · exact absurd (Int32.toInt_inj.mp (z0.trans (by decide : (167 : Int) = (167 : Int32).toInt))) n_34
                                                                                                        · refine sx_tin hm dX13_widthOf_9 (by omega) (by omega) (off := 733) (by rw [z0]; rfl) (tgt := 742) rfl ?_
                                                                                                          refine mx_S.ext [] (mx_sub_pos [] rfl (show ([0] : List Nat).Nodup by decide)) ?_
                                                                                                          exact j_X13_widthOf_742_ok X hF hL nn h hf
                                                                                                        · refine sx_tin hm dX13_widthOf_9 (by omega) (by omega) (off := 733) (by rw [z0]; rfl) (tgt := 742) rfl ?_
                                                                                                          refine mx_S.ext [] (mx_sub_pos [] rfl (show ([0] : List Nat).Nodup by decide)) ?_
                                                                                                          exact j_X13_widthOf_742_ok X hF hL nn h hf
                                                                                                        · refine sx_tin hm dX13_widthOf_9 (by omega) (by omega) (off := 733) (by rw [z0]; rfl) (tgt := 742) rfl ?_
                                                                                                          refine mx_S.ext [] (mx_sub_pos [] rfl (show ([0] : List Nat).Nodup by decide)) ?_
                                                                                                          exact j_X13_widthOf_742_ok X hF hL nn h hf
                                                                                                        · refine sx_tin hm dX13_widthOf_9 (by omega) (by omega) (off := 733) (by rw [z0]; rfl) (tgt := 742) rfl ?_
                                                                                                          refine mx_S.ext [] (mx_sub_pos [] rfl (show ([0] : List Nat).Nodup by decide)) ?_
                                                                                                          exact j_X13_widthOf_742_ok X hF hL nn h hf
                                                                                                        · exact absurd (Int32.toInt_inj.mp (z0.trans (by decide : (172 : Int) = (172 : Int32).toInt))) n_35
                                                                                                        · refine sx_tin hm dX13_widthOf_9 (by omega) (by omega) (off := 733) (by rw [z0]; rfl) (tgt := 742) rfl ?_
                                                                                                          refine mx_S.ext [] (mx_sub_pos [] rfl (show ([0] : List Nat).Nodup by decide)) ?_
                                                                                                          exact j_X13_widthOf_742_ok X hF hL nn h hf
                                                                                                        · refine sx_tin hm dX13_widthOf_9 (by omega) (by omega) (off := 733) (by rw [z0]; rfl) (tgt := 742) rfl ?_
                                                                                                          refine mx_S.ext [] (mx_sub_pos [] rfl (show ([0] : List Nat).Nodup by decide)) ?_
                                                                                                          exact j_X13_widthOf_742_ok X hF hL nn h hf
                                                                                                        · refine sx_tin hm dX13_widthOf_9 (by omega) (by omega) (off := 733) (by rw [z0]; rfl) (tgt := 742) rfl ?_
                                                                                                          refine mx_S.ext [] (mx_sub_pos [] rfl (show ([0] : List Nat).Nodup by decide)) ?_
                                                                                                          exact j_X13_widthOf_742_ok X hF hL nn h hf
                                                                                                        · exact absurd (Int32.toInt_inj.mp (z0.trans (by decide : (176 : Int) = (176 : Int32).toInt))) n_36
                                                                                                        · exact absurd (Int32.toInt_inj.mp (z0.trans (by decide : (177 : Int) = (177 : Int32).toInt))) n_37
                                                                                                        · refine sx_tin hm dX13_widthOf_9 (by omega) (by omega) (off := 733) (by rw [z0]; rfl) (tgt := 742) rfl ?_
                                                                                                          refine mx_S.ext [] (mx_sub_pos [] rfl (show ([0] : List Nat).Nodup by decide)) ?_
                                                                                                          exact j_X13_widthOf_742_ok X hF hL nn h hf
                                                                                                        · refine sx_tin hm dX13_widthOf_9 (by omega) (by omega) (off := 733) (by rw [z0]; rfl) (tgt := 742) rfl ?_
                                                                                                          refine mx_S.ext [] (mx_sub_pos [] rfl (show ([0] : List Nat).Nodup by decide)) ?_
                                                                                                          exact j_X13_widthOf_742_ok X hF hL nn h hf
                                                                                                        · exact absurd (Int32.toInt_inj.mp (z0.trans (by decide : (180 : Int) = (180 : Int32).toInt))) n_38
                                                                                                        · exact absurd (Int32.toInt_inj.mp (z0.trans (by decide : (181 : Int) = (181 : Int32).toInt))) n_39
                                                                                                        · exact absurd (Int32.toInt_inj.mp (z0.trans (by decide : (182 : Int) = (182 : Int32).toInt))) n_40
                                                                                                        · refine sx_tin hm dX13_widthOf_9 (by omega) (by omega) (off := 733) (by rw [z0]; rfl) (tgt := 742) rfl ?_
                                                                                                          refine mx_S.ext [] (mx_sub_pos [] rfl (show ([0] : List Nat).Nodup by decide)) ?_
                                                                                                          exact j_X13_widthOf_742_ok X hF hL nn h hf
                                                                                                        · exact absurd (Int32.toInt_inj.mp (z0.trans (by decide : (184 : Int) = (184 : Int32).toInt))) n_41
                                                                                                        · refine sx_tin hm dX13_widthOf_9 (by omega) (by omega) (off := 733) (by rw [z0]; rfl) (tgt := 742) rfl ?_
                                                                                                          refine mx_S.ext [] (mx_sub_pos [] rfl (show ([0] : List Nat).Nodup by decide)) ?_
                                                                                                          exact j_X13_widthOf_742_ok X hF hL nn h hf
                                                                                                        · exact absurd (Int32.toInt_inj.mp (z0.trans (by decide : (186 : Int) = (186 : Int32).toInt))) n_42
                                                                                                        · exact absurd (Int32.toInt_inj.mp (z0.trans (by decide : (187 : Int) = (187 : Int32).toInt))) n_43
                                                                                                        · exact absurd (Int32.toInt_inj.mp (z0.trans (by decide : (188 : Int) = (188 : Int32).toInt))) n_44
                                                                                                        · exact absurd (Int32.toInt_inj.mp (z0.trans (by decide : (189 : Int) = (189 : Int32).toInt))) n_45
                                                                                                        · exact absurd (Int32.toInt_inj.mp (z0.trans (by decide : (190 : Int) = (190 : Int32).toInt))) n_46
                                                                                                        · exact absurd (Int32.toInt_inj.mp (z0.trans (by decide : (191 : Int) = (191 : Int32).toInt))) n_47
                                                                                                        · exact absurd (Int32.toInt_inj.mp (z0.trans (by decide : (192 : Int) = (192 : Int32).toInt))) n_48
                                                                                                        · exact absurd (Int32.toInt_inj.mp (z0.trans (by decide : (193 : Int) = (193 : Int32).toInt))) n_49
  · refine sb_ic_gt hm dX13_widthOf_3 (tgt := 8) rfl (fun z => absurd z c1) (fun _ => ?_)
    refine sx_ic (v := 1) hm dX13_widthOf_6 (by decide) ?_
    cases hf
    exact sx_ire hm dX13_widthOf_7 rfl rfl

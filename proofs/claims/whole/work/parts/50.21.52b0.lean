set_option maxHeartbeats 4000000 in
set_option maxRecDepth 20000 in
theorem j_X13_jumps_155_ok (X : Nat × (Nat → Int32)) {F L : Nat} (hF : 1 ≤ F) (hL : 21 ≤ L) (nn : Nat) (l2 : Int32) (l3 : Int32) (h : mx_H) {r : (Int32 × mx_H)} (hf : j_X13_jumps_155 nn l2 l3 h = some r) : mx_S X F L 585 155 [(2, .int l2), (3, .int l3)] [] h 0 0 (some (.int r.1), r.2, 0, 0) := by
  have hm : mx_mt 585 = some (yX13_jumps, cX13_jumps, 4, (some .boolean)) := mt_X13_jumps
  unfold j_X13_jumps_155 at hf
  refine mx_S.pu (pc2 := 156) (lv2 := [(2, .int l2), (3, .int l3)]) (st2 := [.int l3]) hm dX13_jumps_155 rfl ?_
  refine mx_S.pu (pc2 := 157) (lv2 := [(2, .int l2), (3, .int l3)]) (st2 := [.int l2, .int l3]) hm dX13_jumps_156 rfl ?_
  rcases mx_if_el hf with ⟨c1, hf⟩ | ⟨c1, hf⟩
  · refine sb_ic_gt hm dX13_jumps_157 (tgt := 164) rfl (fun _ => ?_) (fun z => absurd c1 z)
    refine sx_ic (v := 0) hm dX13_jumps_164 (by decide) ?_
    cases hf
    exact sx_ire hm dX13_jumps_165 rfl (by decide)
  · refine sb_ic_gt hm dX13_jumps_157 (tgt := 164) rfl (fun z => absurd z c1) (fun _ => ?_)
    refine sx_ic (v := 1) hm dX13_jumps_160 (by decide) ?_
    refine mx_S.pu (pc2 := 165) (lv2 := [(2, .int l2), (3, .int l3)]) (st2 := [.int 1]) hm dX13_jumps_161 rfl ?_
    cases hf
    exact sx_ire hm dX13_jumps_165 rfl (by decide)
set_option maxHeartbeats 4000000 in
set_option maxRecDepth 20000 in
theorem j_X13_jumps_111_ok (X : Nat × (Nat → Int32)) {F L : Nat} (hF : 1 ≤ F) (hL : 21 ≤ L) (nn : Nat) (l2 : Int32) (l3 : Int32) (h : mx_H) {r : (Int32 × mx_H)} (hf : j_X13_jumps_111 nn l2 l3 h = some r) : mx_S X F L 585 111 [(2, .int l2), (3, .int l3)] [] h 0 0 (some (.int r.1), r.2, 0, 0) := by
  have hm : mx_mt 585 = some (yX13_jumps, cX13_jumps, 4, (some .boolean)) := mt_X13_jumps
  unfold j_X13_jumps_111 at hf
  refine mx_S.pu (pc2 := 112) (lv2 := [(2, .int l2), (3, .int l3)]) (st2 := [.int l3]) hm dX13_jumps_111 rfl ?_
  refine mx_S.pu (pc2 := 113) (lv2 := [(2, .int l2), (3, .int l3)]) (st2 := [.int l2, .int l3]) hm dX13_jumps_112 rfl ?_
  rcases mx_if_el hf with ⟨c2, hf⟩ | ⟨c2, hf⟩
  · refine sb_ic_eq hm dX13_jumps_113 (tgt := 120) rfl (fun _ => ?_) (fun z => absurd c2 z)
    refine sx_ic (v := 0) hm dX13_jumps_120 (by decide) ?_
    cases hf
    exact sx_ire hm dX13_jumps_121 rfl (by decide)
  · refine sb_ic_eq hm dX13_jumps_113 (tgt := 120) rfl (fun z => absurd z c2) (fun _ => ?_)
    refine sx_ic (v := 1) hm dX13_jumps_116 (by decide) ?_
    refine mx_S.pu (pc2 := 121) (lv2 := [(2, .int l2), (3, .int l3)]) (st2 := [.int 1]) hm dX13_jumps_117 rfl ?_
    cases hf
    exact sx_ire hm dX13_jumps_121 rfl (by decide)
set_option maxHeartbeats 4000000 in
set_option maxRecDepth 20000 in
theorem j_X13_jumps_100_ok (X : Nat × (Nat → Int32)) {F L : Nat} (hF : 1 ≤ F) (hL : 21 ≤ L) (nn : Nat) (l2 : Int32) (l3 : Int32) (h : mx_H) {r : (Int32 × mx_H)} (hf : j_X13_jumps_100 nn l2 l3 h = some r) : mx_S X F L 585 100 [(2, .int l2), (3, .int l3)] [] h 0 0 (some (.int r.1), r.2, 0, 0) := by
  have hm : mx_mt 585 = some (yX13_jumps, cX13_jumps, 4, (some .boolean)) := mt_X13_jumps
  unfold j_X13_jumps_100 at hf
  refine mx_S.pu (pc2 := 101) (lv2 := [(2, .int l2), (3, .int l3)]) (st2 := [.int l3]) hm dX13_jumps_100 rfl ?_
  refine mx_S.pu (pc2 := 102) (lv2 := [(2, .int l2), (3, .int l3)]) (st2 := [.int l2, .int l3]) hm dX13_jumps_101 rfl ?_
  rcases mx_if_el hf with ⟨c3, hf⟩ | ⟨c3, hf⟩
  · refine sb_ic_ne hm dX13_jumps_102 (tgt := 109) rfl (fun _ => ?_) (fun z => absurd c3 z)
    refine sx_ic (v := 0) hm dX13_jumps_109 (by decide) ?_
    cases hf
    exact sx_ire hm dX13_jumps_110 rfl (by decide)
  · refine sb_ic_ne hm dX13_jumps_102 (tgt := 109) rfl (fun z => absurd z c3) (fun _ => ?_)
    refine sx_ic (v := 1) hm dX13_jumps_105 (by decide) ?_
    refine mx_S.pu (pc2 := 110) (lv2 := [(2, .int l2), (3, .int l3)]) (st2 := [.int 1]) hm dX13_jumps_106 rfl ?_
    cases hf
    exact sx_ire hm dX13_jumps_110 rfl (by decide)
set_option maxHeartbeats 4000000 in
set_option maxRecDepth 20000 in
theorem f_X13_jumps_ok (X : Nat × (Nat → Int32)) {F L : Nat} (hF : 1 ≤ F) (hL : 21 ≤ L) (nn : Nat) (a0 : Nat) (a1 : Int32) (h : mx_H) {r : (Int32 × mx_H)} (hf : f_X13_jumps nn a0 a1 h = some r) : mx_R X F L 585 [.ref a0, .int a1] h (some (.int r.1), r.2, 0, 0) := by
  have hm : mx_mt 585 = some (yX13_jumps, cX13_jumps, 4, (some .boolean)) := mt_X13_jumps
  show mx_S X F L 585 0 [(0, .ref a0), (1, .int a1)] [] h 0 0 (some (.int r.1), r.2, 0, 0)
  unfold f_X13_jumps at hf
  refine mx_S.pu (pc2 := 1) (lv2 := [(0, .ref a0), (1, .int a1)]) (st2 := [.int a1]) hm dX13_jumps_0 rfl ?_
  refine sx_si (v := 167) hm dX13_jumps_1 (by decide) ?_
  rcases mx_if_el hf with ⟨c15, hf⟩ | ⟨c15, hf⟩
  · refine sb_ic_ne hm dX13_jumps_4 (tgt := 9) rfl (fun _ => ?_) (fun z => absurd c15 z)
    refine mx_S.pu (pc2 := 10) (lv2 := [(0, .ref a0), (1, .int a1)]) (st2 := [.ref a0]) hm dX13_jumps_9 rfl ?_
    replace hf := mx_gd_el hf; obtain ⟨c4, hf⟩ := hf
    replace hf := mx_sv_el hf; obtain ⟨u5, e_u5, hf⟩ := hf
    refine sx_cv hm dX13_jumps_10 rs_RX13_1087 mt_X13_drop [] [] (b := a0) (ci := 13) rfl rfl rfl c4 (Nat.le_of_ble_eq_true rfl) (Nat.le_of_ble_eq_true rfl) (by omega) (by omega) (f_X13_drop_ok X (by omega) (by omega) nn a0 h e_u5) ?_
    clear e_u5
    show mx_S X F L 585 13 [(0, .ref a0), (1, .int a1)] [.int u5.1] u5.2 0 0 (some (.int r.1), r.2, 0, 0)
    refine mx_S.pu (pc2 := 14) (lv2 := [(2, .int u5.1), (0, .ref a0), (1, .int a1)]) (st2 := []) hm dX13_jumps_13 rfl ?_
    refine mx_S.pu (pc2 := 15) (lv2 := [(2, .int u5.1), (0, .ref a0), (1, .int a1)]) (st2 := [.int a1]) hm dX13_jumps_14 rfl ?_
    refine sx_si (v := 153) hm dX13_jumps_15 (by decide) ?_
    rcases mx_if_el hf with ⟨c14, hf⟩ | ⟨c14, hf⟩
    · refine sb_ic_ne hm dX13_jumps_18 (tgt := 31) rfl (fun _ => ?_) (fun z => absurd c14 z)
      refine mx_S.pu (pc2 := 32) (lv2 := [(2, .int u5.1), (0, .ref a0), (1, .int a1)]) (st2 := [.int a1]) hm dX13_jumps_31 rfl ?_
      refine sx_si (v := 154) hm dX13_jumps_32 (by decide) ?_
      rcases mx_if_el hf with ⟨c12, hf⟩ | ⟨c12, hf⟩
      · refine sb_ic_ne hm dX13_jumps_35 (tgt := 48) rfl (fun _ => ?_) (fun z => absurd c12 z)
        refine mx_S.pu (pc2 := 49) (lv2 := [(2, .int u5.1), (0, .ref a0), (1, .int a1)]) (st2 := [.ref a0]) hm dX13_jumps_48 rfl ?_
        replace hf := mx_gd_el hf; obtain ⟨c6, hf⟩ := hf
        replace hf := mx_sv_el hf; obtain ⟨u7, e_u7, hf⟩ := hf
        refine sx_cv hm dX13_jumps_49 rs_RX13_1087 mt_X13_drop [] [] (b := a0) (ci := 13) rfl rfl rfl c6 (Nat.le_of_ble_eq_true rfl) (Nat.le_of_ble_eq_true rfl) (by omega) (by omega) (f_X13_drop_ok X (by omega) (by omega) nn a0 u5.2 e_u7) ?_
        clear e_u7
        show mx_S X F L 585 52 [(2, .int u5.1), (0, .ref a0), (1, .int a1)] [.int u7.1] u7.2 0 0 (some (.int r.1), r.2, 0, 0)
        refine mx_S.pu (pc2 := 53) (lv2 := [(3, .int u7.1), (2, .int u5.1), (0, .ref a0), (1, .int a1)]) (st2 := []) hm dX13_jumps_52 rfl ?_
        refine mx_S.pu (pc2 := 54) (lv2 := [(3, .int u7.1), (2, .int u5.1), (0, .ref a0), (1, .int a1)]) (st2 := [.int a1]) hm dX13_jumps_53 rfl ?_
        rcases mx_if_el hf with ⟨n_0, hf⟩ | ⟨n_0, hf⟩
        · refine sx_tin hm dX13_jumps_54 (by rw [n_0]; decide) (by rw [n_0]; decide) (off := 46) (by rw [n_0]; rfl) (tgt := 100) rfl ?_
          clear n_0
          refine mx_S.ext [(2, .int u5.1), (3, .int u7.1)] (mx_sub_pos [1, 0] rfl (show ([3, 2, 0, 1] : List Nat).Nodup by decide)) ?_
          exact j_X13_jumps_100_ok X hF hL nn u5.1 u7.1 u7.2 hf
        · rcases mx_if_el hf with ⟨n_1, hf⟩ | ⟨n_1, hf⟩
          · refine sx_tin hm dX13_jumps_54 (by rw [n_1]; decide) (by rw [n_1]; decide) (off := 57) (by rw [n_1]; rfl) (tgt := 111) rfl ?_
            clear n_0 n_1
            refine mx_S.ext [(2, .int u5.1), (3, .int u7.1)] (mx_sub_pos [1, 0] rfl (show ([3, 2, 0, 1] : List Nat).Nodup by decide)) ?_
            exact j_X13_jumps_111_ok X hF hL nn u5.1 u7.1 u7.2 hf
          · rcases mx_if_el hf with ⟨n_2, hf⟩ | ⟨n_2, hf⟩
            · refine sx_tin hm dX13_jumps_54 (by rw [n_2]; decide) (by rw [n_2]; decide) (off := 68) (by rw [n_2]; rfl) (tgt := 122) rfl ?_
              clear n_0 n_1 n_2
              refine mx_S.pu (pc2 := 123) (lv2 := [(3, .int u7.1), (2, .int u5.1), (0, .ref a0), (1, .int a1)]) (st2 := [.int u7.1]) hm dX13_jumps_122 rfl ?_
              refine mx_S.pu (pc2 := 124) (lv2 := [(3, .int u7.1), (2, .int u5.1), (0, .ref a0), (1, .int a1)]) (st2 := [.int u5.1, .int u7.1]) hm dX13_jumps_123 rfl ?_
              rcases mx_if_el hf with ⟨c8, hf⟩ | ⟨c8, hf⟩
              · refine sb_ic_ge hm dX13_jumps_124 (tgt := 131) rfl (fun _ => ?_) (fun z => absurd c8 z)
                refine sx_ic (v := 0) hm dX13_jumps_131 (by decide) ?_
                cases hf
                exact sx_ire hm dX13_jumps_132 rfl (by decide)
              · refine sb_ic_ge hm dX13_jumps_124 (tgt := 131) rfl (fun z => absurd z c8) (fun _ => ?_)
                refine sx_ic (v := 1) hm dX13_jumps_127 (by decide) ?_
                refine mx_S.pu (pc2 := 132) (lv2 := [(3, .int u7.1), (2, .int u5.1), (0, .ref a0), (1, .int a1)]) (st2 := [.int 1]) hm dX13_jumps_128 rfl ?_
                cases hf
                exact sx_ire hm dX13_jumps_132 rfl (by decide)
            · rcases mx_if_el hf with ⟨n_3, hf⟩ | ⟨n_3, hf⟩
              · refine sx_tin hm dX13_jumps_54 (by rw [n_3]; decide) (by rw [n_3]; decide) (off := 79) (by rw [n_3]; rfl) (tgt := 133) rfl ?_
                clear n_0 n_1 n_2 n_3
                refine mx_S.pu (pc2 := 134) (lv2 := [(3, .int u7.1), (2, .int u5.1), (0, .ref a0), (1, .int a1)]) (st2 := [.int u7.1]) hm dX13_jumps_133 rfl ?_
                refine mx_S.pu (pc2 := 135) (lv2 := [(3, .int u7.1), (2, .int u5.1), (0, .ref a0), (1, .int a1)]) (st2 := [.int u5.1, .int u7.1]) hm dX13_jumps_134 rfl ?_
                rcases mx_if_el hf with ⟨c9, hf⟩ | ⟨c9, hf⟩
                · refine sb_ic_lt hm dX13_jumps_135 (tgt := 142) rfl (fun _ => ?_) (fun z => absurd c9 z)
                  refine sx_ic (v := 0) hm dX13_jumps_142 (by decide) ?_
                  cases hf
                  exact sx_ire hm dX13_jumps_143 rfl (by decide)
                · refine sb_ic_lt hm dX13_jumps_135 (tgt := 142) rfl (fun z => absurd z c9) (fun _ => ?_)
                  refine sx_ic (v := 1) hm dX13_jumps_138 (by decide) ?_
                  refine mx_S.pu (pc2 := 143) (lv2 := [(3, .int u7.1), (2, .int u5.1), (0, .ref a0), (1, .int a1)]) (st2 := [.int 1]) hm dX13_jumps_139 rfl ?_
                  cases hf
                  exact sx_ire hm dX13_jumps_143 rfl (by decide)
              · rcases mx_if_el hf with ⟨n_4, hf⟩ | ⟨n_4, hf⟩
                · refine sx_tin hm dX13_jumps_54 (by rw [n_4]; decide) (by rw [n_4]; decide) (off := 90) (by rw [n_4]; rfl) (tgt := 144) rfl ?_
                  clear n_0 n_1 n_2 n_3 n_4
                  refine mx_S.pu (pc2 := 145) (lv2 := [(3, .int u7.1), (2, .int u5.1), (0, .ref a0), (1, .int a1)]) (st2 := [.int u7.1]) hm dX13_jumps_144 rfl ?_
                  refine mx_S.pu (pc2 := 146) (lv2 := [(3, .int u7.1), (2, .int u5.1), (0, .ref a0), (1, .int a1)]) (st2 := [.int u5.1, .int u7.1]) hm dX13_jumps_145 rfl ?_
                  rcases mx_if_el hf with ⟨c10, hf⟩ | ⟨c10, hf⟩
                  · refine sb_ic_le hm dX13_jumps_146 (tgt := 153) rfl (fun _ => ?_) (fun z => absurd c10 z)
                    refine sx_ic (v := 0) hm dX13_jumps_153 (by decide) ?_
                    cases hf
                    exact sx_ire hm dX13_jumps_154 rfl (by decide)
                  · refine sb_ic_le hm dX13_jumps_146 (tgt := 153) rfl (fun z => absurd z c10) (fun _ => ?_)
                    refine sx_ic (v := 1) hm dX13_jumps_149 (by decide) ?_
                    refine mx_S.pu (pc2 := 154) (lv2 := [(3, .int u7.1), (2, .int u5.1), (0, .ref a0), (1, .int a1)]) (st2 := [.int 1]) hm dX13_jumps_150 rfl ?_
                    cases hf
                    exact sx_ire hm dX13_jumps_154 rfl (by decide)
                · rcases mx_if_el hf with ⟨n_5, hf⟩ | ⟨n_5, hf⟩
                  · refine sx_tin hm dX13_jumps_54 (by rw [n_5]; decide) (by rw [n_5]; decide) (off := 46) (by rw [n_5]; rfl) (tgt := 100) rfl ?_
                    clear n_0 n_1 n_2 n_3 n_4 n_5
                    refine mx_S.ext [(2, .int u5.1), (3, .int u7.1)] (mx_sub_pos [1, 0] rfl (show ([3, 2, 0, 1] : List Nat).Nodup by decide)) ?_
                    exact j_X13_jumps_100_ok X hF hL nn u5.1 u7.1 u7.2 hf
                  · rcases mx_if_el hf with ⟨n_6, hf⟩ | ⟨n_6, hf⟩
                    · refine sx_tin hm dX13_jumps_54 (by rw [n_6]; decide) (by rw [n_6]; decide) (off := 57) (by rw [n_6]; rfl) (tgt := 111) rfl ?_
                      clear n_0 n_1 n_2 n_3 n_4 n_5 n_6
                      refine mx_S.ext [(2, .int u5.1), (3, .int u7.1)] (mx_sub_pos [1, 0] rfl (show ([3, 2, 0, 1] : List Nat).Nodup by decide)) ?_
                      exact j_X13_jumps_111_ok X hF hL nn u5.1 u7.1 u7.2 hf
                    · rcases (show (a1.toInt < 159 ∨ 166 < a1.toInt) ∨ a1.toInt = 159 ∨ a1.toInt = 160 ∨ a1.toInt = 161 ∨ a1.toInt = 162 ∨ a1.toInt = 163 ∨ a1.toInt = 164 ∨ a1.toInt = 165 ∨ a1.toInt = 166 by omega) with z0 | z0 | z0 | z0 | z0 | z0 | z0 | z0 | z0
                      · refine sx_tout hm dX13_jumps_54 z0 (tgt := 155) rfl ?_
                        refine mx_S.ext [(2, .int u5.1), (3, .int u7.1)] (mx_sub_pos [1, 0] rfl (show ([3, 2, 0, 1] : List Nat).Nodup by decide)) ?_
                        exact j_X13_jumps_155_ok X hF hL nn u5.1 u7.1 u7.2 hf
                      · exact absurd (Int32.toInt_inj.mp (z0.trans (by decide : (159 : Int) = (159 : Int32).toInt))) n_0
                      · exact absurd (Int32.toInt_inj.mp (z0.trans (by decide : (160 : Int) = (160 : Int32).toInt))) n_1
                      · exact absurd (Int32.toInt_inj.mp (z0.trans (by decide : (161 : Int) = (161 : Int32).toInt))) n_2
                      · exact absurd (Int32.toInt_inj.mp (z0.trans (by decide : (162 : Int) = (162 : Int32).toInt))) n_3
                      · exact absurd (Int32.toInt_inj.mp (z0.trans (by decide : (163 : Int) = (163 : Int32).toInt))) n_4
                      · refine sx_tin hm dX13_jumps_54 (by omega) (by omega) (off := 101) (by rw [z0]; rfl) (tgt := 155) rfl ?_
                        refine mx_S.ext [(2, .int u5.1), (3, .int u7.1)] (mx_sub_pos [1, 0] rfl (show ([3, 2, 0, 1] : List Nat).Nodup by decide)) ?_
                        exact j_X13_jumps_155_ok X hF hL nn u5.1 u7.1 u7.2 hf
                      · exact absurd (Int32.toInt_inj.mp (z0.trans (by decide : (165 : Int) = (165 : Int32).toInt))) n_5
                      · exact absurd (Int32.toInt_inj.mp (z0.trans (by decide : (166 : Int) = (166 : Int32).toInt))) n_6
      · refine sb_ic_ne hm dX13_jumps_35 (tgt := 48) rfl (fun z => absurd z c12) (fun _ => ?_)
        refine mx_S.pu (pc2 := 39) (lv2 := [(2, .int u5.1), (0, .ref a0), (1, .int a1)]) (st2 := [.int u5.1]) hm dX13_jumps_38 rfl ?_
        rcases mx_if_el hf with ⟨c11, hf⟩ | ⟨c11, hf⟩
        · refine sb_if_eq hm dX13_jumps_39 (tgt := 46) rfl (fun _ => ?_) (fun z => absurd c11 z)
          refine sx_ic (v := 0) hm dX13_jumps_46 (by decide) ?_
          cases hf
          exact sx_ire hm dX13_jumps_47 rfl (by decide)
        · refine sb_if_eq hm dX13_jumps_39 (tgt := 46) rfl (fun z => absurd z c11) (fun _ => ?_)
          refine sx_ic (v := 1) hm dX13_jumps_42 (by decide) ?_
          refine mx_S.pu (pc2 := 47) (lv2 := [(2, .int u5.1), (0, .ref a0), (1, .int a1)]) (st2 := [.int 1]) hm dX13_jumps_43 rfl ?_
          cases hf
          exact sx_ire hm dX13_jumps_47 rfl (by decide)
    · refine sb_ic_ne hm dX13_jumps_18 (tgt := 31) rfl (fun z => absurd z c14) (fun _ => ?_)
      refine mx_S.pu (pc2 := 22) (lv2 := [(2, .int u5.1), (0, .ref a0), (1, .int a1)]) (st2 := [.int u5.1]) hm dX13_jumps_21 rfl ?_
      rcases mx_if_el hf with ⟨c13, hf⟩ | ⟨c13, hf⟩
      · refine sb_if_ne hm dX13_jumps_22 (tgt := 29) rfl (fun _ => ?_) (fun z => absurd c13 z)
        refine sx_ic (v := 0) hm dX13_jumps_29 (by decide) ?_
        cases hf
        exact sx_ire hm dX13_jumps_30 rfl (by decide)
      · refine sb_if_ne hm dX13_jumps_22 (tgt := 29) rfl (fun z => absurd z c13) (fun _ => ?_)
        refine sx_ic (v := 1) hm dX13_jumps_25 (by decide) ?_
        refine mx_S.pu (pc2 := 30) (lv2 := [(2, .int u5.1), (0, .ref a0), (1, .int a1)]) (st2 := [.int 1]) hm dX13_jumps_26 rfl ?_
        cases hf
        exact sx_ire hm dX13_jumps_30 rfl (by decide)
  · refine sb_ic_ne hm dX13_jumps_4 (tgt := 9) rfl (fun z => absurd z c15) (fun _ => ?_)
    refine sx_ic (v := 1) hm dX13_jumps_7 (by decide) ?_
    cases hf
    exact sx_ire hm dX13_jumps_8 rfl (by decide)
set_option maxHeartbeats 4000000 in
set_option maxRecDepth 20000 in
theorem f_X13_opAt_ok (X : Nat × (Nat → Int32)) {F L : Nat} (hF : 1 ≤ F) (hL : 22 ≤ L) (nn : Nat) (a0 : Nat) (a1 : Int32) (h : mx_H) {r : (Int32 × mx_H)} (hf : f_X13_opAt nn a0 a1 h = some r) : mx_R X F L 579 [.ref a0, .int a1] h (some (.int r.1), r.2, 0, 0) := by
  have hm : mx_mt 579 = some (yX13_opAt, cX13_opAt, 2, (some .int)) := mt_X13_opAt
  show mx_S X F L 579 0 [(0, .ref a0), (1, .int a1)] [] h 0 0 (some (.int r.1), r.2, 0, 0)
  unfold f_X13_opAt at hf
  refine mx_S.pu (pc2 := 1) (lv2 := [(0, .ref a0), (1, .int a1)]) (st2 := [.ref a0]) hm dX13_opAt_0 rfl ?_
  refine mx_S.pu (pc2 := 2) (lv2 := [(0, .ref a0), (1, .int a1)]) (st2 := [.ref a0, .ref a0]) hm dX13_opAt_1 rfl ?_
  replace hf := mx_sv_el hf; obtain ⟨v1, e_v1, hf⟩ := hf
  refine sx_get hm dX13_opAt_2 rs_RX13_294 (xgr_el e_v1) ?_
  clear e_v1
  refine mx_S.pu (pc2 := 6) (lv2 := [(0, .ref a0), (1, .int a1)]) (st2 := [.ref a0, .ref v1, .ref a0]) hm dX13_opAt_5 rfl ?_
  replace hf := mx_sv_el hf; obtain ⟨v2, e_v2, hf⟩ := hf
  refine sx_get hm dX13_opAt_6 rs_RX13_1058 (xgi_el e_v2) ?_
  clear e_v2
  refine sx_ic (v := 1) hm dX13_opAt_9 (by decide) ?_
  replace hf := xl_el hf; obtain ⟨v3, e_v3, hf⟩ := hf
  refine mx_S.pu (pc2 := 11) (lv2 := [(0, .ref a0), (1, .int a1)]) (st2 := [.int v3, .ref v1, .ref a0]) hm dX13_opAt_10 (by rw [← e_v3]; rfl) ?_
  clear e_v3
  replace hf := mx_sv_el hf; obtain ⟨v4, e_v4, hf⟩ := hf
  refine sx_ald hm dX13_opAt_11 e_v4 ?_
  clear e_v4
  refine sx_bi (v := 8) hm dX13_opAt_12 (by decide) ?_
  replace hf := xl_el hf; obtain ⟨v5, e_v5, hf⟩ := hf
  refine mx_S.pu (pc2 := 15) (lv2 := [(0, .ref a0), (1, .int a1)]) (st2 := [.int v5, .ref a0]) hm dX13_opAt_14 (by rw [← e_v5]; rfl) ?_
  clear e_v5
  refine mx_S.pu (pc2 := 16) (lv2 := [(0, .ref a0), (1, .int a1)]) (st2 := [.ref a0, .int v5, .ref a0]) hm dX13_opAt_15 rfl ?_
  replace hf := mx_sv_el hf; obtain ⟨v6, e_v6, hf⟩ := hf
  refine sx_get hm dX13_opAt_16 rs_RX13_236 (xgr_el e_v6) ?_
  clear e_v6
  refine sx_bi (v := 12) hm dX13_opAt_19 (by decide) ?_
  refine mx_S.pu (pc2 := 22) (lv2 := [(0, .ref a0), (1, .int a1)]) (st2 := [.ref a0, .int 12, .ref v6, .int v5, .ref a0]) hm dX13_opAt_21 rfl ?_
  replace hf := mx_sv_el hf; obtain ⟨v7, e_v7, hf⟩ := hf
  refine sx_get hm dX13_opAt_22 rs_RX13_294 (xgr_el e_v7) ?_
  clear e_v7
  refine mx_S.pu (pc2 := 26) (lv2 := [(0, .ref a0), (1, .int a1)]) (st2 := [.ref a0, .ref v7, .int 12, .ref v6, .int v5, .ref a0]) hm dX13_opAt_25 rfl ?_
  replace hf := mx_sv_el hf; obtain ⟨v8, e_v8, hf⟩ := hf
  refine sx_get hm dX13_opAt_26 rs_RX13_1058 (xgi_el e_v8) ?_
  clear e_v8
  refine sx_ic (v := 1) hm dX13_opAt_29 (by decide) ?_
  replace hf := xl_el hf; obtain ⟨v9, e_v9, hf⟩ := hf
  refine mx_S.pu (pc2 := 31) (lv2 := [(0, .ref a0), (1, .int a1)]) (st2 := [.int v9, .ref v7, .int 12, .ref v6, .int v5, .ref a0]) hm dX13_opAt_30 (by rw [← e_v9]; rfl) ?_
  clear e_v9
  replace hf := mx_sv_el hf; obtain ⟨v10, e_v10, hf⟩ := hf
  refine sx_ald hm dX13_opAt_31 e_v10 ?_
  clear e_v10
  refine sx_bi (v := 8) hm dX13_opAt_32 (by decide) ?_
  replace hf := xl_el hf; obtain ⟨v11, e_v11, hf⟩ := hf
  refine mx_S.pu (pc2 := 35) (lv2 := [(0, .ref a0), (1, .int a1)]) (st2 := [.int v11, .int 12, .ref v6, .int v5, .ref a0]) hm dX13_opAt_34 (by rw [← e_v11]; rfl) ?_
  clear e_v11
  replace hf := xl_el hf; obtain ⟨v12, e_v12, hf⟩ := hf
  refine mx_S.pu (pc2 := 36) (lv2 := [(0, .ref a0), (1, .int a1)]) (st2 := [.int v12, .ref v6, .int v5, .ref a0]) hm dX13_opAt_35 (by rw [← e_v12]; rfl) ?_
  clear e_v12
  refine mx_S.pu (pc2 := 37) (lv2 := [(0, .ref a0), (1, .int a1)]) (st2 := [.ref a0, .int v12, .ref v6, .int v5, .ref a0]) hm dX13_opAt_36 rfl ?_
  replace hf := mx_sv_el hf; obtain ⟨v13, e_v13, hf⟩ := hf
  refine sx_get hm dX13_opAt_37 rs_RX13_297 (xgr_el e_v13) ?_
  clear e_v13
  refine mx_S.pu (pc2 := 41) (lv2 := [(0, .ref a0), (1, .int a1)]) (st2 := [.ref a0, .ref v13, .int v12, .ref v6, .int v5, .ref a0]) hm dX13_opAt_40 rfl ?_
  replace hf := mx_sv_el hf; obtain ⟨v14, e_v14, hf⟩ := hf
  refine sx_get hm dX13_opAt_41 rs_RX13_1058 (xgi_el e_v14) ?_
  clear e_v14
  refine sx_ic (v := 1) hm dX13_opAt_44 (by decide) ?_
  replace hf := xl_el hf; obtain ⟨v15, e_v15, hf⟩ := hf
  refine mx_S.pu (pc2 := 46) (lv2 := [(0, .ref a0), (1, .int a1)]) (st2 := [.int v15, .ref v13, .int v12, .ref v6, .int v5, .ref a0]) hm dX13_opAt_45 (by rw [← e_v15]; rfl) ?_
  clear e_v15
  replace hf := mx_sv_el hf; obtain ⟨v16, e_v16, hf⟩ := hf
  refine sx_ald hm dX13_opAt_46 e_v16 ?_
  clear e_v16
  replace hf := xl_el hf; obtain ⟨v17, e_v17, hf⟩ := hf
  refine mx_S.pu (pc2 := 48) (lv2 := [(0, .ref a0), (1, .int a1)]) (st2 := [.int v17, .ref v6, .int v5, .ref a0]) hm dX13_opAt_47 (by rw [← e_v17]; rfl) ?_
  clear e_v17
  replace hf := mx_sv_el hf; obtain ⟨v18, e_v18, hf⟩ := hf
  refine sx_ald hm dX13_opAt_48 e_v18 ?_
  clear e_v18
  refine sx_bi (v := 7) hm dX13_opAt_49 (by decide) ?_
  replace hf := xl_el hf; obtain ⟨v19, e_v19, hf⟩ := hf
  refine mx_S.pu (pc2 := 52) (lv2 := [(0, .ref a0), (1, .int a1)]) (st2 := [.int v19, .int v5, .ref a0]) hm dX13_opAt_51 (by rw [← e_v19]; rfl) ?_
  clear e_v19
  refine mx_S.pu (pc2 := 53) (lv2 := [(0, .ref a0), (1, .int a1)]) (st2 := [.int a1, .int v19, .int v5, .ref a0]) hm dX13_opAt_52 rfl ?_
  replace hf := xl_el hf; obtain ⟨v20, e_v20, hf⟩ := hf
  refine mx_S.pu (pc2 := 54) (lv2 := [(0, .ref a0), (1, .int a1)]) (st2 := [.int v20, .int v5, .ref a0]) hm dX13_opAt_53 (by rw [← e_v20]; rfl) ?_
  clear e_v20
  replace hf := mx_gd_el hf; obtain ⟨c21, hf⟩ := hf
  replace hf := mx_sv_el hf; obtain ⟨u22, e_u22, hf⟩ := hf
  refine sx_cv hm dX13_opAt_54 rs_RX13_864 mt_X13_byteAt [.int v5, .int v20] [] (b := a0) (ci := 13) rfl rfl rfl c21 (Nat.le_of_ble_eq_true rfl) (Nat.le_of_ble_eq_true rfl) (by omega) (by omega) (f_X13_byteAt_ok X (by omega) (by omega) nn a0 v5 v20 h e_u22) ?_
  clear e_u22
  show mx_S X F L 579 57 [(0, .ref a0), (1, .int a1)] [.int u22.1] u22.2 0 0 (some (.int r.1), r.2, 0, 0)
  cases hf
  exact sx_ire hm dX13_opAt_57 rfl rfl
set_option maxHeartbeats 4000000 in
set_option maxRecDepth 20000 in
theorem j_X13_reckon_188_ok (X : Nat × (Nat → Int32)) {F L : Nat} (hF : 0 ≤ F) (hL : 0 ≤ L) (nn : Nat) (l1 : Int32) (l2 : Int32) (h : mx_H) {r : (Int32 × mx_H)} (hf : j_X13_reckon_188 nn l1 l2 h = some r) : mx_S X F L 584 188 [(1, .int l1), (2, .int l2)] [] h 0 0 (some (.int r.1), r.2, 0, 0) := by
  have hm : mx_mt 584 = some (yX13_reckon, cX13_reckon, 3, (some .int)) := mt_X13_reckon
  unfold j_X13_reckon_188 at hf
  refine mx_S.pu (pc2 := 189) (lv2 := [(1, .int l1), (2, .int l2)]) (st2 := [.int l1]) hm dX13_reckon_188 rfl ?_
  refine mx_S.pu (pc2 := 190) (lv2 := [(1, .int l1), (2, .int l2)]) (st2 := [.int l2, .int l1]) hm dX13_reckon_189 rfl ?_
  replace hf := xl_el hf; obtain ⟨v1, e_v1, hf⟩ := hf
  refine mx_S.pu (pc2 := 191) (lv2 := [(1, .int l1), (2, .int l2)]) (st2 := [.int v1]) hm dX13_reckon_190 (by rw [← e_v1]; rfl) ?_
  clear e_v1
  cases hf
  exact sx_ire hm dX13_reckon_191 rfl rfl
set_option maxHeartbeats 4000000 in
set_option maxRecDepth 20000 in
theorem f_X13_reckon_ok (X : Nat × (Nat → Int32)) {F L : Nat} (hF : 0 ≤ F) (hL : 0 ≤ L) (nn : Nat) (a0 : Int32) (a1 : Int32) (a2 : Int32) (h : mx_H) {r : (Int32 × mx_H)} (hf : f_X13_reckon nn a0 a1 a2 h = some r) : mx_R X F L 584 [.int a0, .int a1, .int a2] h (some (.int r.1), r.2, 0, 0) := by
  have hm : mx_mt 584 = some (yX13_reckon, cX13_reckon, 3, (some .int)) := mt_X13_reckon
  show mx_S X F L 584 0 [(0, .int a0), (1, .int a1), (2, .int a2)] [] h 0 0 (some (.int r.1), r.2, 0, 0)
  unfold f_X13_reckon at hf
  refine mx_S.pu (pc2 := 1) (lv2 := [(0, .int a0), (1, .int a1), (2, .int a2)]) (st2 := [.int a0]) hm dX13_reckon_0 rfl ?_
  rcases mx_if_el hf with ⟨n_0, hf⟩ | ⟨n_0, hf⟩
  · refine sx_tin hm dX13_reckon_1 (by rw [n_0]; decide) (by rw [n_0]; decide) (off := 147) (by rw [n_0]; rfl) (tgt := 148) rfl ?_
    clear n_0
    refine mx_S.pu (pc2 := 149) (lv2 := [(0, .int a0), (1, .int a1), (2, .int a2)]) (st2 := [.int a1]) hm dX13_reckon_148 rfl ?_
    refine mx_S.pu (pc2 := 150) (lv2 := [(0, .int a0), (1, .int a1), (2, .int a2)]) (st2 := [.int a2, .int a1]) hm dX13_reckon_149 rfl ?_
    replace hf := xl_el hf; obtain ⟨v2, e_v2, hf⟩ := hf
    refine mx_S.pu (pc2 := 151) (lv2 := [(0, .int a0), (1, .int a1), (2, .int a2)]) (st2 := [.int v2]) hm dX13_reckon_150 (by rw [← e_v2]; rfl) ?_
    clear e_v2
    cases hf
    exact sx_ire hm dX13_reckon_151 rfl rfl
  · rcases mx_if_el hf with ⟨n_1, hf⟩ | ⟨n_1, hf⟩
    · refine sx_tin hm dX13_reckon_1 (by rw [n_1]; decide) (by rw [n_1]; decide) (off := 151) (by rw [n_1]; rfl) (tgt := 152) rfl ?_
      clear n_0 n_1
      refine mx_S.pu (pc2 := 153) (lv2 := [(0, .int a0), (1, .int a1), (2, .int a2)]) (st2 := [.int a1]) hm dX13_reckon_152 rfl ?_
      refine mx_S.pu (pc2 := 154) (lv2 := [(0, .int a0), (1, .int a1), (2, .int a2)]) (st2 := [.int a2, .int a1]) hm dX13_reckon_153 rfl ?_
      replace hf := xl_el hf; obtain ⟨v3, e_v3, hf⟩ := hf
      refine mx_S.pu (pc2 := 155) (lv2 := [(0, .int a0), (1, .int a1), (2, .int a2)]) (st2 := [.int v3]) hm dX13_reckon_154 (by rw [← e_v3]; rfl) ?_
      clear e_v3
      cases hf
      exact sx_ire hm dX13_reckon_155 rfl rfl
    · rcases mx_if_el hf with ⟨n_2, hf⟩ | ⟨n_2, hf⟩
      · refine sx_tin hm dX13_reckon_1 (by rw [n_2]; decide) (by rw [n_2]; decide) (off := 155) (by rw [n_2]; rfl) (tgt := 156) rfl ?_
        clear n_0 n_1 n_2
        refine mx_S.pu (pc2 := 157) (lv2 := [(0, .int a0), (1, .int a1), (2, .int a2)]) (st2 := [.int a1]) hm dX13_reckon_156 rfl ?_
        refine mx_S.pu (pc2 := 158) (lv2 := [(0, .int a0), (1, .int a1), (2, .int a2)]) (st2 := [.int a2, .int a1]) hm dX13_reckon_157 rfl ?_
        replace hf := xl_el hf; obtain ⟨v4, e_v4, hf⟩ := hf
        refine mx_S.pu (pc2 := 159) (lv2 := [(0, .int a0), (1, .int a1), (2, .int a2)]) (st2 := [.int v4]) hm dX13_reckon_158 (by rw [← e_v4]; rfl) ?_
        clear e_v4
        cases hf
        exact sx_ire hm dX13_reckon_159 rfl rfl
      · rcases mx_if_el hf with ⟨n_3, hf⟩ | ⟨n_3, hf⟩
        · refine sx_tin hm dX13_reckon_1 (by rw [n_3]; decide) (by rw [n_3]; decide) (off := 159) (by rw [n_3]; rfl) (tgt := 160) rfl ?_
          clear n_0 n_1 n_2 n_3
          refine mx_S.pu (pc2 := 161) (lv2 := [(0, .int a0), (1, .int a1), (2, .int a2)]) (st2 := [.int a1]) hm dX13_reckon_160 rfl ?_
          refine mx_S.pu (pc2 := 162) (lv2 := [(0, .int a0), (1, .int a1), (2, .int a2)]) (st2 := [.int a2, .int a1]) hm dX13_reckon_161 rfl ?_
          replace hf := mx_if_el hf; obtain ⟨q_v5, hf⟩ := Or.resolve_left hf (fun z => by cases z.2)
          replace hf := xl_el hf; obtain ⟨v5, e_v5, hf⟩ := hf
          refine sx_idiv (v := v5) hm dX13_reckon_162 q_v5 e_v5 ?_
          clear e_v5 q_v5
          cases hf
          exact sx_ire hm dX13_reckon_163 rfl rfl
        · rcases mx_if_el hf with ⟨n_4, hf⟩ | ⟨n_4, hf⟩
          · refine sx_tin hm dX13_reckon_1 (by rw [n_4]; decide) (by rw [n_4]; decide) (off := 163) (by rw [n_4]; rfl) (tgt := 164) rfl ?_
            clear n_0 n_1 n_2 n_3 n_4
            refine mx_S.pu (pc2 := 165) (lv2 := [(0, .int a0), (1, .int a1), (2, .int a2)]) (st2 := [.int a1]) hm dX13_reckon_164 rfl ?_
            refine mx_S.pu (pc2 := 166) (lv2 := [(0, .int a0), (1, .int a1), (2, .int a2)]) (st2 := [.int a2, .int a1]) hm dX13_reckon_165 rfl ?_
            replace hf := mx_if_el hf; obtain ⟨q_v6, hf⟩ := Or.resolve_left hf (fun z => by cases z.2)
            replace hf := xl_el hf; obtain ⟨v6, e_v6, hf⟩ := hf
            refine sx_irem (v := v6) hm dX13_reckon_166 q_v6 e_v6 ?_
            clear e_v6 q_v6
            cases hf
            exact sx_ire hm dX13_reckon_167 rfl rfl
          · rcases mx_if_el hf with ⟨n_5, hf⟩ | ⟨n_5, hf⟩
            · refine sx_tin hm dX13_reckon_1 (by rw [n_5]; decide) (by rw [n_5]; decide) (off := 167) (by rw [n_5]; rfl) (tgt := 168) rfl ?_
              clear n_0 n_1 n_2 n_3 n_4 n_5
              refine mx_S.pu (pc2 := 169) (lv2 := [(0, .int a0), (1, .int a1), (2, .int a2)]) (st2 := [.int a1]) hm dX13_reckon_168 rfl ?_
              refine mx_S.pu (pc2 := 170) (lv2 := [(0, .int a0), (1, .int a1), (2, .int a2)]) (st2 := [.int a2, .int a1]) hm dX13_reckon_169 rfl ?_
              replace hf := xl_el hf; obtain ⟨v7, e_v7, hf⟩ := hf
              refine mx_S.pu (pc2 := 171) (lv2 := [(0, .int a0), (1, .int a1), (2, .int a2)]) (st2 := [.int v7]) hm dX13_reckon_170 (by rw [← e_v7]; rfl) ?_
              clear e_v7
              cases hf
              exact sx_ire hm dX13_reckon_171 rfl rfl
            · rcases mx_if_el hf with ⟨n_6, hf⟩ | ⟨n_6, hf⟩
              · refine sx_tin hm dX13_reckon_1 (by rw [n_6]; decide) (by rw [n_6]; decide) (off := 171) (by rw [n_6]; rfl) (tgt := 172) rfl ?_
                clear n_0 n_1 n_2 n_3 n_4 n_5 n_6
                refine mx_S.pu (pc2 := 173) (lv2 := [(0, .int a0), (1, .int a1), (2, .int a2)]) (st2 := [.int a1]) hm dX13_reckon_172 rfl ?_
                refine mx_S.pu (pc2 := 174) (lv2 := [(0, .int a0), (1, .int a1), (2, .int a2)]) (st2 := [.int a2, .int a1]) hm dX13_reckon_173 rfl ?_
                replace hf := xl_el hf; obtain ⟨v8, e_v8, hf⟩ := hf
                refine mx_S.pu (pc2 := 175) (lv2 := [(0, .int a0), (1, .int a1), (2, .int a2)]) (st2 := [.int v8]) hm dX13_reckon_174 (by rw [← e_v8]; rfl) ?_
                clear e_v8
                cases hf
                exact sx_ire hm dX13_reckon_175 rfl rfl
              · rcases mx_if_el hf with ⟨n_7, hf⟩ | ⟨n_7, hf⟩
                · refine sx_tin hm dX13_reckon_1 (by rw [n_7]; decide) (by rw [n_7]; decide) (off := 175) (by rw [n_7]; rfl) (tgt := 176) rfl ?_
                  clear n_0 n_1 n_2 n_3 n_4 n_5 n_6 n_7
                  refine mx_S.pu (pc2 := 177) (lv2 := [(0, .int a0), (1, .int a1), (2, .int a2)]) (st2 := [.int a1]) hm dX13_reckon_176 rfl ?_
                  refine mx_S.pu (pc2 := 178) (lv2 := [(0, .int a0), (1, .int a1), (2, .int a2)]) (st2 := [.int a2, .int a1]) hm dX13_reckon_177 rfl ?_
                  replace hf := xl_el hf; obtain ⟨v9, e_v9, hf⟩ := hf
                  refine mx_S.pu (pc2 := 179) (lv2 := [(0, .int a0), (1, .int a1), (2, .int a2)]) (st2 := [.int v9]) hm dX13_reckon_178 (by rw [← e_v9]; rfl) ?_
                  clear e_v9
                  cases hf
                  exact sx_ire hm dX13_reckon_179 rfl rfl
                · rcases mx_if_el hf with ⟨n_8, hf⟩ | ⟨n_8, hf⟩
                  · refine sx_tin hm dX13_reckon_1 (by rw [n_8]; decide) (by rw [n_8]; decide) (off := 179) (by rw [n_8]; rfl) (tgt := 180) rfl ?_
                    clear n_0 n_1 n_2 n_3 n_4 n_5 n_6 n_7 n_8
                    refine mx_S.pu (pc2 := 181) (lv2 := [(0, .int a0), (1, .int a1), (2, .int a2)]) (st2 := [.int a1]) hm dX13_reckon_180 rfl ?_
                    refine mx_S.pu (pc2 := 182) (lv2 := [(0, .int a0), (1, .int a1), (2, .int a2)]) (st2 := [.int a2, .int a1]) hm dX13_reckon_181 rfl ?_
                    replace hf := xl_el hf; obtain ⟨v10, e_v10, hf⟩ := hf
                    refine mx_S.pu (pc2 := 183) (lv2 := [(0, .int a0), (1, .int a1), (2, .int a2)]) (st2 := [.int v10]) hm dX13_reckon_182 (by rw [← e_v10]; rfl) ?_
                    clear e_v10
                    cases hf
                    exact sx_ire hm dX13_reckon_183 rfl rfl
                  · rcases mx_if_el hf with ⟨n_9, hf⟩ | ⟨n_9, hf⟩
                    · refine sx_tin hm dX13_reckon_1 (by rw [n_9]; decide) (by rw [n_9]; decide) (off := 183) (by rw [n_9]; rfl) (tgt := 184) rfl ?_
                      clear n_0 n_1 n_2 n_3 n_4 n_5 n_6 n_7 n_8 n_9
                      refine mx_S.pu (pc2 := 185) (lv2 := [(0, .int a0), (1, .int a1), (2, .int a2)]) (st2 := [.int a1]) hm dX13_reckon_184 rfl ?_
                      refine mx_S.pu (pc2 := 186) (lv2 := [(0, .int a0), (1, .int a1), (2, .int a2)]) (st2 := [.int a2, .int a1]) hm dX13_reckon_185 rfl ?_
                      replace hf := xl_el hf; obtain ⟨v11, e_v11, hf⟩ := hf
                      refine mx_S.pu (pc2 := 187) (lv2 := [(0, .int a0), (1, .int a1), (2, .int a2)]) (st2 := [.int v11]) hm dX13_reckon_186 (by rw [← e_v11]; rfl) ?_
                      clear e_v11
                      cases hf
                      exact sx_ire hm dX13_reckon_187 rfl rfl
                    · rcases (show (a0.toInt < 96 ∨ 128 < a0.toInt) ∨ a0.toInt = 96 ∨ a0.toInt = 97 ∨ a0.toInt = 98 ∨ a0.toInt = 99 ∨ a0.toInt = 100 ∨ a0.toInt = 101 ∨ a0.toInt = 102 ∨ a0.toInt = 103 ∨ a0.toInt = 104 ∨ a0.toInt = 105 ∨ a0.toInt = 106 ∨ a0.toInt = 107 ∨ a0.toInt = 108 ∨ a0.toInt = 109 ∨ a0.toInt = 110 ∨ a0.toInt = 111 ∨ a0.toInt = 112 ∨ a0.toInt = 113 ∨ a0.toInt = 114 ∨ a0.toInt = 115 ∨ a0.toInt = 116 ∨ a0.toInt = 117 ∨ a0.toInt = 118 ∨ a0.toInt = 119 ∨ a0.toInt = 120 ∨ a0.toInt = 121 ∨ a0.toInt = 122 ∨ a0.toInt = 123 ∨ a0.toInt = 124 ∨ a0.toInt = 125 ∨ a0.toInt = 126 ∨ a0.toInt = 127 ∨ a0.toInt = 128 by omega) with z0 | z0 | z0 | z0 | z0 | z0 | z0 | z0 | z0 | z0 | z0 | z0 | z0 | z0 | z0 | z0 | z0 | z0 | z0 | z0 | z0 | z0 | z0 | z0 | z0 | z0 | z0 | z0 | z0 | z0 | z0 | z0 | z0 | z0
                      · refine sx_tout hm dX13_reckon_1 z0 (tgt := 188) rfl ?_
                        refine mx_S.ext [(1, .int a1), (2, .int a2)] (mx_sub_pos [1, 2] rfl (show ([0, 1, 2] : List Nat).Nodup by decide)) ?_
                        exact j_X13_reckon_188_ok X hF hL nn a1 a2 h hf
                      · exact absurd (Int32.toInt_inj.mp (z0.trans (by decide : (96 : Int) = (96 : Int32).toInt))) n_0
                      · refine sx_tin hm dX13_reckon_1 (by omega) (by omega) (off := 187) (by rw [z0]; rfl) (tgt := 188) rfl ?_
                        refine mx_S.ext [(1, .int a1), (2, .int a2)] (mx_sub_pos [1, 2] rfl (show ([0, 1, 2] : List Nat).Nodup by decide)) ?_
                        exact j_X13_reckon_188_ok X hF hL nn a1 a2 h hf
                      · refine sx_tin hm dX13_reckon_1 (by omega) (by omega) (off := 187) (by rw [z0]; rfl) (tgt := 188) rfl ?_
                        refine mx_S.ext [(1, .int a1), (2, .int a2)] (mx_sub_pos [1, 2] rfl (show ([0, 1, 2] : List Nat).Nodup by decide)) ?_
                        exact j_X13_reckon_188_ok X hF hL nn a1 a2 h hf
                      · refine sx_tin hm dX13_reckon_1 (by omega) (by omega) (off := 187) (by rw [z0]; rfl) (tgt := 188) rfl ?_
                        refine mx_S.ext [(1, .int a1), (2, .int a2)] (mx_sub_pos [1, 2] rfl (show ([0, 1, 2] : List Nat).Nodup by decide)) ?_
                        exact j_X13_reckon_188_ok X hF hL nn a1 a2 h hf
                      · exact absurd (Int32.toInt_inj.mp (z0.trans (by decide : (100 : Int) = (100 : Int32).toInt))) n_1
                      · refine sx_tin hm dX13_reckon_1 (by omega) (by omega) (off := 187) (by rw [z0]; rfl) (tgt := 188) rfl ?_
                        refine mx_S.ext [(1, .int a1), (2, .int a2)] (mx_sub_pos [1, 2] rfl (show ([0, 1, 2] : List Nat).Nodup by decide)) ?_
                        exact j_X13_reckon_188_ok X hF hL nn a1 a2 h hf
                      · refine sx_tin hm dX13_reckon_1 (by omega) (by omega) (off := 187) (by rw [z0]; rfl) (tgt := 188) rfl ?_
                        refine mx_S.ext [(1, .int a1), (2, .int a2)] (mx_sub_pos [1, 2] rfl (show ([0, 1, 2] : List Nat).Nodup by decide)) ?_
                        exact j_X13_reckon_188_ok X hF hL nn a1 a2 h hf
                      · refine sx_tin hm dX13_reckon_1 (by omega) (by omega) (off := 187) (by rw [z0]; rfl) (tgt := 188) rfl ?_
                        refine mx_S.ext [(1, .int a1), (2, .int a2)] (mx_sub_pos [1, 2] rfl (show ([0, 1, 2] : List Nat).Nodup by decide)) ?_
                        exact j_X13_reckon_188_ok X hF hL nn a1 a2 h hf
                      · exact absurd (Int32.toInt_inj.mp (z0.trans (by decide : (104 : Int) = (104 : Int32).toInt))) n_2
                      · refine sx_tin hm dX13_reckon_1 (by omega) (by omega) (off := 187) (by rw [z0]; rfl) (tgt := 188) rfl ?_
                        refine mx_S.ext [(1, .int a1), (2, .int a2)] (mx_sub_pos [1, 2] rfl (show ([0, 1, 2] : List Nat).Nodup by decide)) ?_
                        exact j_X13_reckon_188_ok X hF hL nn a1 a2 h hf
                      · refine sx_tin hm dX13_reckon_1 (by omega) (by omega) (off := 187) (by rw [z0]; rfl) (tgt := 188) rfl ?_
                        refine mx_S.ext [(1, .int a1), (2, .int a2)] (mx_sub_pos [1, 2] rfl (show ([0, 1, 2] : List Nat).Nodup by decide)) ?_
                        exact j_X13_reckon_188_ok X hF hL nn a1 a2 h hf
                      · refine sx_tin hm dX13_reckon_1 (by omega) (by omega) (off := 187) (by rw [z0]; rfl) (tgt := 188) rfl ?_
                        refine mx_S.ext [(1, .int a1), (2, .int a2)] (mx_sub_pos [1, 2] rfl (show ([0, 1, 2] : List Nat).Nodup by decide)) ?_
                        exact j_X13_reckon_188_ok X hF hL nn a1 a2 h hf
                      · exact absurd (Int32.toInt_inj.mp (z0.trans (by decide : (108 : Int) = (108 : Int32).toInt))) n_3
                      · refine sx_tin hm dX13_reckon_1 (by omega) (by omega) (off := 187) (by rw [z0]; rfl) (tgt := 188) rfl ?_
                        refine mx_S.ext [(1, .int a1), (2, .int a2)] (mx_sub_pos [1, 2] rfl (show ([0, 1, 2] : List Nat).Nodup by decide)) ?_
                        exact j_X13_reckon_188_ok X hF hL nn a1 a2 h hf
                      · refine sx_tin hm dX13_reckon_1 (by omega) (by omega) (off := 187) (by rw [z0]; rfl) (tgt := 188) rfl ?_
                        refine mx_S.ext [(1, .int a1), (2, .int a2)] (mx_sub_pos [1, 2] rfl (show ([0, 1, 2] : List Nat).Nodup by decide)) ?_
                        exact j_X13_reckon_188_ok X hF hL nn a1 a2 h hf
                      · refine sx_tin hm dX13_reckon_1 (by omega) (by omega) (off := 187) (by rw [z0]; rfl) (tgt := 188) rfl ?_
                        refine mx_S.ext [(1, .int a1), (2, .int a2)] (mx_sub_pos [1, 2] rfl (show ([0, 1, 2] : List Nat).Nodup by decide)) ?_
                        exact j_X13_reckon_188_ok X hF hL nn a1 a2 h hf
                      · exact absurd (Int32.toInt_inj.mp (z0.trans (by decide : (112 : Int) = (112 : Int32).toInt))) n_4
                      · refine sx_tin hm dX13_reckon_1 (by omega) (by omega) (off := 187) (by rw [z0]; rfl) (tgt := 188) rfl ?_
                        refine mx_S.ext [(1, .int a1), (2, .int a2)] (mx_sub_pos [1, 2] rfl (show ([0, 1, 2] : List Nat).Nodup by decide)) ?_
                        exact j_X13_reckon_188_ok X hF hL nn a1 a2 h hf
                      · refine sx_tin hm dX13_reckon_1 (by omega) (by omega) (off := 187) (by rw [z0]; rfl) (tgt := 188) rfl ?_
                        refine mx_S.ext [(1, .int a1), (2, .int a2)] (mx_sub_pos [1, 2] rfl (show ([0, 1, 2] : List Nat).Nodup by decide)) ?_
                        exact j_X13_reckon_188_ok X hF hL nn a1 a2 h hf
                      · refine sx_tin hm dX13_reckon_1 (by omega) (by omega) (off := 187) (by rw [z0]; rfl) (tgt := 188) rfl ?_
                        refine mx_S.ext [(1, .int a1), (2, .int a2)] (mx_sub_pos [1, 2] rfl (show ([0, 1, 2] : List Nat).Nodup by decide)) ?_
                        exact j_X13_reckon_188_ok X hF hL nn a1 a2 h hf
                      · refine sx_tin hm dX13_reckon_1 (by omega) (by omega) (off := 187) (by rw [z0]; rfl) (tgt := 188) rfl ?_
                        refine mx_S.ext [(1, .int a1), (2, .int a2)] (mx_sub_pos [1, 2] rfl (show ([0, 1, 2] : List Nat).Nodup by decide)) ?_
                        exact j_X13_reckon_188_ok X hF hL nn a1 a2 h hf
                      · refine sx_tin hm dX13_reckon_1 (by omega) (by omega) (off := 187) (by rw [z0]; rfl) (tgt := 188) rfl ?_
                        refine mx_S.ext [(1, .int a1), (2, .int a2)] (mx_sub_pos [1, 2] rfl (show ([0, 1, 2] : List Nat).Nodup by decide)) ?_
                        exact j_X13_reckon_188_ok X hF hL nn a1 a2 h hf
                      · refine sx_tin hm dX13_reckon_1 (by omega) (by omega) (off := 187) (by rw [z0]; rfl) (tgt := 188) rfl ?_
                        refine mx_S.ext [(1, .int a1), (2, .int a2)] (mx_sub_pos [1, 2] rfl (show ([0, 1, 2] : List Nat).Nodup by decide)) ?_
                        exact j_X13_reckon_188_ok X hF hL nn a1 a2 h hf
                      · refine sx_tin hm dX13_reckon_1 (by omega) (by omega) (off := 187) (by rw [z0]; rfl) (tgt := 188) rfl ?_
                        refine mx_S.ext [(1, .int a1), (2, .int a2)] (mx_sub_pos [1, 2] rfl (show ([0, 1, 2] : List Nat).Nodup by decide)) ?_
                        exact j_X13_reckon_188_ok X hF hL nn a1 a2 h hf
                      · exact absurd (Int32.toInt_inj.mp (z0.trans (by decide : (120 : Int) = (120 : Int32).toInt))) n_5
                      · refine sx_tin hm dX13_reckon_1 (by omega) (by omega) (off := 187) (by rw [z0]; rfl) (tgt := 188) rfl ?_
                        refine mx_S.ext [(1, .int a1), (2, .int a2)] (mx_sub_pos [1, 2] rfl (show ([0, 1, 2] : List Nat).Nodup by decide)) ?_
                        exact j_X13_reckon_188_ok X hF hL nn a1 a2 h hf
                      · exact absurd (Int32.toInt_inj.mp (z0.trans (by decide : (122 : Int) = (122 : Int32).toInt))) n_6
                      · refine sx_tin hm dX13_reckon_1 (by omega) (by omega) (off := 187) (by rw [z0]; rfl) (tgt := 188) rfl ?_
                        refine mx_S.ext [(1, .int a1), (2, .int a2)] (mx_sub_pos [1, 2] rfl (show ([0, 1, 2] : List Nat).Nodup by decide)) ?_
                        exact j_X13_reckon_188_ok X hF hL nn a1 a2 h hf
                      · exact absurd (Int32.toInt_inj.mp (z0.trans (by decide : (124 : Int) = (124 : Int32).toInt))) n_7
                      · refine sx_tin hm dX13_reckon_1 (by omega) (by omega) (off := 187) (by rw [z0]; rfl) (tgt := 188) rfl ?_
                        refine mx_S.ext [(1, .int a1), (2, .int a2)] (mx_sub_pos [1, 2] rfl (show ([0, 1, 2] : List Nat).Nodup by decide)) ?_
                        exact j_X13_reckon_188_ok X hF hL nn a1 a2 h hf
                      · exact absurd (Int32.toInt_inj.mp (z0.trans (by decide : (126 : Int) = (126 : Int32).toInt))) n_8
                      · refine sx_tin hm dX13_reckon_1 (by omega) (by omega) (off := 187) (by rw [z0]; rfl) (tgt := 188) rfl ?_
                        refine mx_S.ext [(1, .int a1), (2, .int a2)] (mx_sub_pos [1, 2] rfl (show ([0, 1, 2] : List Nat).Nodup by decide)) ?_
                        exact j_X13_reckon_188_ok X hF hL nn a1 a2 h hf
                      · exact absurd (Int32.toInt_inj.mp (z0.trans (by decide : (128 : Int) = (128 : Int32).toInt))) n_9

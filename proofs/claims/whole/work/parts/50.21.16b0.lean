set_option maxHeartbeats 4000000 in
set_option maxRecDepth 20000 in
theorem j_X3_parametersIn_128_ok (X : Nat × (Nat → Int32)) {F L : Nat} (hF : 2 ≤ F) (hL : 51 ≤ L) (nn : Nat) (l0 : Nat) (l2 : Int32) (l3 : Int32) (l4 : Int32) (s0 : Int32) (h : mx_H) {r : (Int32 × mx_H)} (hf : j_X3_parametersIn_128 nn l0 l2 l3 l4 s0 h = some r) : mx_S X F L 116 128 [(0, .ref l0), (2, .int l2), (3, .int l3), (4, .int l4)] [.int s0] h 0 0 (some (.int r.1), r.2, 0, 0) := by
  have hm : mx_mt 116 = some (yX3_parametersIn, cX3_parametersIn, 6, (some .int)) := mt_X3_parametersIn
  unfold j_X3_parametersIn_128 at hf
  refine mx_S.pu (pc2 := 130) (lv2 := [(5, .int s0), (0, .ref l0), (2, .int l2), (3, .int l3), (4, .int l4)]) (st2 := []) hm dX3_parametersIn_128 rfl ?_
  refine mx_S.pu (pc2 := 132) (lv2 := [(5, .int s0), (0, .ref l0), (2, .int l2), (3, .int l3), (4, .int l4)]) (st2 := [.int s0]) hm dX3_parametersIn_130 rfl ?_
  rcases mx_if_el hf with ⟨c5, hf⟩ | ⟨c5, hf⟩
  · refine sb_if_ne hm dX3_parametersIn_132 (tgt := 147) rfl (fun _ => ?_) (fun z => absurd c5 z)
    refine mx_S.pu (pc2 := 149) (lv2 := [(5, .int s0), (0, .ref l0), (2, .int l2), (3, .int l3), (4, .int l4)]) (st2 := [.int l4]) hm dX3_parametersIn_147 rfl ?_
    refine mx_S.pu (pc2 := 153) (lv2 := [(5, .int s0), (0, .ref l0), (2, .int l2), (3, .int l3), (4, .int l4)]) (st2 := [.int l4]) hm dX3_parametersIn_149 rfl ?_
    cases hf
    exact sx_ire hm dX3_parametersIn_153 rfl rfl
  · refine sb_if_ne hm dX3_parametersIn_132 (tgt := 147) rfl (fun z => absurd z c5) (fun _ => ?_)
    refine mx_S.pu (pc2 := 136) (lv2 := [(5, .int s0), (0, .ref l0), (2, .int l2), (3, .int l3), (4, .int l4)]) (st2 := [.ref l0]) hm dX3_parametersIn_135 rfl ?_
    refine mx_S.pu (pc2 := 137) (lv2 := [(5, .int s0), (0, .ref l0), (2, .int l2), (3, .int l3), (4, .int l4)]) (st2 := [.int l3, .ref l0]) hm dX3_parametersIn_136 rfl ?_
    refine sx_ic (v := 1) hm dX3_parametersIn_137 (by decide) ?_
    replace hf := xl_el hf; obtain ⟨v1, e_v1, hf⟩ := hf
    refine mx_S.pu (pc2 := 139) (lv2 := [(5, .int s0), (0, .ref l0), (2, .int l2), (3, .int l3), (4, .int l4)]) (st2 := [.int v1, .ref l0]) hm dX3_parametersIn_138 (by rw [← e_v1]; rfl) ?_
    clear e_v1
    refine mx_S.pu (pc2 := 140) (lv2 := [(5, .int s0), (0, .ref l0), (2, .int l2), (3, .int l3), (4, .int l4)]) (st2 := [.int l2, .int v1, .ref l0]) hm dX3_parametersIn_139 rfl ?_
    replace hf := mx_gd_el hf; obtain ⟨c2, hf⟩ := hf
    replace hf := mx_sv_el hf; obtain ⟨u3, e_u3, hf⟩ := hf
    refine sx_cv hm dX3_parametersIn_140 rs_RX3_149 mt_X3_behindKind [.int v1, .int l2] [] (b := l0) (ci := 3) rfl rfl rfl c2 (Nat.le_of_ble_eq_true rfl) (Nat.le_of_ble_eq_true rfl) (by omega) (by omega) (f_X3_behindKind_ok X (by omega) (by omega) nn l0 v1 l2 h e_u3) ?_
    clear e_u3
    show mx_S X F L 116 143 [(5, .int s0), (0, .ref l0), (2, .int l2), (3, .int l3), (4, .int l4)] [.int u3.1] u3.2 0 0 (some (.int r.1), r.2, 0, 0)
    refine mx_S.pu (pc2 := 144) (lv2 := [(5, .int s0), (0, .ref l0), (2, .int l2), (3, .int l3), (4, .int l4)]) (st2 := [.int l2, .int u3.1]) hm dX3_parametersIn_143 rfl ?_
    rcases mx_if_el hf with ⟨c4, hf⟩ | ⟨c4, hf⟩
    · refine sb_ic_ne hm dX3_parametersIn_144 (tgt := 152) rfl (fun _ => ?_) (fun z => absurd c4 z)
      refine sx_ic (v := (-1)) hm dX3_parametersIn_152 (by decide) ?_
      cases hf
      exact sx_ire hm dX3_parametersIn_153 rfl rfl
    · refine sb_ic_ne hm dX3_parametersIn_144 (tgt := 152) rfl (fun z => absurd z c4) (fun _ => ?_)
      refine mx_S.pu (pc2 := 149) (lv2 := [(5, .int s0), (0, .ref l0), (2, .int l2), (3, .int l3), (4, .int l4)]) (st2 := [.int l4]) hm dX3_parametersIn_147 rfl ?_
      refine mx_S.pu (pc2 := 153) (lv2 := [(5, .int s0), (0, .ref l0), (2, .int l2), (3, .int l3), (4, .int l4)]) (st2 := [.int l4]) hm dX3_parametersIn_149 rfl ?_
      cases hf
      exact sx_ire hm dX3_parametersIn_153 rfl rfl
set_option maxHeartbeats 4000000 in
set_option maxRecDepth 20000 in
theorem j_X3_parametersIn_127_ok (X : Nat × (Nat → Int32)) {F L : Nat} (hF : 2 ≤ F) (hL : 51 ≤ L) (nn : Nat) (l0 : Nat) (l2 : Int32) (l3 : Int32) (l4 : Int32) (h : mx_H) {r : (Int32 × mx_H)} (hf : j_X3_parametersIn_127 nn l0 l2 l3 l4 h = some r) : mx_S X F L 116 127 [(0, .ref l0), (2, .int l2), (3, .int l3), (4, .int l4)] [] h 0 0 (some (.int r.1), r.2, 0, 0) := by
  have hm : mx_mt 116 = some (yX3_parametersIn, cX3_parametersIn, 6, (some .int)) := mt_X3_parametersIn
  unfold j_X3_parametersIn_127 at hf
  refine sx_ic (v := 0) hm dX3_parametersIn_127 (by decide) ?_
  exact j_X3_parametersIn_128_ok X hF hL nn l0 l2 l3 l4 0 h hf
set_option maxHeartbeats 4000000 in
set_option maxRecDepth 20000 in
theorem j_X3_parametersIn_85_ok (X : Nat × (Nat → Int32)) {F L : Nat} (hF : 2 ≤ F) (hL : 51 ≤ L) (nn : Nat) (l0 : Nat) (l2 : Int32) (l3 : Int32) (l4 : Int32) (h : mx_H) {r : (Int32 × mx_H)} (hf : j_X3_parametersIn_85 nn l0 l2 l3 l4 h = some r) : mx_S X F L 116 85 [(0, .ref l0), (2, .int l2), (3, .int l3), (4, .int l4)] [] h 0 0 (some (.int r.1), r.2, 0, 0) := by
  have hm : mx_mt 116 = some (yX3_parametersIn, cX3_parametersIn, 6, (some .int)) := mt_X3_parametersIn
  unfold j_X3_parametersIn_85 at hf
  refine mx_S.pu (pc2 := 86) (lv2 := [(0, .ref l0), (2, .int l2), (3, .int l3), (4, .int l4)]) (st2 := [.int l3]) hm dX3_parametersIn_85 rfl ?_
  refine sx_ic (v := (-1)) hm dX3_parametersIn_86 (by decide) ?_
  rcases mx_if_el hf with ⟨c14, hf⟩ | ⟨c14, hf⟩
  · refine sb_ic_eq hm dX3_parametersIn_87 (tgt := 102) rfl (fun _ => ?_) (fun z => absurd c14 z)
    refine sx_ic (v := (-1)) hm dX3_parametersIn_102 (by decide) ?_
    cases hf
    exact sx_ire hm dX3_parametersIn_103 rfl rfl
  · refine sb_ic_eq hm dX3_parametersIn_87 (tgt := 102) rfl (fun z => absurd z c14) (fun _ => ?_)
    refine mx_S.pu (pc2 := 91) (lv2 := [(0, .ref l0), (2, .int l2), (3, .int l3), (4, .int l4)]) (st2 := [.int l3]) hm dX3_parametersIn_90 rfl ?_
    refine mx_S.pu (pc2 := 92) (lv2 := [(0, .ref l0), (2, .int l2), (3, .int l3), (4, .int l4)]) (st2 := [.int l2, .int l3]) hm dX3_parametersIn_91 rfl ?_
    rcases mx_if_el hf with ⟨c13, hf⟩ | ⟨c13, hf⟩
    · refine sb_ic_ge hm dX3_parametersIn_92 (tgt := 102) rfl (fun _ => ?_) (fun z => absurd c13 z)
      refine sx_ic (v := (-1)) hm dX3_parametersIn_102 (by decide) ?_
      cases hf
      exact sx_ire hm dX3_parametersIn_103 rfl rfl
    · refine sb_ic_ge hm dX3_parametersIn_92 (tgt := 102) rfl (fun z => absurd z c13) (fun _ => ?_)
      refine mx_S.pu (pc2 := 97) (lv2 := [(0, .ref l0), (2, .int l2), (3, .int l3), (4, .int l4)]) (st2 := [.int l4]) hm dX3_parametersIn_95 rfl ?_
      refine sx_bi (v := 6) hm dX3_parametersIn_97 (by decide) ?_
      rcases mx_if_el hf with ⟨c12, hf⟩ | ⟨c12, hf⟩
      · refine sb_ic_le hm dX3_parametersIn_99 (tgt := 104) rfl (fun _ => ?_) (fun z => absurd c12 z)
        refine mx_S.pu (pc2 := 105) (lv2 := [(0, .ref l0), (2, .int l2), (3, .int l3), (4, .int l4)]) (st2 := [.int l3]) hm dX3_parametersIn_104 rfl ?_
        refine sx_ic (v := 2) hm dX3_parametersIn_105 (by decide) ?_
        replace hf := xl_el hf; obtain ⟨v6, e_v6, hf⟩ := hf
        refine mx_S.pu (pc2 := 107) (lv2 := [(0, .ref l0), (2, .int l2), (3, .int l3), (4, .int l4)]) (st2 := [.int v6]) hm dX3_parametersIn_106 (by rw [← e_v6]; rfl) ?_
        clear e_v6
        refine mx_S.pu (pc2 := 108) (lv2 := [(0, .ref l0), (2, .int l2), (3, .int l3), (4, .int l4)]) (st2 := [.int l2, .int v6]) hm dX3_parametersIn_107 rfl ?_
        rcases mx_if_el hf with ⟨c11, hf⟩ | ⟨c11, hf⟩
        · refine sb_ic_ne hm dX3_parametersIn_108 (tgt := 127) rfl (fun _ => ?_) (fun z => absurd c11 z)
          exact j_X3_parametersIn_127_ok X hF hL nn l0 l2 l3 l4 h hf
        · refine sb_ic_ne hm dX3_parametersIn_108 (tgt := 127) rfl (fun z => absurd z c11) (fun _ => ?_)
          refine mx_S.pu (pc2 := 112) (lv2 := [(0, .ref l0), (2, .int l2), (3, .int l3), (4, .int l4)]) (st2 := [.ref l0]) hm dX3_parametersIn_111 rfl ?_
          refine mx_S.pu (pc2 := 113) (lv2 := [(0, .ref l0), (2, .int l2), (3, .int l3), (4, .int l4)]) (st2 := [.int l3, .ref l0]) hm dX3_parametersIn_112 rfl ?_
          refine sx_ic (v := 1) hm dX3_parametersIn_113 (by decide) ?_
          replace hf := xl_el hf; obtain ⟨v7, e_v7, hf⟩ := hf
          refine mx_S.pu (pc2 := 115) (lv2 := [(0, .ref l0), (2, .int l2), (3, .int l3), (4, .int l4)]) (st2 := [.int v7, .ref l0]) hm dX3_parametersIn_114 (by rw [← e_v7]; rfl) ?_
          clear e_v7
          replace hf := mx_gd_el hf; obtain ⟨c8, hf⟩ := hf
          replace hf := mx_sv_el hf; obtain ⟨u9, e_u9, hf⟩ := hf
          refine sx_cv hm dX3_parametersIn_115 rs_RX3_119 mt_X3_byteAt [.int v7] [] (b := l0) (ci := 3) rfl rfl rfl c8 (Nat.le_of_ble_eq_true rfl) (Nat.le_of_ble_eq_true rfl) (by omega) (by omega) (f_X3_byteAt_ok X (by omega) (by omega) nn l0 v7 h e_u9) ?_
          clear e_u9
          show mx_S X F L 116 118 [(0, .ref l0), (2, .int l2), (3, .int l3), (4, .int l4)] [.int u9.1] u9.2 0 0 (some (.int r.1), r.2, 0, 0)
          refine sx_bi (v := 86) hm dX3_parametersIn_118 (by decide) ?_
          rcases mx_if_el hf with ⟨c10, hf⟩ | ⟨c10, hf⟩
          · refine sb_ic_ne hm dX3_parametersIn_120 (tgt := 127) rfl (fun _ => ?_) (fun z => absurd c10 z)
            exact j_X3_parametersIn_127_ok X hF hL nn l0 l2 l3 l4 u9.2 hf
          · refine sb_ic_ne hm dX3_parametersIn_120 (tgt := 127) rfl (fun z => absurd z c10) (fun _ => ?_)
            refine sx_ic (v := 1) hm dX3_parametersIn_123 (by decide) ?_
            refine mx_S.pu (pc2 := 128) (lv2 := [(0, .ref l0), (2, .int l2), (3, .int l3), (4, .int l4)]) (st2 := [.int 1]) hm dX3_parametersIn_124 rfl ?_
            exact j_X3_parametersIn_128_ok X hF hL nn l0 l2 l3 l4 1 u9.2 hf
      · refine sb_ic_le hm dX3_parametersIn_99 (tgt := 104) rfl (fun z => absurd z c12) (fun _ => ?_)
        refine sx_ic (v := (-1)) hm dX3_parametersIn_102 (by decide) ?_
        cases hf
        exact sx_ire hm dX3_parametersIn_103 rfl rfl
set_option maxHeartbeats 4000000 in
set_option maxRecDepth 20000 in
theorem w_X3_parametersIn_45_ok (X : Nat × (Nat → Int32)) {F L : Nat} (hF : 2 ≤ F) (hL : 51 ≤ L) (nn : Nat) : ∀ (k : Nat) (l0 : Nat) (l2 : Int32) (l3 : Int32) (l4 : Int32) (h : mx_H) (r : (Int32 × mx_H)), w_X3_parametersIn_45 nn k l0 l2 l3 l4 h = some r → mx_S X F L 116 45 [(0, .ref l0), (2, .int l2), (3, .int l3), (4, .int l4)] [] h 0 0 (some (.int r.1), r.2, 0, 0) := by
  have hm : mx_mt 116 = some (yX3_parametersIn, cX3_parametersIn, 6, (some .int)) := mt_X3_parametersIn
  intro k
  induction k with
  | zero => intro l0 l2 l3 l4 h r hf; cases hf
  | succ k ih =>
    intro l0 l2 l3 l4 h r hf
    unfold w_X3_parametersIn_45 at hf
    refine mx_S.pu (pc2 := 47) (lv2 := [(0, .ref l0), (2, .int l2), (3, .int l3), (4, .int l4)]) (st2 := [.int l4]) hm dX3_parametersIn_45 rfl ?_
    refine sx_bi (v := 6) hm dX3_parametersIn_47 (by decide) ?_
    rcases mx_if_el hf with ⟨c23, hf⟩ | ⟨c23, hf⟩
    · refine sb_ic_gt hm dX3_parametersIn_49 (tgt := 85) rfl (fun _ => ?_) (fun z => absurd c23 z)
      exact j_X3_parametersIn_85_ok X hF hL nn l0 l2 l3 l4 h hf
    · refine sb_ic_gt hm dX3_parametersIn_49 (tgt := 85) rfl (fun z => absurd z c23) (fun _ => ?_)
      refine mx_S.pu (pc2 := 53) (lv2 := [(0, .ref l0), (2, .int l2), (3, .int l3), (4, .int l4)]) (st2 := [.int l3]) hm dX3_parametersIn_52 rfl ?_
      refine sx_ic (v := (-1)) hm dX3_parametersIn_53 (by decide) ?_
      rcases mx_if_el hf with ⟨c22, hf⟩ | ⟨c22, hf⟩
      · refine sb_ic_eq hm dX3_parametersIn_54 (tgt := 85) rfl (fun _ => ?_) (fun z => absurd c22 z)
        exact j_X3_parametersIn_85_ok X hF hL nn l0 l2 l3 l4 h hf
      · refine sb_ic_eq hm dX3_parametersIn_54 (tgt := 85) rfl (fun z => absurd z c22) (fun _ => ?_)
        refine mx_S.pu (pc2 := 58) (lv2 := [(0, .ref l0), (2, .int l2), (3, .int l3), (4, .int l4)]) (st2 := [.int l3]) hm dX3_parametersIn_57 rfl ?_
        refine mx_S.pu (pc2 := 59) (lv2 := [(0, .ref l0), (2, .int l2), (3, .int l3), (4, .int l4)]) (st2 := [.int l2, .int l3]) hm dX3_parametersIn_58 rfl ?_
        rcases mx_if_el hf with ⟨c21, hf⟩ | ⟨c21, hf⟩
        · refine sb_ic_ge hm dX3_parametersIn_59 (tgt := 85) rfl (fun _ => ?_) (fun z => absurd c21 z)
          exact j_X3_parametersIn_85_ok X hF hL nn l0 l2 l3 l4 h hf
        · refine sb_ic_ge hm dX3_parametersIn_59 (tgt := 85) rfl (fun z => absurd z c21) (fun _ => ?_)
          refine mx_S.pu (pc2 := 63) (lv2 := [(0, .ref l0), (2, .int l2), (3, .int l3), (4, .int l4)]) (st2 := [.ref l0]) hm dX3_parametersIn_62 rfl ?_
          refine mx_S.pu (pc2 := 64) (lv2 := [(0, .ref l0), (2, .int l2), (3, .int l3), (4, .int l4)]) (st2 := [.int l3, .ref l0]) hm dX3_parametersIn_63 rfl ?_
          replace hf := mx_gd_el hf; obtain ⟨c15, hf⟩ := hf
          replace hf := mx_sv_el hf; obtain ⟨u16, e_u16, hf⟩ := hf
          refine sx_cv hm dX3_parametersIn_64 rs_RX3_119 mt_X3_byteAt [.int l3] [] (b := l0) (ci := 3) rfl rfl rfl c15 (Nat.le_of_ble_eq_true rfl) (Nat.le_of_ble_eq_true rfl) (by omega) (by omega) (f_X3_byteAt_ok X (by omega) (by omega) nn l0 l3 h e_u16) ?_
          clear e_u16
          show mx_S X F L 116 67 [(0, .ref l0), (2, .int l2), (3, .int l3), (4, .int l4)] [.int u16.1] u16.2 0 0 (some (.int r.1), r.2, 0, 0)
          refine sx_bi (v := 41) hm dX3_parametersIn_67 (by decide) ?_
          rcases mx_if_el hf with ⟨c20, hf⟩ | ⟨c20, hf⟩
          · refine sb_ic_eq hm dX3_parametersIn_69 (tgt := 85) rfl (fun _ => ?_) (fun z => absurd c20 z)
            exact j_X3_parametersIn_85_ok X hF hL nn l0 l2 l3 l4 u16.2 hf
          · refine sb_ic_eq hm dX3_parametersIn_69 (tgt := 85) rfl (fun z => absurd z c20) (fun _ => ?_)
            refine mx_S.pu (pc2 := 73) (lv2 := [(0, .ref l0), (2, .int l2), (3, .int l3), (4, .int l4)]) (st2 := [.ref l0]) hm dX3_parametersIn_72 rfl ?_
            refine mx_S.pu (pc2 := 74) (lv2 := [(0, .ref l0), (2, .int l2), (3, .int l3), (4, .int l4)]) (st2 := [.int l3, .ref l0]) hm dX3_parametersIn_73 rfl ?_
            refine mx_S.pu (pc2 := 75) (lv2 := [(0, .ref l0), (2, .int l2), (3, .int l3), (4, .int l4)]) (st2 := [.int l2, .int l3, .ref l0]) hm dX3_parametersIn_74 rfl ?_
            replace hf := mx_gd_el hf; obtain ⟨c17, hf⟩ := hf
            replace hf := mx_sv_el hf; obtain ⟨u18, e_u18, hf⟩ := hf
            refine sx_cv hm dX3_parametersIn_75 rs_RX3_149 mt_X3_behindKind [.int l3, .int l2] [] (b := l0) (ci := 3) rfl rfl rfl c17 (Nat.le_of_ble_eq_true rfl) (Nat.le_of_ble_eq_true rfl) (by omega) (by omega) (f_X3_behindKind_ok X (by omega) (by omega) nn l0 l3 l2 u16.2 e_u18) ?_
            clear e_u18
            show mx_S X F L 116 78 [(0, .ref l0), (2, .int l2), (3, .int l3), (4, .int l4)] [.int u18.1] u18.2 0 0 (some (.int r.1), r.2, 0, 0)
            refine mx_S.pu (pc2 := 79) (lv2 := [(3, .int u18.1), (0, .ref l0), (2, .int l2), (4, .int l4)]) (st2 := []) hm dX3_parametersIn_78 rfl ?_
            replace hf := xl_el hf; obtain ⟨v19, e_v19, hf⟩ := hf
            refine mx_S.pu (pc2 := 82) (lv2 := [(4, .int v19), (3, .int u18.1), (0, .ref l0), (2, .int l2)]) (st2 := []) hm dX3_parametersIn_79 (by rw [← e_v19]; rfl) ?_
            clear e_v19
            refine mx_S.pu (pc2 := 45) (lv2 := [(4, .int v19), (3, .int u18.1), (0, .ref l0), (2, .int l2)]) (st2 := []) hm dX3_parametersIn_82 rfl ?_
            refine mx_S.ext [(0, .ref l0), (2, .int l2), (3, .int u18.1), (4, .int v19)] (mx_sub_pos [2, 3, 1, 0] rfl (show ([4, 3, 0, 2] : List Nat).Nodup by decide)) ?_
            exact ih l0 l2 u18.1 v19 u18.2 _ hf
set_option maxHeartbeats 4000000 in
set_option maxRecDepth 20000 in
theorem f_X3_parametersIn_ok (X : Nat × (Nat → Int32)) {F L : Nat} (hF : 2 ≤ F) (hL : 51 ≤ L) (nn : Nat) (a0 : Nat) (a1 : Int32) (h : mx_H) {r : (Int32 × mx_H)} (hf : f_X3_parametersIn nn a0 a1 h = some r) : mx_R X F L 116 [.ref a0, .int a1] h (some (.int r.1), r.2, 0, 0) := by
  have hm : mx_mt 116 = some (yX3_parametersIn, cX3_parametersIn, 6, (some .int)) := mt_X3_parametersIn
  show mx_S X F L 116 0 [(0, .ref a0), (1, .int a1)] [] h 0 0 (some (.int r.1), r.2, 0, 0)
  unfold f_X3_parametersIn at hf
  refine mx_S.pu (pc2 := 1) (lv2 := [(0, .ref a0), (1, .int a1)]) (st2 := [.ref a0]) hm dX3_parametersIn_0 rfl ?_
  refine mx_S.pu (pc2 := 2) (lv2 := [(0, .ref a0), (1, .int a1)]) (st2 := [.int a1, .ref a0]) hm dX3_parametersIn_1 rfl ?_
  replace hf := mx_gd_el hf; obtain ⟨c24, hf⟩ := hf
  replace hf := mx_sv_el hf; obtain ⟨u25, e_u25, hf⟩ := hf
  refine sx_cv hm dX3_parametersIn_2 rs_RX3_112 mt_X3_tagOf [.int a1] [] (b := a0) (ci := 3) rfl rfl rfl c24 (Nat.le_of_ble_eq_true rfl) (Nat.le_of_ble_eq_true rfl) (by omega) (by omega) (f_X3_tagOf_ok X (by omega) (by omega) nn a0 a1 h e_u25) ?_
  clear e_u25
  show mx_S X F L 116 5 [(0, .ref a0), (1, .int a1)] [.int u25.1] u25.2 0 0 (some (.int r.1), r.2, 0, 0)
  refine sx_ic (v := 1) hm dX3_parametersIn_5 (by decide) ?_
  rcases mx_if_el hf with ⟨c36, hf⟩ | ⟨c36, hf⟩
  · refine sb_ic_ne hm dX3_parametersIn_6 (tgt := 24) rfl (fun _ => ?_) (fun z => absurd c36 z)
    refine sx_ic (v := (-1)) hm dX3_parametersIn_24 (by decide) ?_
    cases hf
    exact sx_ire hm dX3_parametersIn_25 rfl rfl
  · refine sb_ic_ne hm dX3_parametersIn_6 (tgt := 24) rfl (fun z => absurd z c36) (fun _ => ?_)
    refine mx_S.pu (pc2 := 10) (lv2 := [(0, .ref a0), (1, .int a1)]) (st2 := [.ref a0]) hm dX3_parametersIn_9 rfl ?_
    refine mx_S.pu (pc2 := 11) (lv2 := [(0, .ref a0), (1, .int a1)]) (st2 := [.ref a0, .ref a0]) hm dX3_parametersIn_10 rfl ?_
    replace hf := mx_sv_el hf; obtain ⟨v26, e_v26, hf⟩ := hf
    refine sx_get hm dX3_parametersIn_11 rs_RX3_19 (xgr_el e_v26) ?_
    clear e_v26
    refine mx_S.pu (pc2 := 15) (lv2 := [(0, .ref a0), (1, .int a1)]) (st2 := [.int a1, .ref v26, .ref a0]) hm dX3_parametersIn_14 rfl ?_
    replace hf := mx_sv_el hf; obtain ⟨v27, e_v27, hf⟩ := hf
    refine sx_ald hm dX3_parametersIn_15 e_v27 ?_
    clear e_v27
    replace hf := mx_gd_el hf; obtain ⟨c28, hf⟩ := hf
    replace hf := mx_sv_el hf; obtain ⟨u29, e_u29, hf⟩ := hf
    refine sx_cv hm dX3_parametersIn_16 rs_RX3_119 mt_X3_byteAt [.int v27] [] (b := a0) (ci := 3) rfl rfl rfl c28 (Nat.le_of_ble_eq_true rfl) (Nat.le_of_ble_eq_true rfl) (by omega) (by omega) (f_X3_byteAt_ok X (by omega) (by omega) nn a0 v27 u25.2 e_u29) ?_
    clear e_u29
    show mx_S X F L 116 19 [(0, .ref a0), (1, .int a1)] [.int u29.1] u29.2 0 0 (some (.int r.1), r.2, 0, 0)
    refine sx_bi (v := 40) hm dX3_parametersIn_19 (by decide) ?_
    rcases mx_if_el hf with ⟨c35, hf⟩ | ⟨c35, hf⟩
    · refine sb_ic_eq hm dX3_parametersIn_21 (tgt := 26) rfl (fun _ => ?_) (fun z => absurd c35 z)
      refine mx_S.pu (pc2 := 27) (lv2 := [(0, .ref a0), (1, .int a1)]) (st2 := [.ref a0]) hm dX3_parametersIn_26 rfl ?_
      replace hf := mx_sv_el hf; obtain ⟨v30, e_v30, hf⟩ := hf
      refine sx_get hm dX3_parametersIn_27 rs_RX3_22 (xgr_el e_v30) ?_
      clear e_v30
      refine mx_S.pu (pc2 := 31) (lv2 := [(0, .ref a0), (1, .int a1)]) (st2 := [.int a1, .ref v30]) hm dX3_parametersIn_30 rfl ?_
      replace hf := mx_sv_el hf; obtain ⟨v31, e_v31, hf⟩ := hf
      refine sx_ald hm dX3_parametersIn_31 e_v31 ?_
      clear e_v31
      refine mx_S.pu (pc2 := 33) (lv2 := [(2, .int v31), (0, .ref a0), (1, .int a1)]) (st2 := []) hm dX3_parametersIn_32 rfl ?_
      refine mx_S.pu (pc2 := 34) (lv2 := [(2, .int v31), (0, .ref a0), (1, .int a1)]) (st2 := [.ref a0]) hm dX3_parametersIn_33 rfl ?_
      replace hf := mx_sv_el hf; obtain ⟨v32, e_v32, hf⟩ := hf
      refine sx_get hm dX3_parametersIn_34 rs_RX3_19 (xgr_el e_v32) ?_
      clear e_v32
      refine mx_S.pu (pc2 := 38) (lv2 := [(2, .int v31), (0, .ref a0), (1, .int a1)]) (st2 := [.int a1, .ref v32]) hm dX3_parametersIn_37 rfl ?_
      replace hf := mx_sv_el hf; obtain ⟨v33, e_v33, hf⟩ := hf
      refine sx_ald hm dX3_parametersIn_38 e_v33 ?_
      clear e_v33
      refine sx_ic (v := 1) hm dX3_parametersIn_39 (by decide) ?_
      replace hf := xl_el hf; obtain ⟨v34, e_v34, hf⟩ := hf
      refine mx_S.pu (pc2 := 41) (lv2 := [(2, .int v31), (0, .ref a0), (1, .int a1)]) (st2 := [.int v34]) hm dX3_parametersIn_40 (by rw [← e_v34]; rfl) ?_
      clear e_v34
      refine mx_S.pu (pc2 := 42) (lv2 := [(3, .int v34), (2, .int v31), (0, .ref a0), (1, .int a1)]) (st2 := []) hm dX3_parametersIn_41 rfl ?_
      refine sx_ic (v := 0) hm dX3_parametersIn_42 (by decide) ?_
      refine mx_S.pu (pc2 := 45) (lv2 := [(4, .int 0), (3, .int v34), (2, .int v31), (0, .ref a0), (1, .int a1)]) (st2 := []) hm dX3_parametersIn_43 rfl ?_
      refine mx_S.ext [(0, .ref a0), (2, .int v31), (3, .int v34), (4, .int 0)] (mx_sub_pos [3, 2, 1, 0] rfl (show ([4, 3, 2, 0, 1] : List Nat).Nodup by decide)) ?_
      exact w_X3_parametersIn_45_ok X hF hL nn nn a0 v31 v34 0 u29.2 _ hf
    · refine sb_ic_eq hm dX3_parametersIn_21 (tgt := 26) rfl (fun z => absurd z c35) (fun _ => ?_)
      refine sx_ic (v := (-1)) hm dX3_parametersIn_24 (by decide) ?_
      cases hf
      exact sx_ire hm dX3_parametersIn_25 rfl rfl
set_option maxHeartbeats 4000000 in
set_option maxRecDepth 20000 in
theorem j_X3_checkConstant_109_ok (X : Nat × (Nat → Int32)) {F L : Nat} (hF : 3 ≤ F) (hL : 76 ≤ L) (nn : Nat) (l0 : Nat) (l2 : Int32) (l3 : Int32) (h : mx_H) {r : mx_H} (hf : j_X3_checkConstant_109 nn l0 l2 l3 h = some r) : mx_S X F L 101 109 [(0, .ref l0), (2, .int l2), (3, .int l3)] [] h 0 0 (none, r, 0, 0) := by
  have hm : mx_mt 101 = some (yX3_checkConstant, cX3_checkConstant, 4, none) := mt_X3_checkConstant
  unfold j_X3_checkConstant_109 at hf
  refine mx_S.pu (pc2 := 110) (lv2 := [(0, .ref l0), (2, .int l2), (3, .int l3)]) (st2 := [.ref l0]) hm dX3_checkConstant_109 rfl ?_
  refine mx_S.pu (pc2 := 111) (lv2 := [(0, .ref l0), (2, .int l2), (3, .int l3)]) (st2 := [.int l3, .ref l0]) hm dX3_checkConstant_110 rfl ?_
  replace hf := mx_gd_el hf; obtain ⟨c1, hf⟩ := hf
  replace hf := mx_sv_el hf; obtain ⟨u2, e_u2, hf⟩ := hf
  refine sx_cv hm dX3_checkConstant_111 rs_RX3_109 mt_X3_isFieldKind [.int l3] [] (b := l0) (ci := 3) rfl rfl rfl c1 (Nat.le_of_ble_eq_true rfl) (Nat.le_of_ble_eq_true rfl) (by omega) (by omega) (f_X3_isFieldKind_ok X (by omega) (by omega) nn l0 l3 h e_u2) ?_
  clear e_u2
  show mx_S X F L 101 114 [(0, .ref l0), (2, .int l2), (3, .int l3)] [.int u2.1] u2.2 0 0 (none, r, 0, 0)
  rcases mx_if_el hf with ⟨c9, hf⟩ | ⟨c9, hf⟩
  · refine sb_if_ne hm dX3_checkConstant_114 (tgt := 133) rfl (fun _ => ?_) (fun z => absurd c9 z)
    cases hf
    exact sx_ret hm dX3_checkConstant_133 rfl
  · refine sb_if_ne hm dX3_checkConstant_114 (tgt := 133) rfl (fun z => absurd z c9) (fun _ => ?_)
    refine mx_S.pu (pc2 := 118) (lv2 := [(0, .ref l0), (2, .int l2), (3, .int l3)]) (st2 := [.ref l0]) hm dX3_checkConstant_117 rfl ?_
    refine mx_S.pu (pc2 := 119) (lv2 := [(0, .ref l0), (2, .int l2), (3, .int l3)]) (st2 := [.int l3, .ref l0]) hm dX3_checkConstant_118 rfl ?_
    replace hf := mx_gd_el hf; obtain ⟨c3, hf⟩ := hf
    replace hf := mx_sv_el hf; obtain ⟨u4, e_u4, hf⟩ := hf
    refine sx_cv hm dX3_checkConstant_119 rs_RX3_116 mt_X3_parametersIn [.int l3] [] (b := l0) (ci := 3) rfl rfl rfl c3 (Nat.le_of_ble_eq_true rfl) (Nat.le_of_ble_eq_true rfl) (by omega) (by omega) (f_X3_parametersIn_ok X (by omega) (by omega) nn l0 l3 u2.2 e_u4) ?_
    clear e_u4
    show mx_S X F L 101 122 [(0, .ref l0), (2, .int l2), (3, .int l3)] [.int u4.1] u4.2 0 0 (none, r, 0, 0)
    refine sx_ic (v := (-1)) hm dX3_checkConstant_122 (by decide) ?_
    rcases mx_if_el hf with ⟨c8, hf⟩ | ⟨c8, hf⟩
    · refine sb_ic_ne hm dX3_checkConstant_123 (tgt := 133) rfl (fun _ => ?_) (fun z => absurd c8 z)
      cases hf
      exact sx_ret hm dX3_checkConstant_133 rfl
    · refine sb_ic_ne hm dX3_checkConstant_123 (tgt := 133) rfl (fun z => absurd z c8) (fun _ => ?_)
      refine mx_S.pu (pc2 := 127) (lv2 := [(0, .ref l0), (2, .int l2), (3, .int l3)]) (st2 := [.ref l0]) hm dX3_checkConstant_126 rfl ?_
      refine mx_S.pu (pc2 := 128) (lv2 := [(0, .ref l0), (2, .int l2), (3, .int l3)]) (st2 := [.int l2, .ref l0]) hm dX3_checkConstant_127 rfl ?_
      refine sx_ic (v := 2) hm dX3_checkConstant_128 (by decide) ?_
      replace hf := xl_el hf; obtain ⟨v5, e_v5, hf⟩ := hf
      refine mx_S.pu (pc2 := 130) (lv2 := [(0, .ref l0), (2, .int l2), (3, .int l3)]) (st2 := [.int v5, .ref l0]) hm dX3_checkConstant_129 (by rw [← e_v5]; rfl) ?_
      clear e_v5
      replace hf := mx_gd_el hf; obtain ⟨c6, hf⟩ := hf
      replace hf := mx_sv_el hf; obtain ⟨u7, e_u7, hf⟩ := hf
      refine sx_cv hm dX3_checkConstant_130 rs_RX3_78 mt_X3_bad [.int v5] [] (b := l0) (ci := 3) rfl rfl rfl c6 (Nat.le_of_ble_eq_true rfl) (Nat.le_of_ble_eq_true rfl) (by omega) (by omega) (f_X3_bad_ok X (by omega) (by omega) nn l0 v5 u4.2 e_u7) ?_
      clear e_u7
      show mx_S X F L 101 133 [(0, .ref l0), (2, .int l2), (3, .int l3)] [] u7 0 0 (none, r, 0, 0)
      cases hf
      exact sx_ret hm dX3_checkConstant_133 rfl
set_option maxHeartbeats 4000000 in
set_option maxRecDepth 20000 in
theorem j_X3_checkConstant_89_ok (X : Nat × (Nat → Int32)) {F L : Nat} (hF : 3 ≤ F) (hL : 76 ≤ L) (nn : Nat) (l0 : Nat) (l1 : Int32) (l2 : Int32) (l3 : Int32) (h : mx_H) {r : mx_H} (hf : j_X3_checkConstant_89 nn l0 l1 l2 l3 h = some r) : mx_S X F L 101 89 [(0, .ref l0), (1, .int l1), (2, .int l2), (3, .int l3)] [] h 0 0 (none, r, 0, 0) := by
  have hm : mx_mt 101 = some (yX3_checkConstant, cX3_checkConstant, 4, none) := mt_X3_checkConstant
  unfold j_X3_checkConstant_89 at hf
  refine mx_S.pu (pc2 := 90) (lv2 := [(0, .ref l0), (1, .int l1), (2, .int l2), (3, .int l3)]) (st2 := [.ref l0]) hm dX3_checkConstant_89 rfl ?_
  refine mx_S.pu (pc2 := 91) (lv2 := [(0, .ref l0), (1, .int l1), (2, .int l2), (3, .int l3)]) (st2 := [.ref l0, .ref l0]) hm dX3_checkConstant_90 rfl ?_
  refine mx_S.pu (pc2 := 92) (lv2 := [(0, .ref l0), (1, .int l1), (2, .int l2), (3, .int l3)]) (st2 := [.int l1, .ref l0, .ref l0]) hm dX3_checkConstant_91 rfl ?_
  refine sx_ic (v := 1) hm dX3_checkConstant_92 (by decide) ?_
  replace hf := mx_gd_el hf; obtain ⟨c10, hf⟩ := hf
  replace hf := mx_sv_el hf; obtain ⟨u11, e_u11, hf⟩ := hf
  refine sx_cv hm dX3_checkConstant_93 rs_RX3_99 mt_X3_partOf [.int l1, .int 1] [.ref l0] (b := l0) (ci := 3) rfl rfl rfl c10 (Nat.le_of_ble_eq_true rfl) (Nat.le_of_ble_eq_true rfl) (by omega) (by omega) (f_X3_partOf_ok X (by omega) (by omega) nn l0 l1 1 h e_u11) ?_
  clear e_u11
  show mx_S X F L 101 96 [(0, .ref l0), (1, .int l1), (2, .int l2), (3, .int l3)] [.int u11.1, .ref l0] u11.2 0 0 (none, r, 0, 0)
  replace hf := mx_gd_el hf; obtain ⟨c12, hf⟩ := hf
  replace hf := mx_sv_el hf; obtain ⟨u13, e_u13, hf⟩ := hf
  refine sx_cv hm dX3_checkConstant_96 rs_RX3_102 mt_X3_isNameText [.int u11.1] [] (b := l0) (ci := 3) rfl rfl rfl c12 (Nat.le_of_ble_eq_true rfl) (Nat.le_of_ble_eq_true rfl) (by omega) (by omega) (f_X3_isNameText_ok X (by omega) (by omega) nn l0 u11.1 u11.2 e_u13) ?_
  clear e_u13
  show mx_S X F L 101 99 [(0, .ref l0), (1, .int l1), (2, .int l2), (3, .int l3)] [.int u13.1] u13.2 0 0 (none, r, 0, 0)
  rcases mx_if_el hf with ⟨c17, hf⟩ | ⟨c17, hf⟩
  · refine sb_if_ne hm dX3_checkConstant_99 (tgt := 109) rfl (fun _ => ?_) (fun z => absurd c17 z)
    refine mx_S.ext [(0, .ref l0), (2, .int l2), (3, .int l3)] (mx_sub_pos [0, 2, 3] rfl (show ([0, 1, 2, 3] : List Nat).Nodup by decide)) ?_
    exact j_X3_checkConstant_109_ok X hF hL nn l0 l2 l3 u13.2 hf
  · refine sb_if_ne hm dX3_checkConstant_99 (tgt := 109) rfl (fun z => absurd z c17) (fun _ => ?_)
    refine mx_S.pu (pc2 := 103) (lv2 := [(0, .ref l0), (1, .int l1), (2, .int l2), (3, .int l3)]) (st2 := [.ref l0]) hm dX3_checkConstant_102 rfl ?_
    refine mx_S.pu (pc2 := 104) (lv2 := [(0, .ref l0), (1, .int l1), (2, .int l2), (3, .int l3)]) (st2 := [.int l2, .ref l0]) hm dX3_checkConstant_103 rfl ?_
    refine sx_ic (v := 1) hm dX3_checkConstant_104 (by decide) ?_
    replace hf := xl_el hf; obtain ⟨v14, e_v14, hf⟩ := hf
    refine mx_S.pu (pc2 := 106) (lv2 := [(0, .ref l0), (1, .int l1), (2, .int l2), (3, .int l3)]) (st2 := [.int v14, .ref l0]) hm dX3_checkConstant_105 (by rw [← e_v14]; rfl) ?_
    clear e_v14
    replace hf := mx_gd_el hf; obtain ⟨c15, hf⟩ := hf
    replace hf := mx_sv_el hf; obtain ⟨u16, e_u16, hf⟩ := hf
    refine sx_cv hm dX3_checkConstant_106 rs_RX3_78 mt_X3_bad [.int v14] [] (b := l0) (ci := 3) rfl rfl rfl c15 (Nat.le_of_ble_eq_true rfl) (Nat.le_of_ble_eq_true rfl) (by omega) (by omega) (f_X3_bad_ok X (by omega) (by omega) nn l0 v14 u13.2 e_u16) ?_
    clear e_u16
    show mx_S X F L 101 109 [(0, .ref l0), (1, .int l1), (2, .int l2), (3, .int l3)] [] u16 0 0 (none, r, 0, 0)
    refine mx_S.ext [(0, .ref l0), (2, .int l2), (3, .int l3)] (mx_sub_pos [0, 2, 3] rfl (show ([0, 1, 2, 3] : List Nat).Nodup by decide)) ?_
    exact j_X3_checkConstant_109_ok X hF hL nn l0 l2 l3 u16 hf
set_option maxHeartbeats 4000000 in
set_option maxRecDepth 20000 in
theorem j_X3_checkConstant_53_ok (X : Nat × (Nat → Int32)) {F L : Nat} (hF : 3 ≤ F) (hL : 76 ≤ L) (nn : Nat) (l0 : Nat) (l1 : Int32) (l2 : Int32) (h : mx_H) {r : mx_H} (hf : j_X3_checkConstant_53 nn l0 l1 l2 h = some r) : mx_S X F L 101 53 [(0, .ref l0), (1, .int l1), (2, .int l2)] [] h 0 0 (none, r, 0, 0) := by
  have hm : mx_mt 101 = some (yX3_checkConstant, cX3_checkConstant, 4, none) := mt_X3_checkConstant
  unfold j_X3_checkConstant_53 at hf
  refine mx_S.pu (pc2 := 54) (lv2 := [(0, .ref l0), (1, .int l1), (2, .int l2)]) (st2 := [.ref l0]) hm dX3_checkConstant_53 rfl ?_
  replace hf := mx_sv_el hf; obtain ⟨v18, e_v18, hf⟩ := hf
  refine sx_get hm dX3_checkConstant_54 rs_RX3_15 (xgr_el e_v18) ?_
  clear e_v18
  refine mx_S.pu (pc2 := 58) (lv2 := [(0, .ref l0), (1, .int l1), (2, .int l2)]) (st2 := [.int l1, .ref v18]) hm dX3_checkConstant_57 rfl ?_
  replace hf := mx_sv_el hf; obtain ⟨v19, e_v19, hf⟩ := hf
  refine sx_ald hm dX3_checkConstant_58 e_v19 ?_
  clear e_v19
  refine sx_ic (v := 4) hm dX3_checkConstant_59 (by decide) ?_
  rcases mx_if_el hf with ⟨c29, hf⟩ | ⟨c29, hf⟩
  · refine sb_ic_ne hm dX3_checkConstant_60 (tgt := 133) rfl (fun _ => ?_) (fun z => absurd c29 z)
    cases hf
    exact sx_ret hm dX3_checkConstant_133 rfl
  · refine sb_ic_ne hm dX3_checkConstant_60 (tgt := 133) rfl (fun z => absurd z c29) (fun _ => ?_)
    refine mx_S.pu (pc2 := 64) (lv2 := [(0, .ref l0), (1, .int l1), (2, .int l2)]) (st2 := [.ref l0]) hm dX3_checkConstant_63 rfl ?_
    refine mx_S.pu (pc2 := 65) (lv2 := [(0, .ref l0), (1, .int l1), (2, .int l2)]) (st2 := [.int l1, .ref l0]) hm dX3_checkConstant_64 rfl ?_
    refine sx_ic (v := 2) hm dX3_checkConstant_65 (by decide) ?_
    replace hf := mx_gd_el hf; obtain ⟨c20, hf⟩ := hf
    replace hf := mx_sv_el hf; obtain ⟨u21, e_u21, hf⟩ := hf
    refine sx_cv hm dX3_checkConstant_66 rs_RX3_99 mt_X3_partOf [.int l1, .int 2] [] (b := l0) (ci := 3) rfl rfl rfl c20 (Nat.le_of_ble_eq_true rfl) (Nat.le_of_ble_eq_true rfl) (by omega) (by omega) (f_X3_partOf_ok X (by omega) (by omega) nn l0 l1 2 h e_u21) ?_
    clear e_u21
    show mx_S X F L 101 69 [(0, .ref l0), (1, .int l1), (2, .int l2)] [.int u21.1] u21.2 0 0 (none, r, 0, 0)
    refine mx_S.pu (pc2 := 70) (lv2 := [(3, .int u21.1), (0, .ref l0), (1, .int l1), (2, .int l2)]) (st2 := []) hm dX3_checkConstant_69 rfl ?_
    refine mx_S.pu (pc2 := 71) (lv2 := [(3, .int u21.1), (0, .ref l0), (1, .int l1), (2, .int l2)]) (st2 := [.ref l0]) hm dX3_checkConstant_70 rfl ?_
    refine mx_S.pu (pc2 := 72) (lv2 := [(3, .int u21.1), (0, .ref l0), (1, .int l1), (2, .int l2)]) (st2 := [.ref l0, .ref l0]) hm dX3_checkConstant_71 rfl ?_
    refine mx_S.pu (pc2 := 73) (lv2 := [(3, .int u21.1), (0, .ref l0), (1, .int l1), (2, .int l2)]) (st2 := [.int l1, .ref l0, .ref l0]) hm dX3_checkConstant_72 rfl ?_
    refine sx_ic (v := 0) hm dX3_checkConstant_73 (by decide) ?_
    replace hf := mx_gd_el hf; obtain ⟨c22, hf⟩ := hf
    replace hf := mx_sv_el hf; obtain ⟨u23, e_u23, hf⟩ := hf
    refine sx_cv hm dX3_checkConstant_74 rs_RX3_99 mt_X3_partOf [.int l1, .int 0] [.ref l0] (b := l0) (ci := 3) rfl rfl rfl c22 (Nat.le_of_ble_eq_true rfl) (Nat.le_of_ble_eq_true rfl) (by omega) (by omega) (f_X3_partOf_ok X (by omega) (by omega) nn l0 l1 0 u21.2 e_u23) ?_
    clear e_u23
    show mx_S X F L 101 77 [(3, .int u21.1), (0, .ref l0), (1, .int l1), (2, .int l2)] [.int u23.1, .ref l0] u23.2 0 0 (none, r, 0, 0)
    replace hf := mx_gd_el hf; obtain ⟨c24, hf⟩ := hf
    replace hf := mx_sv_el hf; obtain ⟨u25, e_u25, hf⟩ := hf
    refine sx_cv hm dX3_checkConstant_77 rs_RX3_112 mt_X3_tagOf [.int u23.1] [] (b := l0) (ci := 3) rfl rfl rfl c24 (Nat.le_of_ble_eq_true rfl) (Nat.le_of_ble_eq_true rfl) (by omega) (by omega) (f_X3_tagOf_ok X (by omega) (by omega) nn l0 u23.1 u23.2 e_u25) ?_
    clear e_u25
    show mx_S X F L 101 80 [(3, .int u21.1), (0, .ref l0), (1, .int l1), (2, .int l2)] [.int u25.1] u25.2 0 0 (none, r, 0, 0)
    refine sx_ic (v := 3) hm dX3_checkConstant_80 (by decide) ?_
    rcases mx_if_el hf with ⟨c28, hf⟩ | ⟨c28, hf⟩
    · refine sb_ic_eq hm dX3_checkConstant_81 (tgt := 89) rfl (fun _ => ?_) (fun z => absurd c28 z)
      refine mx_S.ext [(0, .ref l0), (1, .int l1), (2, .int l2), (3, .int u21.1)] (mx_sub_pos [1, 2, 3, 0] rfl (show ([3, 0, 1, 2] : List Nat).Nodup by decide)) ?_
      exact j_X3_checkConstant_89_ok X hF hL nn l0 l1 l2 u21.1 u25.2 hf
    · refine sb_ic_eq hm dX3_checkConstant_81 (tgt := 89) rfl (fun z => absurd z c28) (fun _ => ?_)
      refine mx_S.pu (pc2 := 85) (lv2 := [(3, .int u21.1), (0, .ref l0), (1, .int l1), (2, .int l2)]) (st2 := [.ref l0]) hm dX3_checkConstant_84 rfl ?_
      refine mx_S.pu (pc2 := 86) (lv2 := [(3, .int u21.1), (0, .ref l0), (1, .int l1), (2, .int l2)]) (st2 := [.int l2, .ref l0]) hm dX3_checkConstant_85 rfl ?_
      replace hf := mx_gd_el hf; obtain ⟨c26, hf⟩ := hf
      replace hf := mx_sv_el hf; obtain ⟨u27, e_u27, hf⟩ := hf
      refine sx_cv hm dX3_checkConstant_86 rs_RX3_78 mt_X3_bad [.int l2] [] (b := l0) (ci := 3) rfl rfl rfl c26 (Nat.le_of_ble_eq_true rfl) (Nat.le_of_ble_eq_true rfl) (by omega) (by omega) (f_X3_bad_ok X (by omega) (by omega) nn l0 l2 u25.2 e_u27) ?_
      clear e_u27
      show mx_S X F L 101 89 [(3, .int u21.1), (0, .ref l0), (1, .int l1), (2, .int l2)] [] u27 0 0 (none, r, 0, 0)
      refine mx_S.ext [(0, .ref l0), (1, .int l1), (2, .int l2), (3, .int u21.1)] (mx_sub_pos [1, 2, 3, 0] rfl (show ([3, 0, 1, 2] : List Nat).Nodup by decide)) ?_
      exact j_X3_checkConstant_89_ok X hF hL nn l0 l1 l2 u21.1 u27 hf
set_option maxHeartbeats 4000000 in
set_option maxRecDepth 20000 in
theorem j_X3_checkConstant_48_ok (X : Nat × (Nat → Int32)) {F L : Nat} (hF : 3 ≤ F) (hL : 76 ≤ L) (nn : Nat) (l0 : Nat) (l1 : Int32) (l2 : Int32) (h : mx_H) {r : mx_H} (hf : j_X3_checkConstant_48 nn l0 l1 l2 h = some r) : mx_S X F L 101 48 [(0, .ref l0), (1, .int l1), (2, .int l2)] [] h 0 0 (none, r, 0, 0) := by
  have hm : mx_mt 101 = some (yX3_checkConstant, cX3_checkConstant, 4, none) := mt_X3_checkConstant
  unfold j_X3_checkConstant_48 at hf
  refine mx_S.pu (pc2 := 49) (lv2 := [(0, .ref l0), (1, .int l1), (2, .int l2)]) (st2 := [.ref l0]) hm dX3_checkConstant_48 rfl ?_
  refine mx_S.pu (pc2 := 50) (lv2 := [(0, .ref l0), (1, .int l1), (2, .int l2)]) (st2 := [.int l2, .ref l0]) hm dX3_checkConstant_49 rfl ?_
  replace hf := mx_gd_el hf; obtain ⟨c30, hf⟩ := hf
  replace hf := mx_sv_el hf; obtain ⟨u31, e_u31, hf⟩ := hf
  refine sx_cv hm dX3_checkConstant_50 rs_RX3_78 mt_X3_bad [.int l2] [] (b := l0) (ci := 3) rfl rfl rfl c30 (Nat.le_of_ble_eq_true rfl) (Nat.le_of_ble_eq_true rfl) (by omega) (by omega) (f_X3_bad_ok X (by omega) (by omega) nn l0 l2 h e_u31) ?_
  clear e_u31
  show mx_S X F L 101 53 [(0, .ref l0), (1, .int l1), (2, .int l2)] [] u31 0 0 (none, r, 0, 0)
  exact j_X3_checkConstant_53_ok X hF hL nn l0 l1 l2 u31 hf
set_option maxHeartbeats 4000000 in
set_option maxRecDepth 20000 in
theorem f_X3_checkConstant_ok (X : Nat × (Nat → Int32)) {F L : Nat} (hF : 3 ≤ F) (hL : 76 ≤ L) (nn : Nat) (a0 : Nat) (a1 : Int32) (h : mx_H) {r : mx_H} (hf : f_X3_checkConstant nn a0 a1 h = some r) : mx_R X F L 101 [.ref a0, .int a1] h (none, r, 0, 0) := by
  have hm : mx_mt 101 = some (yX3_checkConstant, cX3_checkConstant, 4, none) := mt_X3_checkConstant
  show mx_S X F L 101 0 [(0, .ref a0), (1, .int a1)] [] h 0 0 (none, r, 0, 0)
  unfold f_X3_checkConstant at hf
  refine mx_S.pu (pc2 := 1) (lv2 := [(0, .ref a0), (1, .int a1)]) (st2 := [.ref a0]) hm dX3_checkConstant_0 rfl ?_
  replace hf := mx_sv_el hf; obtain ⟨v32, e_v32, hf⟩ := hf
  refine sx_get hm dX3_checkConstant_1 rs_RX3_19 (xgr_el e_v32) ?_
  clear e_v32
  refine mx_S.pu (pc2 := 5) (lv2 := [(0, .ref a0), (1, .int a1)]) (st2 := [.int a1, .ref v32]) hm dX3_checkConstant_4 rfl ?_
  replace hf := mx_sv_el hf; obtain ⟨v33, e_v33, hf⟩ := hf
  refine sx_ald hm dX3_checkConstant_5 e_v33 ?_
  clear e_v33
  refine mx_S.pu (pc2 := 7) (lv2 := [(2, .int v33), (0, .ref a0), (1, .int a1)]) (st2 := []) hm dX3_checkConstant_6 rfl ?_
  refine mx_S.pu (pc2 := 8) (lv2 := [(2, .int v33), (0, .ref a0), (1, .int a1)]) (st2 := [.ref a0]) hm dX3_checkConstant_7 rfl ?_
  replace hf := mx_sv_el hf; obtain ⟨v34, e_v34, hf⟩ := hf
  refine sx_get hm dX3_checkConstant_8 rs_RX3_15 (xgr_el e_v34) ?_
  clear e_v34
  refine mx_S.pu (pc2 := 12) (lv2 := [(2, .int v33), (0, .ref a0), (1, .int a1)]) (st2 := [.int a1, .ref v34]) hm dX3_checkConstant_11 rfl ?_
  replace hf := mx_sv_el hf; obtain ⟨v35, e_v35, hf⟩ := hf
  refine sx_ald hm dX3_checkConstant_12 e_v35 ?_
  clear e_v35
  refine sx_ic (v := 3) hm dX3_checkConstant_13 (by decide) ?_
  rcases mx_if_el hf with ⟨c47, hf⟩ | ⟨c47, hf⟩
  · refine sb_ic_ne hm dX3_checkConstant_14 (tgt := 53) rfl (fun _ => ?_) (fun z => absurd c47 z)
    refine mx_S.ext [(0, .ref a0), (1, .int a1), (2, .int v33)] (mx_sub_pos [1, 2, 0] rfl (show ([2, 0, 1] : List Nat).Nodup by decide)) ?_
    exact j_X3_checkConstant_53_ok X hF hL nn a0 a1 v33 h hf
  · refine sb_ic_ne hm dX3_checkConstant_14 (tgt := 53) rfl (fun z => absurd z c47) (fun _ => ?_)
    refine mx_S.pu (pc2 := 18) (lv2 := [(2, .int v33), (0, .ref a0), (1, .int a1)]) (st2 := [.ref a0]) hm dX3_checkConstant_17 rfl ?_
    refine mx_S.pu (pc2 := 19) (lv2 := [(2, .int v33), (0, .ref a0), (1, .int a1)]) (st2 := [.int a1, .ref a0]) hm dX3_checkConstant_18 rfl ?_
    refine sx_ic (v := 0) hm dX3_checkConstant_19 (by decide) ?_
    replace hf := mx_gd_el hf; obtain ⟨c36, hf⟩ := hf
    replace hf := mx_sv_el hf; obtain ⟨u37, e_u37, hf⟩ := hf
    refine sx_cv hm dX3_checkConstant_20 rs_RX3_99 mt_X3_partOf [.int a1, .int 0] [] (b := a0) (ci := 3) rfl rfl rfl c36 (Nat.le_of_ble_eq_true rfl) (Nat.le_of_ble_eq_true rfl) (by omega) (by omega) (f_X3_partOf_ok X (by omega) (by omega) nn a0 a1 0 h e_u37) ?_
    clear e_u37
    show mx_S X F L 101 23 [(2, .int v33), (0, .ref a0), (1, .int a1)] [.int u37.1] u37.2 0 0 (none, r, 0, 0)
    refine mx_S.pu (pc2 := 24) (lv2 := [(3, .int u37.1), (2, .int v33), (0, .ref a0), (1, .int a1)]) (st2 := []) hm dX3_checkConstant_23 rfl ?_
    refine mx_S.pu (pc2 := 25) (lv2 := [(3, .int u37.1), (2, .int v33), (0, .ref a0), (1, .int a1)]) (st2 := [.ref a0]) hm dX3_checkConstant_24 rfl ?_
    refine mx_S.pu (pc2 := 26) (lv2 := [(3, .int u37.1), (2, .int v33), (0, .ref a0), (1, .int a1)]) (st2 := [.int u37.1, .ref a0]) hm dX3_checkConstant_25 rfl ?_
    replace hf := mx_gd_el hf; obtain ⟨c38, hf⟩ := hf
    replace hf := mx_sv_el hf; obtain ⟨u39, e_u39, hf⟩ := hf
    refine sx_cv hm dX3_checkConstant_26 rs_RX3_102 mt_X3_isNameText [.int u37.1] [] (b := a0) (ci := 3) rfl rfl rfl c38 (Nat.le_of_ble_eq_true rfl) (Nat.le_of_ble_eq_true rfl) (by omega) (by omega) (f_X3_isNameText_ok X (by omega) (by omega) nn a0 u37.1 u37.2 e_u39) ?_
    clear e_u39
    show mx_S X F L 101 29 [(3, .int u37.1), (2, .int v33), (0, .ref a0), (1, .int a1)] [.int u39.1] u39.2 0 0 (none, r, 0, 0)
    rcases mx_if_el hf with ⟨c46, hf⟩ | ⟨c46, hf⟩
    · refine sb_if_ne hm dX3_checkConstant_29 (tgt := 53) rfl (fun _ => ?_) (fun z => absurd c46 z)
      refine mx_S.ext [(0, .ref a0), (1, .int a1), (2, .int v33)] (mx_sub_pos [2, 3, 1] rfl (show ([3, 2, 0, 1] : List Nat).Nodup by decide)) ?_
      exact j_X3_checkConstant_53_ok X hF hL nn a0 a1 v33 u39.2 hf
    · refine sb_if_ne hm dX3_checkConstant_29 (tgt := 53) rfl (fun z => absurd z c46) (fun _ => ?_)
      refine mx_S.pu (pc2 := 33) (lv2 := [(3, .int u37.1), (2, .int v33), (0, .ref a0), (1, .int a1)]) (st2 := [.ref a0]) hm dX3_checkConstant_32 rfl ?_
      refine mx_S.pu (pc2 := 34) (lv2 := [(3, .int u37.1), (2, .int v33), (0, .ref a0), (1, .int a1)]) (st2 := [.int u37.1, .ref a0]) hm dX3_checkConstant_33 rfl ?_
      replace hf := mx_gd_el hf; obtain ⟨c40, hf⟩ := hf
      replace hf := mx_sv_el hf; obtain ⟨u41, e_u41, hf⟩ := hf
      refine sx_cv hm dX3_checkConstant_34 rs_RX3_106 mt_X3_isArrayText [.int u37.1] [] (b := a0) (ci := 3) rfl rfl rfl c40 (Nat.le_of_ble_eq_true rfl) (Nat.le_of_ble_eq_true rfl) (by omega) (by omega) (f_X3_isArrayText_ok X (by omega) (by omega) nn a0 u37.1 u39.2 e_u41) ?_
      clear e_u41
      show mx_S X F L 101 37 [(3, .int u37.1), (2, .int v33), (0, .ref a0), (1, .int a1)] [.int u41.1] u41.2 0 0 (none, r, 0, 0)
      rcases mx_if_el hf with ⟨c45, hf⟩ | ⟨c45, hf⟩
      · refine sb_if_eq hm dX3_checkConstant_37 (tgt := 48) rfl (fun _ => ?_) (fun z => absurd c45 z)
        refine mx_S.ext [(0, .ref a0), (1, .int a1), (2, .int v33)] (mx_sub_pos [2, 3, 1] rfl (show ([3, 2, 0, 1] : List Nat).Nodup by decide)) ?_
        exact j_X3_checkConstant_48_ok X hF hL nn a0 a1 v33 u41.2 hf
      · refine sb_if_eq hm dX3_checkConstant_37 (tgt := 48) rfl (fun z => absurd z c45) (fun _ => ?_)
        refine mx_S.pu (pc2 := 41) (lv2 := [(3, .int u37.1), (2, .int v33), (0, .ref a0), (1, .int a1)]) (st2 := [.ref a0]) hm dX3_checkConstant_40 rfl ?_
        refine mx_S.pu (pc2 := 42) (lv2 := [(3, .int u37.1), (2, .int v33), (0, .ref a0), (1, .int a1)]) (st2 := [.int u37.1, .ref a0]) hm dX3_checkConstant_41 rfl ?_
        replace hf := mx_gd_el hf; obtain ⟨c42, hf⟩ := hf
        replace hf := mx_sv_el hf; obtain ⟨u43, e_u43, hf⟩ := hf
        refine sx_cv hm dX3_checkConstant_42 rs_RX3_109 mt_X3_isFieldKind [.int u37.1] [] (b := a0) (ci := 3) rfl rfl rfl c42 (Nat.le_of_ble_eq_true rfl) (Nat.le_of_ble_eq_true rfl) (by omega) (by omega) (f_X3_isFieldKind_ok X (by omega) (by omega) nn a0 u37.1 u41.2 e_u43) ?_
        clear e_u43
        show mx_S X F L 101 45 [(3, .int u37.1), (2, .int v33), (0, .ref a0), (1, .int a1)] [.int u43.1] u43.2 0 0 (none, r, 0, 0)
        rcases mx_if_el hf with ⟨c44, hf⟩ | ⟨c44, hf⟩
        · refine sb_if_ne hm dX3_checkConstant_45 (tgt := 53) rfl (fun _ => ?_) (fun z => absurd c44 z)
          refine mx_S.ext [(0, .ref a0), (1, .int a1), (2, .int v33)] (mx_sub_pos [2, 3, 1] rfl (show ([3, 2, 0, 1] : List Nat).Nodup by decide)) ?_
          exact j_X3_checkConstant_53_ok X hF hL nn a0 a1 v33 u43.2 hf
        · refine sb_if_ne hm dX3_checkConstant_45 (tgt := 53) rfl (fun z => absurd z c44) (fun _ => ?_)
          refine mx_S.ext [(0, .ref a0), (1, .int a1), (2, .int v33)] (mx_sub_pos [2, 3, 1] rfl (show ([3, 2, 0, 1] : List Nat).Nodup by decide)) ?_
          exact j_X3_checkConstant_48_ok X hF hL nn a0 a1 v33 u43.2 hf
set_option maxHeartbeats 4000000 in
set_option maxRecDepth 20000 in
theorem w_X3_readConstant_84_ok (X : Nat × (Nat → Int32)) {F L : Nat} (hF : 2 ≤ F) (hL : 44 ≤ L) (nn : Nat) : ∀ (k : Nat) (l0 : Nat) (l2 : Int32) (l3 : Int32) (l4 : Int32) (h : mx_H) (r : mx_H), w_X3_readConstant_84 nn k l0 l2 l3 l4 h = some r → mx_S X F L 100 84 [(0, .ref l0), (2, .int l2), (3, .int l3), (4, .int l4)] [] h 0 0 (none, r, 0, 0) := by
  have hm : mx_mt 100 = some (yX3_readConstant, cX3_readConstant, 5, none) := mt_X3_readConstant
  intro k
  induction k with
  | zero => intro l0 l2 l3 l4 h r hf; cases hf
  | succ k ih =>
    intro l0 l2 l3 l4 h r hf
    unfold w_X3_readConstant_84 at hf
    refine mx_S.pu (pc2 := 86) (lv2 := [(0, .ref l0), (2, .int l2), (3, .int l3), (4, .int l4)]) (st2 := [.int l4]) hm dX3_readConstant_84 rfl ?_
    refine mx_S.pu (pc2 := 87) (lv2 := [(0, .ref l0), (2, .int l2), (3, .int l3), (4, .int l4)]) (st2 := [.int l3, .int l4]) hm dX3_readConstant_86 rfl ?_
    rcases mx_if_el hf with ⟨c10, hf⟩ | ⟨c10, hf⟩
    · refine sb_ic_ge hm dX3_readConstant_87 (tgt := 126) rfl (fun _ => ?_) (fun z => absurd c10 z)
      cases hf
      exact sx_ret hm dX3_readConstant_126 rfl
    · refine sb_ic_ge hm dX3_readConstant_87 (tgt := 126) rfl (fun z => absurd z c10) (fun _ => ?_)
      refine mx_S.pu (pc2 := 91) (lv2 := [(0, .ref l0), (2, .int l2), (3, .int l3), (4, .int l4)]) (st2 := [.ref l0]) hm dX3_readConstant_90 rfl ?_
      replace hf := mx_sv_el hf; obtain ⟨v1, e_v1, hf⟩ := hf
      refine sx_get hm dX3_readConstant_91 rs_RX3_46 (xgi_el e_v1) ?_
      clear e_v1
      refine sx_ic (v := (-1)) hm dX3_readConstant_94 (by decide) ?_
      rcases mx_if_el hf with ⟨c9, hf⟩ | ⟨c9, hf⟩
      · refine sb_ic_ne hm dX3_readConstant_95 (tgt := 126) rfl (fun _ => ?_) (fun z => absurd c9 z)
        cases hf
        exact sx_ret hm dX3_readConstant_126 rfl
      · refine sb_ic_ne hm dX3_readConstant_95 (tgt := 126) rfl (fun z => absurd z c9) (fun _ => ?_)
        refine mx_S.pu (pc2 := 99) (lv2 := [(0, .ref l0), (2, .int l2), (3, .int l3), (4, .int l4)]) (st2 := [.int l2]) hm dX3_readConstant_98 rfl ?_
        refine sx_ic (v := 1) hm dX3_readConstant_99 (by decide) ?_
        rcases mx_if_el hf with ⟨c8, hf⟩ | ⟨c8, hf⟩
        · refine sb_ic_ne hm dX3_readConstant_100 (tgt := 115) rfl (fun _ => ?_) (fun z => absurd c8 z)
          refine mx_S.pu (pc2 := 116) (lv2 := [(0, .ref l0), (2, .int l2), (3, .int l3), (4, .int l4)]) (st2 := [.ref l0]) hm dX3_readConstant_115 rfl ?_
          replace hf := mx_gd_el hf; obtain ⟨c2, hf⟩ := hf
          replace hf := mx_sv_el hf; obtain ⟨u3, e_u3, hf⟩ := hf
          refine sx_cv hm dX3_readConstant_116 rs_RX3_87 mt_X3_next [] [] (b := l0) (ci := 3) rfl rfl rfl c2 (Nat.le_of_ble_eq_true rfl) (Nat.le_of_ble_eq_true rfl) (by omega) (by omega) (f_X3_next_ok X (by omega) (by omega) nn l0 h e_u3) ?_
          clear e_u3
          show mx_S X F L 100 119 [(0, .ref l0), (2, .int l2), (3, .int l3), (4, .int l4)] [.int u3.1] u3.2 0 0 (none, r, 0, 0)
          refine mx_S.pu (pc2 := 120) (lv2 := [(0, .ref l0), (2, .int l2), (3, .int l3), (4, .int l4)]) (st2 := []) hm dX3_readConstant_119 rfl ?_
          replace hf := xl_el hf; obtain ⟨v4, e_v4, hf⟩ := hf
          refine mx_S.pu (pc2 := 123) (lv2 := [(4, .int v4), (0, .ref l0), (2, .int l2), (3, .int l3)]) (st2 := []) hm dX3_readConstant_120 (by rw [← e_v4]; rfl) ?_
          clear e_v4
          refine mx_S.pu (pc2 := 84) (lv2 := [(4, .int v4), (0, .ref l0), (2, .int l2), (3, .int l3)]) (st2 := []) hm dX3_readConstant_123 rfl ?_
          refine mx_S.ext [(0, .ref l0), (2, .int l2), (3, .int l3), (4, .int v4)] (mx_sub_pos [1, 2, 3, 0] rfl (show ([4, 0, 2, 3] : List Nat).Nodup by decide)) ?_
          exact ih l0 l2 l3 v4 u3.2 _ hf
        · refine sb_ic_ne hm dX3_readConstant_100 (tgt := 115) rfl (fun z => absurd z c8) (fun _ => ?_)
          refine mx_S.pu (pc2 := 104) (lv2 := [(0, .ref l0), (2, .int l2), (3, .int l3), (4, .int l4)]) (st2 := [.ref l0]) hm dX3_readConstant_103 rfl ?_
          refine sx_bi (v := 33) hm dX3_readConstant_104 (by decide) ?_
          refine sx_bi (v := 126) hm dX3_readConstant_106 (by decide) ?_
          replace hf := mx_gd_el hf; obtain ⟨c5, hf⟩ := hf
          replace hf := mx_sv_el hf; obtain ⟨u6, e_u6, hf⟩ := hf
          refine sx_cv hm dX3_readConstant_108 rs_RX3_71 mt_X3_nextUpTo [.int 33, .int 126] [] (b := l0) (ci := 3) rfl rfl rfl c5 (Nat.le_of_ble_eq_true rfl) (Nat.le_of_ble_eq_true rfl) (by omega) (by omega) (f_X3_nextUpTo_ok X (by omega) (by omega) nn l0 33 126 h e_u6) ?_
          clear e_u6
          show mx_S X F L 100 111 [(0, .ref l0), (2, .int l2), (3, .int l3), (4, .int l4)] [.int u6.1] u6.2 0 0 (none, r, 0, 0)
          refine mx_S.pu (pc2 := 112) (lv2 := [(0, .ref l0), (2, .int l2), (3, .int l3), (4, .int l4)]) (st2 := []) hm dX3_readConstant_111 rfl ?_
          refine mx_S.pu (pc2 := 120) (lv2 := [(0, .ref l0), (2, .int l2), (3, .int l3), (4, .int l4)]) (st2 := []) hm dX3_readConstant_112 rfl ?_
          replace hf := xl_el hf; obtain ⟨v7, e_v7, hf⟩ := hf
          refine mx_S.pu (pc2 := 123) (lv2 := [(4, .int v7), (0, .ref l0), (2, .int l2), (3, .int l3)]) (st2 := []) hm dX3_readConstant_120 (by rw [← e_v7]; rfl) ?_
          clear e_v7
          refine mx_S.pu (pc2 := 84) (lv2 := [(4, .int v7), (0, .ref l0), (2, .int l2), (3, .int l3)]) (st2 := []) hm dX3_readConstant_123 rfl ?_
          refine mx_S.ext [(0, .ref l0), (2, .int l2), (3, .int l3), (4, .int v7)] (mx_sub_pos [1, 2, 3, 0] rfl (show ([4, 0, 2, 3] : List Nat).Nodup by decide)) ?_
          exact ih l0 l2 l3 v7 u6.2 _ hf
set_option maxHeartbeats 4000000 in
set_option maxRecDepth 20000 in
theorem j_X3_readConstant_40_ok (X : Nat × (Nat → Int32)) {F L : Nat} (hF : 2 ≤ F) (hL : 44 ≤ L) (nn : Nat) (l0 : Nat) (l1 : Int32) (l2 : Int32) (l3 : Int32) (h : mx_H) {r : mx_H} (hf : j_X3_readConstant_40 nn l0 l1 l2 l3 h = some r) : mx_S X F L 100 40 [(0, .ref l0), (1, .int l1), (2, .int l2), (3, .int l3)] [] h 0 0 (none, r, 0, 0) := by
  have hm : mx_mt 100 = some (yX3_readConstant, cX3_readConstant, 5, none) := mt_X3_readConstant
  unfold j_X3_readConstant_40 at hf
  refine mx_S.pu (pc2 := 41) (lv2 := [(0, .ref l0), (1, .int l1), (2, .int l2), (3, .int l3)]) (st2 := [.ref l0]) hm dX3_readConstant_40 rfl ?_
  replace hf := mx_sv_el hf; obtain ⟨v11, e_v11, hf⟩ := hf
  refine sx_get hm dX3_readConstant_41 rs_RX3_15 (xgr_el e_v11) ?_
  clear e_v11
  refine mx_S.pu (pc2 := 45) (lv2 := [(0, .ref l0), (1, .int l1), (2, .int l2), (3, .int l3)]) (st2 := [.int l1, .ref v11]) hm dX3_readConstant_44 rfl ?_
  refine mx_S.pu (pc2 := 46) (lv2 := [(0, .ref l0), (1, .int l1), (2, .int l2), (3, .int l3)]) (st2 := [.int l2, .int l1, .ref v11]) hm dX3_readConstant_45 rfl ?_
  replace hf := mx_sv_el hf; obtain ⟨h12, e_h12, hf⟩ := hf
  refine sx_ast hm dX3_readConstant_46 e_h12 ?_
  clear e_h12
  refine mx_S.pu (pc2 := 48) (lv2 := [(0, .ref l0), (1, .int l1), (2, .int l2), (3, .int l3)]) (st2 := [.ref l0]) hm dX3_readConstant_47 rfl ?_
  replace hf := mx_sv_el hf; obtain ⟨v13, e_v13, hf⟩ := hf
  refine sx_get hm dX3_readConstant_48 rs_RX3_19 (xgr_el e_v13) ?_
  clear e_v13
  refine mx_S.pu (pc2 := 52) (lv2 := [(0, .ref l0), (1, .int l1), (2, .int l2), (3, .int l3)]) (st2 := [.int l1, .ref v13]) hm dX3_readConstant_51 rfl ?_
  refine mx_S.pu (pc2 := 53) (lv2 := [(0, .ref l0), (1, .int l1), (2, .int l2), (3, .int l3)]) (st2 := [.ref l0, .int l1, .ref v13]) hm dX3_readConstant_52 rfl ?_
  replace hf := mx_sv_el hf; obtain ⟨v14, e_v14, hf⟩ := hf
  refine sx_get hm dX3_readConstant_53 rs_RX3_43 (xgi_el e_v14) ?_
  clear e_v14
  replace hf := mx_sv_el hf; obtain ⟨h15, e_h15, hf⟩ := hf
  refine sx_ast hm dX3_readConstant_56 e_h15 ?_
  clear e_h15
  refine mx_S.pu (pc2 := 58) (lv2 := [(0, .ref l0), (1, .int l1), (2, .int l2), (3, .int l3)]) (st2 := [.ref l0]) hm dX3_readConstant_57 rfl ?_
  replace hf := mx_sv_el hf; obtain ⟨v16, e_v16, hf⟩ := hf
  refine sx_get hm dX3_readConstant_58 rs_RX3_22 (xgr_el e_v16) ?_
  clear e_v16
  refine mx_S.pu (pc2 := 62) (lv2 := [(0, .ref l0), (1, .int l1), (2, .int l2), (3, .int l3)]) (st2 := [.int l1, .ref v16]) hm dX3_readConstant_61 rfl ?_
  refine mx_S.pu (pc2 := 63) (lv2 := [(0, .ref l0), (1, .int l1), (2, .int l2), (3, .int l3)]) (st2 := [.int l2, .int l1, .ref v16]) hm dX3_readConstant_62 rfl ?_
  refine sx_ic (v := 1) hm dX3_readConstant_63 (by decide) ?_
  rcases mx_if_el hf with ⟨c22, hf⟩ | ⟨c22, hf⟩
  · refine sb_ic_ne hm dX3_readConstant_64 (tgt := 76) rfl (fun _ => ?_) (fun z => absurd c22 z)
    refine mx_S.pu (pc2 := 77) (lv2 := [(0, .ref l0), (1, .int l1), (2, .int l2), (3, .int l3)]) (st2 := [.ref l0, .int l1, .ref v16]) hm dX3_readConstant_76 rfl ?_
    replace hf := mx_sv_el hf; obtain ⟨v17, e_v17, hf⟩ := hf
    refine sx_get hm dX3_readConstant_77 rs_RX3_43 (xgi_el e_v17) ?_
    clear e_v17
    replace hf := mx_sv_el hf; obtain ⟨h18, e_h18, hf⟩ := hf
    refine sx_ast hm dX3_readConstant_80 e_h18 ?_
    clear e_h18
    refine sx_ic (v := 0) hm dX3_readConstant_81 (by decide) ?_
    refine mx_S.pu (pc2 := 84) (lv2 := [(4, .int 0), (0, .ref l0), (1, .int l1), (2, .int l2), (3, .int l3)]) (st2 := []) hm dX3_readConstant_82 rfl ?_
    refine mx_S.ext [(0, .ref l0), (2, .int l2), (3, .int l3), (4, .int 0)] (mx_sub_pos [1, 3, 4, 0] rfl (show ([4, 0, 1, 2, 3] : List Nat).Nodup by decide)) ?_
    exact w_X3_readConstant_84_ok X hF hL nn nn l0 l2 l3 0 h18 _ hf
  · refine sb_ic_ne hm dX3_readConstant_64 (tgt := 76) rfl (fun z => absurd z c22) (fun _ => ?_)
    refine mx_S.pu (pc2 := 68) (lv2 := [(0, .ref l0), (1, .int l1), (2, .int l2), (3, .int l3)]) (st2 := [.ref l0, .int l1, .ref v16]) hm dX3_readConstant_67 rfl ?_
    replace hf := mx_sv_el hf; obtain ⟨v19, e_v19, hf⟩ := hf
    refine sx_get hm dX3_readConstant_68 rs_RX3_43 (xgi_el e_v19) ?_
    clear e_v19
    refine mx_S.pu (pc2 := 72) (lv2 := [(0, .ref l0), (1, .int l1), (2, .int l2), (3, .int l3)]) (st2 := [.int l3, .int v19, .int l1, .ref v16]) hm dX3_readConstant_71 rfl ?_
    replace hf := xl_el hf; obtain ⟨v20, e_v20, hf⟩ := hf
    refine mx_S.pu (pc2 := 73) (lv2 := [(0, .ref l0), (1, .int l1), (2, .int l2), (3, .int l3)]) (st2 := [.int v20, .int l1, .ref v16]) hm dX3_readConstant_72 (by rw [← e_v20]; rfl) ?_
    clear e_v20
    refine mx_S.pu (pc2 := 80) (lv2 := [(0, .ref l0), (1, .int l1), (2, .int l2), (3, .int l3)]) (st2 := [.int v20, .int l1, .ref v16]) hm dX3_readConstant_73 rfl ?_
    replace hf := mx_sv_el hf; obtain ⟨h21, e_h21, hf⟩ := hf
    refine sx_ast hm dX3_readConstant_80 e_h21 ?_
    clear e_h21
    refine sx_ic (v := 0) hm dX3_readConstant_81 (by decide) ?_
    refine mx_S.pu (pc2 := 84) (lv2 := [(4, .int 0), (0, .ref l0), (1, .int l1), (2, .int l2), (3, .int l3)]) (st2 := []) hm dX3_readConstant_82 rfl ?_
    refine mx_S.ext [(0, .ref l0), (2, .int l2), (3, .int l3), (4, .int 0)] (mx_sub_pos [1, 3, 4, 0] rfl (show ([4, 0, 1, 2, 3] : List Nat).Nodup by decide)) ?_
    exact w_X3_readConstant_84_ok X hF hL nn nn l0 l2 l3 0 h21 _ hf
set_option maxHeartbeats 4000000 in
set_option maxRecDepth 20000 in
theorem j_X3_readConstant_26_ok (X : Nat × (Nat → Int32)) {F L : Nat} (hF : 2 ≤ F) (hL : 44 ≤ L) (nn : Nat) (l0 : Nat) (l1 : Int32) (l2 : Int32) (s0 : Int32) (h : mx_H) {r : mx_H} (hf : j_X3_readConstant_26 nn l0 l1 l2 s0 h = some r) : mx_S X F L 100 26 [(0, .ref l0), (1, .int l1), (2, .int l2)] [.int s0] h 0 0 (none, r, 0, 0) := by
  have hm : mx_mt 100 = some (yX3_readConstant, cX3_readConstant, 5, none) := mt_X3_readConstant
  unfold j_X3_readConstant_26 at hf
  refine mx_S.pu (pc2 := 27) (lv2 := [(3, .int s0), (0, .ref l0), (1, .int l1), (2, .int l2)]) (st2 := []) hm dX3_readConstant_26 rfl ?_
  refine mx_S.pu (pc2 := 28) (lv2 := [(3, .int s0), (0, .ref l0), (1, .int l1), (2, .int l2)]) (st2 := [.int l2]) hm dX3_readConstant_27 rfl ?_
  refine sx_ic (v := 1) hm dX3_readConstant_28 (by decide) ?_
  rcases mx_if_el hf with ⟨c25, hf⟩ | ⟨c25, hf⟩
  · refine sb_ic_ne hm dX3_readConstant_29 (tgt := 40) rfl (fun _ => ?_) (fun z => absurd c25 z)
    refine mx_S.ext [(0, .ref l0), (1, .int l1), (2, .int l2), (3, .int s0)] (mx_sub_pos [1, 2, 3, 0] rfl (show ([3, 0, 1, 2] : List Nat).Nodup by decide)) ?_
    exact j_X3_readConstant_40_ok X hF hL nn l0 l1 l2 s0 h hf
  · refine sb_ic_ne hm dX3_readConstant_29 (tgt := 40) rfl (fun z => absurd z c25) (fun _ => ?_)
    refine mx_S.pu (pc2 := 33) (lv2 := [(3, .int s0), (0, .ref l0), (1, .int l1), (2, .int l2)]) (st2 := [.ref l0]) hm dX3_readConstant_32 rfl ?_
    refine sx_ic (v := 1) hm dX3_readConstant_33 (by decide) ?_
    refine sx_bi (v := 120) hm dX3_readConstant_34 (by decide) ?_
    replace hf := mx_gd_el hf; obtain ⟨c23, hf⟩ := hf
    replace hf := mx_sv_el hf; obtain ⟨u24, e_u24, hf⟩ := hf
    refine sx_cv hm dX3_readConstant_36 rs_RX3_71 mt_X3_nextUpTo [.int 1, .int 120] [] (b := l0) (ci := 3) rfl rfl rfl c23 (Nat.le_of_ble_eq_true rfl) (Nat.le_of_ble_eq_true rfl) (by omega) (by omega) (f_X3_nextUpTo_ok X (by omega) (by omega) nn l0 1 120 h e_u24) ?_
    clear e_u24
    show mx_S X F L 100 39 [(3, .int s0), (0, .ref l0), (1, .int l1), (2, .int l2)] [.int u24.1] u24.2 0 0 (none, r, 0, 0)
    refine mx_S.pu (pc2 := 40) (lv2 := [(3, .int u24.1), (0, .ref l0), (1, .int l1), (2, .int l2)]) (st2 := []) hm dX3_readConstant_39 rfl ?_
    refine mx_S.ext [(0, .ref l0), (1, .int l1), (2, .int l2), (3, .int u24.1)] (mx_sub_pos [1, 2, 3, 0] rfl (show ([3, 0, 1, 2] : List Nat).Nodup by decide)) ?_
    exact j_X3_readConstant_40_ok X hF hL nn l0 l1 l2 u24.1 u24.2 hf
set_option maxHeartbeats 4000000 in
set_option maxRecDepth 20000 in
theorem f_X3_readConstant_ok (X : Nat × (Nat → Int32)) {F L : Nat} (hF : 2 ≤ F) (hL : 44 ≤ L) (nn : Nat) (a0 : Nat) (a1 : Int32) (h : mx_H) {r : mx_H} (hf : f_X3_readConstant nn a0 a1 h = some r) : mx_R X F L 100 [.ref a0, .int a1] h (none, r, 0, 0) := by
  have hm : mx_mt 100 = some (yX3_readConstant, cX3_readConstant, 5, none) := mt_X3_readConstant
  show mx_S X F L 100 0 [(0, .ref a0), (1, .int a1)] [] h 0 0 (none, r, 0, 0)
  unfold f_X3_readConstant at hf
  refine mx_S.pu (pc2 := 1) (lv2 := [(0, .ref a0), (1, .int a1)]) (st2 := [.ref a0]) hm dX3_readConstant_0 rfl ?_
  refine sx_ic (v := 1) hm dX3_readConstant_1 (by decide) ?_
  refine sx_ic (v := 4) hm dX3_readConstant_2 (by decide) ?_
  replace hf := mx_gd_el hf; obtain ⟨c26, hf⟩ := hf
  replace hf := mx_sv_el hf; obtain ⟨u27, e_u27, hf⟩ := hf
  refine sx_cv hm dX3_readConstant_3 rs_RX3_71 mt_X3_nextUpTo [.int 1, .int 4] [] (b := a0) (ci := 3) rfl rfl rfl c26 (Nat.le_of_ble_eq_true rfl) (Nat.le_of_ble_eq_true rfl) (by omega) (by omega) (f_X3_nextUpTo_ok X (by omega) (by omega) nn a0 1 4 h e_u27) ?_
  clear e_u27
  show mx_S X F L 100 6 [(0, .ref a0), (1, .int a1)] [.int u27.1] u27.2 0 0 (none, r, 0, 0)
  refine mx_S.pu (pc2 := 7) (lv2 := [(2, .int u27.1), (0, .ref a0), (1, .int a1)]) (st2 := []) hm dX3_readConstant_6 rfl ?_
  refine mx_S.pu (pc2 := 8) (lv2 := [(2, .int u27.1), (0, .ref a0), (1, .int a1)]) (st2 := [.int u27.1]) hm dX3_readConstant_7 rfl ?_
  refine sx_ic (v := 2) hm dX3_readConstant_8 (by decide) ?_
  rcases mx_if_el hf with ⟨c29, hf⟩ | ⟨c29, hf⟩
  · refine sb_ic_ne hm dX3_readConstant_9 (tgt := 16) rfl (fun _ => ?_) (fun z => absurd c29 z)
    refine mx_S.pu (pc2 := 17) (lv2 := [(2, .int u27.1), (0, .ref a0), (1, .int a1)]) (st2 := [.int u27.1]) hm dX3_readConstant_16 rfl ?_
    refine sx_ic (v := 3) hm dX3_readConstant_17 (by decide) ?_
    rcases mx_if_el hf with ⟨c28, hf⟩ | ⟨c28, hf⟩
    · refine sb_ic_ne hm dX3_readConstant_18 (tgt := 25) rfl (fun _ => ?_) (fun z => absurd c28 z)
      refine sx_ic (v := 3) hm dX3_readConstant_25 (by decide) ?_
      refine mx_S.ext [(0, .ref a0), (1, .int a1), (2, .int u27.1)] (mx_sub_pos [1, 2, 0] rfl (show ([2, 0, 1] : List Nat).Nodup by decide)) ?_
      exact j_X3_readConstant_26_ok X hF hL nn a0 a1 u27.1 3 u27.2 hf
    · refine sb_ic_ne hm dX3_readConstant_18 (tgt := 25) rfl (fun z => absurd z c28) (fun _ => ?_)
      refine sx_ic (v := 1) hm dX3_readConstant_21 (by decide) ?_
      refine mx_S.pu (pc2 := 26) (lv2 := [(2, .int u27.1), (0, .ref a0), (1, .int a1)]) (st2 := [.int 1]) hm dX3_readConstant_22 rfl ?_
      refine mx_S.ext [(0, .ref a0), (1, .int a1), (2, .int u27.1)] (mx_sub_pos [1, 2, 0] rfl (show ([2, 0, 1] : List Nat).Nodup by decide)) ?_
      exact j_X3_readConstant_26_ok X hF hL nn a0 a1 u27.1 1 u27.2 hf
  · refine sb_ic_ne hm dX3_readConstant_9 (tgt := 16) rfl (fun z => absurd z c29) (fun _ => ?_)
    refine sx_ic (v := 4) hm dX3_readConstant_12 (by decide) ?_
    refine mx_S.pu (pc2 := 26) (lv2 := [(2, .int u27.1), (0, .ref a0), (1, .int a1)]) (st2 := [.int 4]) hm dX3_readConstant_13 rfl ?_
    refine mx_S.ext [(0, .ref a0), (1, .int a1), (2, .int u27.1)] (mx_sub_pos [1, 2, 0] rfl (show ([2, 0, 1] : List Nat).Nodup by decide)) ?_
    exact j_X3_readConstant_26_ok X hF hL nn a0 a1 u27.1 4 u27.2 hf
set_option maxHeartbeats 4000000 in
set_option maxRecDepth 20000 in
theorem w_X3_readConstants_57_ok (X : Nat × (Nat → Int32)) {F L : Nat} (hF : 4 ≤ F) (hL : 99 ≤ L) (nn : Nat) : ∀ (k : Nat) (l0 : Nat) (l1 : Int32) (h : mx_H) (r : mx_H), w_X3_readConstants_57 nn k l0 l1 h = some r → mx_S X F L 99 57 [(0, .ref l0), (1, .int l1)] [] h 0 0 (none, r, 0, 0) := by
  have hm : mx_mt 99 = some (yX3_readConstants, cX3_readConstants, 2, none) := mt_X3_readConstants
  intro k
  induction k with
  | zero => intro l0 l1 h r hf; cases hf
  | succ k ih =>
    intro l0 l1 h r hf
    unfold w_X3_readConstants_57 at hf
    refine mx_S.pu (pc2 := 58) (lv2 := [(0, .ref l0), (1, .int l1)]) (st2 := [.int l1]) hm dX3_readConstants_57 rfl ?_
    refine mx_S.pu (pc2 := 59) (lv2 := [(0, .ref l0), (1, .int l1)]) (st2 := [.ref l0, .int l1]) hm dX3_readConstants_58 rfl ?_
    replace hf := mx_sv_el hf; obtain ⟨v1, e_v1, hf⟩ := hf
    refine sx_get hm dX3_readConstants_59 rs_RX3_90 (xgi_el e_v1) ?_
    clear e_v1
    rcases mx_if_el hf with ⟨c7, hf⟩ | ⟨c7, hf⟩
    · refine sb_ic_gt hm dX3_readConstants_62 (tgt := 84) rfl (fun _ => ?_) (fun z => absurd c7 z)
      cases hf
      exact sx_ret hm dX3_readConstants_84 rfl
    · refine sb_ic_gt hm dX3_readConstants_62 (tgt := 84) rfl (fun z => absurd z c7) (fun _ => ?_)
      refine mx_S.pu (pc2 := 66) (lv2 := [(0, .ref l0), (1, .int l1)]) (st2 := [.ref l0]) hm dX3_readConstants_65 rfl ?_
      replace hf := mx_sv_el hf; obtain ⟨v2, e_v2, hf⟩ := hf
      refine sx_get hm dX3_readConstants_66 rs_RX3_46 (xgi_el e_v2) ?_
      clear e_v2
      refine sx_ic (v := (-1)) hm dX3_readConstants_69 (by decide) ?_
      rcases mx_if_el hf with ⟨c6, hf⟩ | ⟨c6, hf⟩
      · refine sb_ic_ne hm dX3_readConstants_70 (tgt := 84) rfl (fun _ => ?_) (fun z => absurd c6 z)
        cases hf
        exact sx_ret hm dX3_readConstants_84 rfl
      · refine sb_ic_ne hm dX3_readConstants_70 (tgt := 84) rfl (fun z => absurd z c6) (fun _ => ?_)
        refine mx_S.pu (pc2 := 74) (lv2 := [(0, .ref l0), (1, .int l1)]) (st2 := [.ref l0]) hm dX3_readConstants_73 rfl ?_
        refine mx_S.pu (pc2 := 75) (lv2 := [(0, .ref l0), (1, .int l1)]) (st2 := [.int l1, .ref l0]) hm dX3_readConstants_74 rfl ?_
        replace hf := mx_gd_el hf; obtain ⟨c3, hf⟩ := hf
        replace hf := mx_sv_el hf; obtain ⟨u4, e_u4, hf⟩ := hf
        refine sx_cv hm dX3_readConstants_75 rs_RX3_96 mt_X3_checkConstant [.int l1] [] (b := l0) (ci := 3) rfl rfl rfl c3 (Nat.le_of_ble_eq_true rfl) (Nat.le_of_ble_eq_true rfl) (by omega) (by omega) (f_X3_checkConstant_ok X (by omega) (by omega) nn l0 l1 h e_u4) ?_
        clear e_u4
        show mx_S X F L 99 78 [(0, .ref l0), (1, .int l1)] [] u4 0 0 (none, r, 0, 0)
        replace hf := xl_el hf; obtain ⟨v5, e_v5, hf⟩ := hf
        refine mx_S.pu (pc2 := 81) (lv2 := [(1, .int v5), (0, .ref l0)]) (st2 := []) hm dX3_readConstants_78 (by rw [← e_v5]; rfl) ?_
        clear e_v5
        refine mx_S.pu (pc2 := 57) (lv2 := [(1, .int v5), (0, .ref l0)]) (st2 := []) hm dX3_readConstants_81 rfl ?_
        refine mx_S.ext [(0, .ref l0), (1, .int v5)] (mx_sub_pos [1, 0] rfl (show ([1, 0] : List Nat).Nodup by decide)) ?_
        exact ih l0 v5 u4 _ hf
set_option maxHeartbeats 4000000 in
set_option maxRecDepth 20000 in
theorem w_X3_readConstants_28_ok (X : Nat × (Nat → Int32)) {F L : Nat} (hF : 4 ≤ F) (hL : 99 ≤ L) (nn : Nat) : ∀ (k : Nat) (l0 : Nat) (l1 : Int32) (h : mx_H) (r : mx_H), w_X3_readConstants_28 nn k l0 l1 h = some r → mx_S X F L 99 28 [(0, .ref l0), (1, .int l1)] [] h 0 0 (none, r, 0, 0) := by
  have hm : mx_mt 99 = some (yX3_readConstants, cX3_readConstants, 2, none) := mt_X3_readConstants
  intro k
  induction k with
  | zero => intro l0 l1 h r hf; cases hf
  | succ k ih =>
    intro l0 l1 h r hf
    unfold w_X3_readConstants_28 at hf
    refine mx_S.pu (pc2 := 29) (lv2 := [(0, .ref l0), (1, .int l1)]) (st2 := [.int l1]) hm dX3_readConstants_28 rfl ?_
    refine mx_S.pu (pc2 := 30) (lv2 := [(0, .ref l0), (1, .int l1)]) (st2 := [.ref l0, .int l1]) hm dX3_readConstants_29 rfl ?_
    replace hf := mx_sv_el hf; obtain ⟨v8, e_v8, hf⟩ := hf
    refine sx_get hm dX3_readConstants_30 rs_RX3_90 (xgi_el e_v8) ?_
    clear e_v8
    rcases mx_if_el hf with ⟨c14, hf⟩ | ⟨c14, hf⟩
    · refine sb_ic_gt hm dX3_readConstants_33 (tgt := 55) rfl (fun _ => ?_) (fun z => absurd c14 z)
      refine sx_ic (v := 1) hm dX3_readConstants_55 (by decide) ?_
      refine mx_S.pu (pc2 := 57) (lv2 := [(1, .int 1), (0, .ref l0)]) (st2 := []) hm dX3_readConstants_56 rfl ?_
      refine mx_S.ext [(0, .ref l0), (1, .int 1)] (mx_sub_pos [1, 0] rfl (show ([1, 0] : List Nat).Nodup by decide)) ?_
      exact w_X3_readConstants_57_ok X hF hL nn nn l0 1 h _ hf
    · refine sb_ic_gt hm dX3_readConstants_33 (tgt := 55) rfl (fun z => absurd z c14) (fun _ => ?_)
      refine mx_S.pu (pc2 := 37) (lv2 := [(0, .ref l0), (1, .int l1)]) (st2 := [.ref l0]) hm dX3_readConstants_36 rfl ?_
      replace hf := mx_sv_el hf; obtain ⟨v9, e_v9, hf⟩ := hf
      refine sx_get hm dX3_readConstants_37 rs_RX3_46 (xgi_el e_v9) ?_
      clear e_v9
      refine sx_ic (v := (-1)) hm dX3_readConstants_40 (by decide) ?_
      rcases mx_if_el hf with ⟨c13, hf⟩ | ⟨c13, hf⟩
      · refine sb_ic_ne hm dX3_readConstants_41 (tgt := 55) rfl (fun _ => ?_) (fun z => absurd c13 z)
        refine sx_ic (v := 1) hm dX3_readConstants_55 (by decide) ?_
        refine mx_S.pu (pc2 := 57) (lv2 := [(1, .int 1), (0, .ref l0)]) (st2 := []) hm dX3_readConstants_56 rfl ?_
        refine mx_S.ext [(0, .ref l0), (1, .int 1)] (mx_sub_pos [1, 0] rfl (show ([1, 0] : List Nat).Nodup by decide)) ?_
        exact w_X3_readConstants_57_ok X hF hL nn nn l0 1 h _ hf
      · refine sb_ic_ne hm dX3_readConstants_41 (tgt := 55) rfl (fun z => absurd z c13) (fun _ => ?_)
        refine mx_S.pu (pc2 := 45) (lv2 := [(0, .ref l0), (1, .int l1)]) (st2 := [.ref l0]) hm dX3_readConstants_44 rfl ?_
        refine mx_S.pu (pc2 := 46) (lv2 := [(0, .ref l0), (1, .int l1)]) (st2 := [.int l1, .ref l0]) hm dX3_readConstants_45 rfl ?_
        replace hf := mx_gd_el hf; obtain ⟨c10, hf⟩ := hf
        replace hf := mx_sv_el hf; obtain ⟨u11, e_u11, hf⟩ := hf
        refine sx_cv hm dX3_readConstants_46 rs_RX3_93 mt_X3_readConstant [.int l1] [] (b := l0) (ci := 3) rfl rfl rfl c10 (Nat.le_of_ble_eq_true rfl) (Nat.le_of_ble_eq_true rfl) (by omega) (by omega) (f_X3_readConstant_ok X (by omega) (by omega) nn l0 l1 h e_u11) ?_
        clear e_u11
        show mx_S X F L 99 49 [(0, .ref l0), (1, .int l1)] [] u11 0 0 (none, r, 0, 0)
        replace hf := xl_el hf; obtain ⟨v12, e_v12, hf⟩ := hf
        refine mx_S.pu (pc2 := 52) (lv2 := [(1, .int v12), (0, .ref l0)]) (st2 := []) hm dX3_readConstants_49 (by rw [← e_v12]; rfl) ?_
        clear e_v12
        refine mx_S.pu (pc2 := 28) (lv2 := [(1, .int v12), (0, .ref l0)]) (st2 := []) hm dX3_readConstants_52 rfl ?_
        refine mx_S.ext [(0, .ref l0), (1, .int v12)] (mx_sub_pos [1, 0] rfl (show ([1, 0] : List Nat).Nodup by decide)) ?_
        exact ih l0 v12 u11 _ hf
set_option maxHeartbeats 4000000 in
set_option maxRecDepth 20000 in
theorem f_X3_readConstants_ok (X : Nat × (Nat → Int32)) {F L : Nat} (hF : 4 ≤ F) (hL : 99 ≤ L) (nn : Nat) (a0 : Nat) (h : mx_H) {r : mx_H} (hf : f_X3_readConstants nn a0 h = some r) : mx_R X F L 99 [.ref a0] h (none, r, 0, 0) := by
  have hm : mx_mt 99 = some (yX3_readConstants, cX3_readConstants, 2, none) := mt_X3_readConstants
  show mx_S X F L 99 0 [(0, .ref a0)] [] h 0 0 (none, r, 0, 0)
  unfold f_X3_readConstants at hf
  refine mx_S.pu (pc2 := 1) (lv2 := [(0, .ref a0)]) (st2 := [.ref a0]) hm dX3_readConstants_0 rfl ?_
  refine sx_bi (v := 74) hm dX3_readConstants_1 (by decide) ?_
  refine sx_bi (v := 74) hm dX3_readConstants_3 (by decide) ?_
  replace hf := mx_gd_el hf; obtain ⟨c15, hf⟩ := hf
  replace hf := mx_sv_el hf; obtain ⟨u16, e_u16, hf⟩ := hf
  refine sx_cv hm dX3_readConstants_5 rs_RX3_71 mt_X3_nextUpTo [.int 74, .int 74] [] (b := a0) (ci := 3) rfl rfl rfl c15 (Nat.le_of_ble_eq_true rfl) (Nat.le_of_ble_eq_true rfl) (by omega) (by omega) (f_X3_nextUpTo_ok X (by omega) (by omega) nn a0 74 74 h e_u16) ?_
  clear e_u16
  show mx_S X F L 99 8 [(0, .ref a0)] [.int u16.1] u16.2 0 0 (none, r, 0, 0)
  refine mx_S.pu (pc2 := 9) (lv2 := [(0, .ref a0)]) (st2 := []) hm dX3_readConstants_8 rfl ?_
  refine mx_S.pu (pc2 := 10) (lv2 := [(0, .ref a0)]) (st2 := [.ref a0]) hm dX3_readConstants_9 rfl ?_
  refine sx_bi (v := 77) hm dX3_readConstants_10 (by decide) ?_
  refine sx_bi (v := 77) hm dX3_readConstants_12 (by decide) ?_
  replace hf := mx_gd_el hf; obtain ⟨c17, hf⟩ := hf
  replace hf := mx_sv_el hf; obtain ⟨u18, e_u18, hf⟩ := hf
  refine sx_cv hm dX3_readConstants_14 rs_RX3_71 mt_X3_nextUpTo [.int 77, .int 77] [] (b := a0) (ci := 3) rfl rfl rfl c17 (Nat.le_of_ble_eq_true rfl) (Nat.le_of_ble_eq_true rfl) (by omega) (by omega) (f_X3_nextUpTo_ok X (by omega) (by omega) nn a0 77 77 u16.2 e_u18) ?_
  clear e_u18
  show mx_S X F L 99 17 [(0, .ref a0)] [.int u18.1] u18.2 0 0 (none, r, 0, 0)
  refine mx_S.pu (pc2 := 18) (lv2 := [(0, .ref a0)]) (st2 := []) hm dX3_readConstants_17 rfl ?_
  refine mx_S.pu (pc2 := 19) (lv2 := [(0, .ref a0)]) (st2 := [.ref a0]) hm dX3_readConstants_18 rfl ?_
  refine mx_S.pu (pc2 := 20) (lv2 := [(0, .ref a0)]) (st2 := [.ref a0, .ref a0]) hm dX3_readConstants_19 rfl ?_
  replace hf := mx_gd_el hf; obtain ⟨c19, hf⟩ := hf
  replace hf := mx_sv_el hf; obtain ⟨u20, e_u20, hf⟩ := hf
  refine sx_cv hm dX3_readConstants_20 rs_RX3_87 mt_X3_next [] [.ref a0] (b := a0) (ci := 3) rfl rfl rfl c19 (Nat.le_of_ble_eq_true rfl) (Nat.le_of_ble_eq_true rfl) (by omega) (by omega) (f_X3_next_ok X (by omega) (by omega) nn a0 u18.2 e_u20) ?_
  clear e_u20
  show mx_S X F L 99 23 [(0, .ref a0)] [.int u20.1, .ref a0] u20.2 0 0 (none, r, 0, 0)
  replace hf := mx_sv_el hf; obtain ⟨h21, e_h21, hf⟩ := hf
  refine sx_put hm dX3_readConstants_23 rs_RX3_90 ft_3_7 ⟨rfl, rfl⟩ (fun z => by cases z) e_h21 ?_
  clear e_h21
  refine sx_ic (v := 1) hm dX3_readConstants_26 (by decide) ?_
  refine mx_S.pu (pc2 := 28) (lv2 := [(1, .int 1), (0, .ref a0)]) (st2 := []) hm dX3_readConstants_27 rfl ?_
  refine mx_S.ext [(0, .ref a0), (1, .int 1)] (mx_sub_pos [1, 0] rfl (show ([1, 0] : List Nat).Nodup by decide)) ?_
  exact w_X3_readConstants_28_ok X hF hL nn nn a0 1 h21 _ hf
set_option maxHeartbeats 4000000 in
set_option maxRecDepth 20000 in
theorem f_X3_nextName_ok (X : Nat × (Nat → Int32)) {F L : Nat} (hF : 2 ≤ F) (hL : 47 ≤ L) (nn : Nat) (a0 : Nat) (h : mx_H) {r : (Int32 × mx_H)} (hf : f_X3_nextName nn a0 h = some r) : mx_R X F L 119 [.ref a0] h (some (.int r.1), r.2, 0, 0) := by
  have hm : mx_mt 119 = some (yX3_nextName, cX3_nextName, 2, (some .int)) := mt_X3_nextName
  show mx_S X F L 119 0 [(0, .ref a0)] [] h 0 0 (some (.int r.1), r.2, 0, 0)
  unfold f_X3_nextName at hf
  refine mx_S.pu (pc2 := 1) (lv2 := [(0, .ref a0)]) (st2 := [.ref a0]) hm dX3_nextName_0 rfl ?_
  replace hf := mx_gd_el hf; obtain ⟨c1, hf⟩ := hf
  replace hf := mx_sv_el hf; obtain ⟨u2, e_u2, hf⟩ := hf
  refine sx_cv hm dX3_nextName_1 rs_RX3_87 mt_X3_next [] [] (b := a0) (ci := 3) rfl rfl rfl c1 (Nat.le_of_ble_eq_true rfl) (Nat.le_of_ble_eq_true rfl) (by omega) (by omega) (f_X3_next_ok X (by omega) (by omega) nn a0 h e_u2) ?_
  clear e_u2
  show mx_S X F L 119 4 [(0, .ref a0)] [.int u2.1] u2.2 0 0 (some (.int r.1), r.2, 0, 0)
  refine mx_S.pu (pc2 := 5) (lv2 := [(1, .int u2.1), (0, .ref a0)]) (st2 := []) hm dX3_nextName_4 rfl ?_
  refine mx_S.pu (pc2 := 6) (lv2 := [(1, .int u2.1), (0, .ref a0)]) (st2 := [.ref a0]) hm dX3_nextName_5 rfl ?_
  refine mx_S.pu (pc2 := 7) (lv2 := [(1, .int u2.1), (0, .ref a0)]) (st2 := [.int u2.1, .ref a0]) hm dX3_nextName_6 rfl ?_
  replace hf := mx_gd_el hf; obtain ⟨c3, hf⟩ := hf
  replace hf := mx_sv_el hf; obtain ⟨u4, e_u4, hf⟩ := hf
  refine sx_cv hm dX3_nextName_7 rs_RX3_102 mt_X3_isNameText [.int u2.1] [] (b := a0) (ci := 3) rfl rfl rfl c3 (Nat.le_of_ble_eq_true rfl) (Nat.le_of_ble_eq_true rfl) (by omega) (by omega) (f_X3_isNameText_ok X (by omega) (by omega) nn a0 u2.1 u2.2 e_u4) ?_
  clear e_u4
  show mx_S X F L 119 10 [(1, .int u2.1), (0, .ref a0)] [.int u4.1] u4.2 0 0 (some (.int r.1), r.2, 0, 0)
  rcases mx_if_el hf with ⟨c9, hf⟩ | ⟨c9, hf⟩
  · refine sb_if_ne hm dX3_nextName_10 (tgt := 23) rfl (fun _ => ?_) (fun z => absurd c9 z)
    refine mx_S.pu (pc2 := 24) (lv2 := [(1, .int u2.1), (0, .ref a0)]) (st2 := [.int u2.1]) hm dX3_nextName_23 rfl ?_
    cases hf
    exact sx_ire hm dX3_nextName_24 rfl rfl
  · refine sb_if_ne hm dX3_nextName_10 (tgt := 23) rfl (fun z => absurd z c9) (fun _ => ?_)
    refine mx_S.pu (pc2 := 14) (lv2 := [(1, .int u2.1), (0, .ref a0)]) (st2 := [.ref a0]) hm dX3_nextName_13 rfl ?_
    refine mx_S.pu (pc2 := 15) (lv2 := [(1, .int u2.1), (0, .ref a0)]) (st2 := [.ref a0, .ref a0]) hm dX3_nextName_14 rfl ?_
    replace hf := mx_sv_el hf; obtain ⟨v5, e_v5, hf⟩ := hf
    refine sx_get hm dX3_nextName_15 rs_RX3_43 (xgi_el e_v5) ?_
    clear e_v5
    refine sx_ic (v := 1) hm dX3_nextName_18 (by decide) ?_
    replace hf := xl_el hf; obtain ⟨v6, e_v6, hf⟩ := hf
    refine mx_S.pu (pc2 := 20) (lv2 := [(1, .int u2.1), (0, .ref a0)]) (st2 := [.int v6, .ref a0]) hm dX3_nextName_19 (by rw [← e_v6]; rfl) ?_
    clear e_v6
    replace hf := mx_gd_el hf; obtain ⟨c7, hf⟩ := hf
    replace hf := mx_sv_el hf; obtain ⟨u8, e_u8, hf⟩ := hf
    refine sx_cv hm dX3_nextName_20 rs_RX3_78 mt_X3_bad [.int v6] [] (b := a0) (ci := 3) rfl rfl rfl c7 (Nat.le_of_ble_eq_true rfl) (Nat.le_of_ble_eq_true rfl) (by omega) (by omega) (f_X3_bad_ok X (by omega) (by omega) nn a0 v6 u4.2 e_u8) ?_
    clear e_u8
    show mx_S X F L 119 23 [(1, .int u2.1), (0, .ref a0)] [] u8 0 0 (some (.int r.1), r.2, 0, 0)
    refine mx_S.pu (pc2 := 24) (lv2 := [(1, .int u2.1), (0, .ref a0)]) (st2 := [.int u2.1]) hm dX3_nextName_23 rfl ?_
    cases hf
    exact sx_ire hm dX3_nextName_24 rfl rfl
set_option maxHeartbeats 4000000 in
set_option maxRecDepth 20000 in
theorem j_X3_readFields_58_ok (X : Nat × (Nat → Int32)) {F L : Nat} (hF : 3 ≤ F) (hL : 72 ≤ L) (nn : Nat) {kk_10 : Nat → Int32 → Int32 → mx_H → Option mx_H} (hk_10 : ∀ (l0 : Nat) (l1 : Int32) (l2 : Int32) (h : mx_H) (r : mx_H), kk_10 l0 l1 l2 h = some r → mx_S X F L 120 10 [(0, .ref l0), (1, .int l1), (2, .int l2)] [] h 0 0 (none, r, 0, 0)) (l0 : Nat) (l1 : Int32) (l2 : Int32) (l3 : Int32) (h : mx_H) {r : mx_H} (hf : j_X3_readFields_58 nn kk_10 l0 l1 l2 l3 h = some r) : mx_S X F L 120 58 [(0, .ref l0), (1, .int l1), (2, .int l2), (3, .int l3)] [] h 0 0 (none, r, 0, 0) := by
  have hm : mx_mt 120 = some (yX3_readFields, cX3_readFields, 4, none) := mt_X3_readFields
  unfold j_X3_readFields_58 at hf
  refine mx_S.pu (pc2 := 59) (lv2 := [(0, .ref l0), (1, .int l1), (2, .int l2), (3, .int l3)]) (st2 := [.ref l0]) hm dX3_readFields_58 rfl ?_
  replace hf := mx_sv_el hf; obtain ⟨v1, e_v1, hf⟩ := hf
  refine sx_get hm dX3_readFields_59 rs_RX3_27 (xgr_el e_v1) ?_
  clear e_v1
  refine mx_S.pu (pc2 := 63) (lv2 := [(0, .ref l0), (1, .int l1), (2, .int l2), (3, .int l3)]) (st2 := [.int l2, .ref v1]) hm dX3_readFields_62 rfl ?_
  refine sx_ic (v := 2) hm dX3_readFields_63 (by decide) ?_
  replace hf := xl_el hf; obtain ⟨v2, e_v2, hf⟩ := hf
  refine mx_S.pu (pc2 := 65) (lv2 := [(0, .ref l0), (1, .int l1), (2, .int l2), (3, .int l3)]) (st2 := [.int v2, .ref v1]) hm dX3_readFields_64 (by rw [← e_v2]; rfl) ?_
  clear e_v2
  refine sx_ic (v := 1) hm dX3_readFields_65 (by decide) ?_
  replace hf := xl_el hf; obtain ⟨v3, e_v3, hf⟩ := hf
  refine mx_S.pu (pc2 := 67) (lv2 := [(0, .ref l0), (1, .int l1), (2, .int l2), (3, .int l3)]) (st2 := [.int v3, .ref v1]) hm dX3_readFields_66 (by rw [← e_v3]; rfl) ?_
  clear e_v3
  refine mx_S.pu (pc2 := 68) (lv2 := [(0, .ref l0), (1, .int l1), (2, .int l2), (3, .int l3)]) (st2 := [.int l3, .int v3, .ref v1]) hm dX3_readFields_67 rfl ?_
  replace hf := mx_sv_el hf; obtain ⟨h4, e_h4, hf⟩ := hf
  refine sx_ast hm dX3_readFields_68 e_h4 ?_
  clear e_h4
  refine mx_S.pu (pc2 := 70) (lv2 := [(0, .ref l0), (1, .int l1), (2, .int l2), (3, .int l3)]) (st2 := [.ref l0]) hm dX3_readFields_69 rfl ?_
  refine mx_S.pu (pc2 := 71) (lv2 := [(0, .ref l0), (1, .int l1), (2, .int l2), (3, .int l3)]) (st2 := [.ref l0, .ref l0]) hm dX3_readFields_70 rfl ?_
  replace hf := mx_sv_el hf; obtain ⟨v5, e_v5, hf⟩ := hf
  refine sx_get hm dX3_readFields_71 rs_RX3_49 (xgi_el e_v5) ?_
  clear e_v5
  refine sx_ic (v := 1) hm dX3_readFields_74 (by decide) ?_
  replace hf := xl_el hf; obtain ⟨v6, e_v6, hf⟩ := hf
  refine mx_S.pu (pc2 := 76) (lv2 := [(0, .ref l0), (1, .int l1), (2, .int l2), (3, .int l3)]) (st2 := [.int v6, .ref l0]) hm dX3_readFields_75 (by rw [← e_v6]; rfl) ?_
  clear e_v6
  replace hf := mx_sv_el hf; obtain ⟨h7, e_h7, hf⟩ := hf
  refine sx_put hm dX3_readFields_76 rs_RX3_49 ft_3_10 ⟨rfl, rfl⟩ (fun z => by cases z) e_h7 ?_
  clear e_h7
  replace hf := xl_el hf; obtain ⟨v8, e_v8, hf⟩ := hf
  refine mx_S.pu (pc2 := 82) (lv2 := [(2, .int v8), (0, .ref l0), (1, .int l1), (3, .int l3)]) (st2 := []) hm dX3_readFields_79 (by rw [← e_v8]; rfl) ?_
  clear e_v8
  refine mx_S.pu (pc2 := 10) (lv2 := [(2, .int v8), (0, .ref l0), (1, .int l1), (3, .int l3)]) (st2 := []) hm dX3_readFields_82 rfl ?_
  refine mx_S.ext [(0, .ref l0), (1, .int l1), (2, .int v8)] (mx_sub_pos [1, 2, 0] rfl (show ([2, 0, 1, 3] : List Nat).Nodup by decide)) ?_
  exact hk_10 l0 l1 v8 h7 _ hf
set_option maxHeartbeats 4000000 in
set_option maxRecDepth 20000 in
theorem w_X3_readFields_10_ok (X : Nat × (Nat → Int32)) {F L : Nat} (hF : 3 ≤ F) (hL : 72 ≤ L) (nn : Nat) : ∀ (k : Nat) (l0 : Nat) (l1 : Int32) (l2 : Int32) (h : mx_H) (r : mx_H), w_X3_readFields_10 nn k l0 l1 l2 h = some r → mx_S X F L 120 10 [(0, .ref l0), (1, .int l1), (2, .int l2)] [] h 0 0 (none, r, 0, 0) := by
  have hm : mx_mt 120 = some (yX3_readFields, cX3_readFields, 4, none) := mt_X3_readFields
  intro k
  induction k with
  | zero => intro l0 l1 l2 h r hf; cases hf
  | succ k ih =>
    intro l0 l1 l2 h r hf
    unfold w_X3_readFields_10 at hf
    refine mx_S.pu (pc2 := 11) (lv2 := [(0, .ref l0), (1, .int l1), (2, .int l2)]) (st2 := [.int l2]) hm dX3_readFields_10 rfl ?_
    refine mx_S.pu (pc2 := 12) (lv2 := [(0, .ref l0), (1, .int l1), (2, .int l2)]) (st2 := [.int l1, .int l2]) hm dX3_readFields_11 rfl ?_
    rcases mx_if_el hf with ⟨c25, hf⟩ | ⟨c25, hf⟩
    · refine sb_ic_ge hm dX3_readFields_12 (tgt := 85) rfl (fun _ => ?_) (fun z => absurd c25 z)
      cases hf
      exact sx_ret hm dX3_readFields_85 rfl
    · refine sb_ic_ge hm dX3_readFields_12 (tgt := 85) rfl (fun z => absurd z c25) (fun _ => ?_)
      refine mx_S.pu (pc2 := 16) (lv2 := [(0, .ref l0), (1, .int l1), (2, .int l2)]) (st2 := [.ref l0]) hm dX3_readFields_15 rfl ?_
      replace hf := mx_sv_el hf; obtain ⟨v9, e_v9, hf⟩ := hf
      refine sx_get hm dX3_readFields_16 rs_RX3_46 (xgi_el e_v9) ?_
      clear e_v9
      refine sx_ic (v := (-1)) hm dX3_readFields_19 (by decide) ?_
      rcases mx_if_el hf with ⟨c24, hf⟩ | ⟨c24, hf⟩
      · refine sb_ic_ne hm dX3_readFields_20 (tgt := 85) rfl (fun _ => ?_) (fun z => absurd c24 z)
        cases hf
        exact sx_ret hm dX3_readFields_85 rfl
      · refine sb_ic_ne hm dX3_readFields_20 (tgt := 85) rfl (fun z => absurd z c24) (fun _ => ?_)
        refine mx_S.pu (pc2 := 24) (lv2 := [(0, .ref l0), (1, .int l1), (2, .int l2)]) (st2 := [.ref l0]) hm dX3_readFields_23 rfl ?_
        replace hf := mx_sv_el hf; obtain ⟨v10, e_v10, hf⟩ := hf
        refine sx_get hm dX3_readFields_24 rs_RX3_27 (xgr_el e_v10) ?_
        clear e_v10
        refine mx_S.pu (pc2 := 28) (lv2 := [(0, .ref l0), (1, .int l1), (2, .int l2)]) (st2 := [.int l2, .ref v10]) hm dX3_readFields_27 rfl ?_
        refine sx_ic (v := 2) hm dX3_readFields_28 (by decide) ?_
        replace hf := xl_el hf; obtain ⟨v11, e_v11, hf⟩ := hf
        refine mx_S.pu (pc2 := 30) (lv2 := [(0, .ref l0), (1, .int l1), (2, .int l2)]) (st2 := [.int v11, .ref v10]) hm dX3_readFields_29 (by rw [← e_v11]; rfl) ?_
        clear e_v11
        refine mx_S.pu (pc2 := 31) (lv2 := [(0, .ref l0), (1, .int l1), (2, .int l2)]) (st2 := [.ref l0, .int v11, .ref v10]) hm dX3_readFields_30 rfl ?_
        replace hf := mx_gd_el hf; obtain ⟨c12, hf⟩ := hf
        replace hf := mx_sv_el hf; obtain ⟨u13, e_u13, hf⟩ := hf
        refine sx_cv hm dX3_readFields_31 rs_RX3_152 mt_X3_nextName [] [.int v11, .ref v10] (b := l0) (ci := 3) rfl rfl rfl c12 (Nat.le_of_ble_eq_true rfl) (Nat.le_of_ble_eq_true rfl) (by omega) (by omega) (f_X3_nextName_ok X (by omega) (by omega) nn l0 h e_u13) ?_
        clear e_u13
        show mx_S X F L 120 34 [(0, .ref l0), (1, .int l1), (2, .int l2)] [.int u13.1, .int v11, .ref v10] u13.2 0 0 (none, r, 0, 0)
        replace hf := mx_sv_el hf; obtain ⟨h14, e_h14, hf⟩ := hf
        refine sx_ast hm dX3_readFields_34 e_h14 ?_
        clear e_h14
        refine mx_S.pu (pc2 := 36) (lv2 := [(0, .ref l0), (1, .int l1), (2, .int l2)]) (st2 := [.ref l0]) hm dX3_readFields_35 rfl ?_
        replace hf := mx_gd_el hf; obtain ⟨c15, hf⟩ := hf
        replace hf := mx_sv_el hf; obtain ⟨u16, e_u16, hf⟩ := hf
        refine sx_cv hm dX3_readFields_36 rs_RX3_87 mt_X3_next [] [] (b := l0) (ci := 3) rfl rfl rfl c15 (Nat.le_of_ble_eq_true rfl) (Nat.le_of_ble_eq_true rfl) (by omega) (by omega) (f_X3_next_ok X (by omega) (by omega) nn l0 h14 e_u16) ?_
        clear e_u16
        show mx_S X F L 120 39 [(0, .ref l0), (1, .int l1), (2, .int l2)] [.int u16.1] u16.2 0 0 (none, r, 0, 0)
        refine mx_S.pu (pc2 := 40) (lv2 := [(3, .int u16.1), (0, .ref l0), (1, .int l1), (2, .int l2)]) (st2 := []) hm dX3_readFields_39 rfl ?_
        refine mx_S.pu (pc2 := 41) (lv2 := [(3, .int u16.1), (0, .ref l0), (1, .int l1), (2, .int l2)]) (st2 := [.ref l0]) hm dX3_readFields_40 rfl ?_
        refine mx_S.pu (pc2 := 42) (lv2 := [(3, .int u16.1), (0, .ref l0), (1, .int l1), (2, .int l2)]) (st2 := [.int u16.1, .ref l0]) hm dX3_readFields_41 rfl ?_
        replace hf := mx_gd_el hf; obtain ⟨c17, hf⟩ := hf
        replace hf := mx_sv_el hf; obtain ⟨u18, e_u18, hf⟩ := hf
        refine sx_cv hm dX3_readFields_42 rs_RX3_109 mt_X3_isFieldKind [.int u16.1] [] (b := l0) (ci := 3) rfl rfl rfl c17 (Nat.le_of_ble_eq_true rfl) (Nat.le_of_ble_eq_true rfl) (by omega) (by omega) (f_X3_isFieldKind_ok X (by omega) (by omega) nn l0 u16.1 u16.2 e_u18) ?_
        clear e_u18
        show mx_S X F L 120 45 [(3, .int u16.1), (0, .ref l0), (1, .int l1), (2, .int l2)] [.int u18.1] u18.2 0 0 (none, r, 0, 0)
        rcases mx_if_el hf with ⟨c23, hf⟩ | ⟨c23, hf⟩
        · refine sb_if_ne hm dX3_readFields_45 (tgt := 58) rfl (fun _ => ?_) (fun z => absurd c23 z)
          refine mx_S.ext [(0, .ref l0), (1, .int l1), (2, .int l2), (3, .int u16.1)] (mx_sub_pos [1, 2, 3, 0] rfl (show ([3, 0, 1, 2] : List Nat).Nodup by decide)) ?_
          exact j_X3_readFields_58_ok X hF hL nn ih l0 l1 l2 u16.1 u18.2 hf
        · refine sb_if_ne hm dX3_readFields_45 (tgt := 58) rfl (fun z => absurd z c23) (fun _ => ?_)
          refine mx_S.pu (pc2 := 49) (lv2 := [(3, .int u16.1), (0, .ref l0), (1, .int l1), (2, .int l2)]) (st2 := [.ref l0]) hm dX3_readFields_48 rfl ?_
          refine mx_S.pu (pc2 := 50) (lv2 := [(3, .int u16.1), (0, .ref l0), (1, .int l1), (2, .int l2)]) (st2 := [.ref l0, .ref l0]) hm dX3_readFields_49 rfl ?_
          replace hf := mx_sv_el hf; obtain ⟨v19, e_v19, hf⟩ := hf
          refine sx_get hm dX3_readFields_50 rs_RX3_43 (xgi_el e_v19) ?_
          clear e_v19
          refine sx_ic (v := 1) hm dX3_readFields_53 (by decide) ?_
          replace hf := xl_el hf; obtain ⟨v20, e_v20, hf⟩ := hf
          refine mx_S.pu (pc2 := 55) (lv2 := [(3, .int u16.1), (0, .ref l0), (1, .int l1), (2, .int l2)]) (st2 := [.int v20, .ref l0]) hm dX3_readFields_54 (by rw [← e_v20]; rfl) ?_
          clear e_v20
          replace hf := mx_gd_el hf; obtain ⟨c21, hf⟩ := hf
          replace hf := mx_sv_el hf; obtain ⟨u22, e_u22, hf⟩ := hf
          refine sx_cv hm dX3_readFields_55 rs_RX3_78 mt_X3_bad [.int v20] [] (b := l0) (ci := 3) rfl rfl rfl c21 (Nat.le_of_ble_eq_true rfl) (Nat.le_of_ble_eq_true rfl) (by omega) (by omega) (f_X3_bad_ok X (by omega) (by omega) nn l0 v20 u18.2 e_u22) ?_
          clear e_u22
          show mx_S X F L 120 58 [(3, .int u16.1), (0, .ref l0), (1, .int l1), (2, .int l2)] [] u22 0 0 (none, r, 0, 0)
          refine mx_S.ext [(0, .ref l0), (1, .int l1), (2, .int l2), (3, .int u16.1)] (mx_sub_pos [1, 2, 3, 0] rfl (show ([3, 0, 1, 2] : List Nat).Nodup by decide)) ?_
          exact j_X3_readFields_58_ok X hF hL nn ih l0 l1 l2 u16.1 u22 hf
set_option maxHeartbeats 4000000 in
set_option maxRecDepth 20000 in
theorem f_X3_readFields_ok (X : Nat × (Nat → Int32)) {F L : Nat} (hF : 3 ≤ F) (hL : 72 ≤ L) (nn : Nat) (a0 : Nat) (h : mx_H) {r : mx_H} (hf : f_X3_readFields nn a0 h = some r) : mx_R X F L 120 [.ref a0] h (none, r, 0, 0) := by
  have hm : mx_mt 120 = some (yX3_readFields, cX3_readFields, 4, none) := mt_X3_readFields
  show mx_S X F L 120 0 [(0, .ref a0)] [] h 0 0 (none, r, 0, 0)
  unfold f_X3_readFields at hf
  refine mx_S.pu (pc2 := 1) (lv2 := [(0, .ref a0)]) (st2 := [.ref a0]) hm dX3_readFields_0 rfl ?_
  refine sx_ic (v := 0) hm dX3_readFields_1 (by decide) ?_
  refine sx_bi (v := 12) hm dX3_readFields_2 (by decide) ?_
  replace hf := mx_gd_el hf; obtain ⟨c26, hf⟩ := hf
  replace hf := mx_sv_el hf; obtain ⟨u27, e_u27, hf⟩ := hf
  refine sx_cv hm dX3_readFields_4 rs_RX3_71 mt_X3_nextUpTo [.int 0, .int 12] [] (b := a0) (ci := 3) rfl rfl rfl c26 (Nat.le_of_ble_eq_true rfl) (Nat.le_of_ble_eq_true rfl) (by omega) (by omega) (f_X3_nextUpTo_ok X (by omega) (by omega) nn a0 0 12 h e_u27) ?_
  clear e_u27
  show mx_S X F L 120 7 [(0, .ref a0)] [.int u27.1] u27.2 0 0 (none, r, 0, 0)
  refine mx_S.pu (pc2 := 8) (lv2 := [(1, .int u27.1), (0, .ref a0)]) (st2 := []) hm dX3_readFields_7 rfl ?_
  refine sx_ic (v := 0) hm dX3_readFields_8 (by decide) ?_
  refine mx_S.pu (pc2 := 10) (lv2 := [(2, .int 0), (1, .int u27.1), (0, .ref a0)]) (st2 := []) hm dX3_readFields_9 rfl ?_
  refine mx_S.ext [(0, .ref a0), (1, .int u27.1), (2, .int 0)] (mx_sub_pos [2, 1, 0] rfl (show ([2, 1, 0] : List Nat).Nodup by decide)) ?_
  exact w_X3_readFields_10_ok X hF hL nn nn a0 u27.1 0 u27.2 _ hf
set_option maxHeartbeats 4000000 in
set_option maxRecDepth 20000 in
theorem j_X3_readCode_85_ok (X : Nat × (Nat → Int32)) {F L : Nat} (hF : 1 ≤ F) (hL : 60 ≤ L) (nn : Nat) (l0 : Nat) (l4 : Int32) (h : mx_H) {r : mx_H} (hf : j_X3_readCode_85 nn l0 l4 h = some r) : mx_S X F L 122 85 [(0, .ref l0), (4, .int l4)] [] h 0 0 (none, r, 0, 0) := by
  have hm : mx_mt 122 = some (yX3_readCode, cX3_readCode, 5, none) := mt_X3_readCode
  unfold j_X3_readCode_85 at hf
  refine mx_S.pu (pc2 := 86) (lv2 := [(0, .ref l0), (4, .int l4)]) (st2 := [.ref l0]) hm dX3_readCode_85 rfl ?_
  refine mx_S.pu (pc2 := 87) (lv2 := [(0, .ref l0), (4, .int l4)]) (st2 := [.ref l0, .ref l0]) hm dX3_readCode_86 rfl ?_
  replace hf := mx_sv_el hf; obtain ⟨v1, e_v1, hf⟩ := hf
  refine sx_get hm dX3_readCode_87 rs_RX3_43 (xgi_el e_v1) ?_
  clear e_v1
  refine mx_S.pu (pc2 := 92) (lv2 := [(0, .ref l0), (4, .int l4)]) (st2 := [.int l4, .int v1, .ref l0]) hm dX3_readCode_90 rfl ?_
  replace hf := xl_el hf; obtain ⟨v2, e_v2, hf⟩ := hf
  refine mx_S.pu (pc2 := 93) (lv2 := [(0, .ref l0), (4, .int l4)]) (st2 := [.int v2, .ref l0]) hm dX3_readCode_92 (by rw [← e_v2]; rfl) ?_
  clear e_v2
  refine mx_S.pu (pc2 := 94) (lv2 := [(0, .ref l0), (4, .int l4)]) (st2 := [.ref l0, .int v2, .ref l0]) hm dX3_readCode_93 rfl ?_
  replace hf := mx_sv_el hf; obtain ⟨v3, e_v3, hf⟩ := hf
  refine sx_get hm dX3_readCode_94 rs_RX3_39 (xgi_el e_v3) ?_
  clear e_v3
  replace hf := xl_el hf; obtain ⟨v4, e_v4, hf⟩ := hf
  refine sx_min hm dX3_readCode_97 rs_RX3_33 (by omega) (Nat.le_trans (Nat.le_of_ble_eq_true rfl : _ ≤ 60) (by omega)) ?_
  rw [e_v4]
  clear e_v4
  replace hf := mx_sv_el hf; obtain ⟨h5, e_h5, hf⟩ := hf
  refine sx_put hm dX3_readCode_100 rs_RX3_43 ft_3_2 ⟨rfl, rfl⟩ (fun z => by cases z) e_h5 ?_
  clear e_h5
  cases hf
  exact sx_ret hm dX3_readCode_103 rfl
set_option maxHeartbeats 4000000 in
set_option maxRecDepth 20000 in
theorem j_X3_readCode_40_ok (X : Nat × (Nat → Int32)) {F L : Nat} (hF : 1 ≤ F) (hL : 60 ≤ L) (nn : Nat) (l0 : Nat) (l1 : Int32) (l4 : Int32) (h : mx_H) {r : mx_H} (hf : j_X3_readCode_40 nn l0 l1 l4 h = some r) : mx_S X F L 122 40 [(0, .ref l0), (1, .int l1), (4, .int l4)] [] h 0 0 (none, r, 0, 0) := by
  have hm : mx_mt 122 = some (yX3_readCode, cX3_readCode, 5, none) := mt_X3_readCode
  unfold j_X3_readCode_40 at hf
  refine mx_S.pu (pc2 := 41) (lv2 := [(0, .ref l0), (1, .int l1), (4, .int l4)]) (st2 := [.ref l0]) hm dX3_readCode_40 rfl ?_
  replace hf := mx_sv_el hf; obtain ⟨v6, e_v6, hf⟩ := hf
  refine sx_get hm dX3_readCode_41 rs_RX3_30 (xgr_el e_v6) ?_
  clear e_v6
  refine mx_S.pu (pc2 := 45) (lv2 := [(0, .ref l0), (1, .int l1), (4, .int l4)]) (st2 := [.int l1, .ref v6]) hm dX3_readCode_44 rfl ?_
  refine sx_ic (v := 5) hm dX3_readCode_45 (by decide) ?_
  replace hf := xl_el hf; obtain ⟨v7, e_v7, hf⟩ := hf
  refine mx_S.pu (pc2 := 47) (lv2 := [(0, .ref l0), (1, .int l1), (4, .int l4)]) (st2 := [.int v7, .ref v6]) hm dX3_readCode_46 (by rw [← e_v7]; rfl) ?_
  clear e_v7
  refine mx_S.pu (pc2 := 49) (lv2 := [(0, .ref l0), (1, .int l1), (4, .int l4)]) (st2 := [.int l4, .int v7, .ref v6]) hm dX3_readCode_47 rfl ?_
  replace hf := mx_sv_el hf; obtain ⟨h8, e_h8, hf⟩ := hf
  refine sx_ast hm dX3_readCode_49 e_h8 ?_
  clear e_h8
  refine mx_S.pu (pc2 := 51) (lv2 := [(0, .ref l0), (1, .int l1), (4, .int l4)]) (st2 := [.ref l0]) hm dX3_readCode_50 rfl ?_
  replace hf := mx_sv_el hf; obtain ⟨v9, e_v9, hf⟩ := hf
  refine sx_get hm dX3_readCode_51 rs_RX3_30 (xgr_el e_v9) ?_
  clear e_v9
  refine mx_S.pu (pc2 := 55) (lv2 := [(0, .ref l0), (1, .int l1), (4, .int l4)]) (st2 := [.int l1, .ref v9]) hm dX3_readCode_54 rfl ?_
  refine sx_bi (v := 6) hm dX3_readCode_55 (by decide) ?_
  replace hf := xl_el hf; obtain ⟨v10, e_v10, hf⟩ := hf
  refine mx_S.pu (pc2 := 58) (lv2 := [(0, .ref l0), (1, .int l1), (4, .int l4)]) (st2 := [.int v10, .ref v9]) hm dX3_readCode_57 (by rw [← e_v10]; rfl) ?_
  clear e_v10
  refine mx_S.pu (pc2 := 59) (lv2 := [(0, .ref l0), (1, .int l1), (4, .int l4)]) (st2 := [.ref l0, .int v10, .ref v9]) hm dX3_readCode_58 rfl ?_
  replace hf := mx_sv_el hf; obtain ⟨v11, e_v11, hf⟩ := hf
  refine sx_get hm dX3_readCode_59 rs_RX3_43 (xgi_el e_v11) ?_
  clear e_v11
  replace hf := mx_sv_el hf; obtain ⟨h12, e_h12, hf⟩ := hf
  refine sx_ast hm dX3_readCode_62 e_h12 ?_
  clear e_h12
  refine mx_S.pu (pc2 := 64) (lv2 := [(0, .ref l0), (1, .int l1), (4, .int l4)]) (st2 := [.ref l0]) hm dX3_readCode_63 rfl ?_
  replace hf := mx_sv_el hf; obtain ⟨v13, e_v13, hf⟩ := hf
  refine sx_get hm dX3_readCode_64 rs_RX3_43 (xgi_el e_v13) ?_
  clear e_v13
  refine mx_S.pu (pc2 := 69) (lv2 := [(0, .ref l0), (1, .int l1), (4, .int l4)]) (st2 := [.int l4, .int v13]) hm dX3_readCode_67 rfl ?_
  replace hf := xl_el hf; obtain ⟨v14, e_v14, hf⟩ := hf
  refine mx_S.pu (pc2 := 70) (lv2 := [(0, .ref l0), (1, .int l1), (4, .int l4)]) (st2 := [.int v14]) hm dX3_readCode_69 (by rw [← e_v14]; rfl) ?_
  clear e_v14
  refine mx_S.pu (pc2 := 71) (lv2 := [(0, .ref l0), (1, .int l1), (4, .int l4)]) (st2 := [.ref l0, .int v14]) hm dX3_readCode_70 rfl ?_
  replace hf := mx_sv_el hf; obtain ⟨v15, e_v15, hf⟩ := hf
  refine sx_get hm dX3_readCode_71 rs_RX3_39 (xgi_el e_v15) ?_
  clear e_v15
  rcases mx_if_el hf with ⟨c19, hf⟩ | ⟨c19, hf⟩
  · refine sb_ic_le hm dX3_readCode_74 (tgt := 85) rfl (fun _ => ?_) (fun z => absurd c19 z)
    refine mx_S.ext [(0, .ref l0), (4, .int l4)] (mx_sub_pos [0, 2] rfl (show ([0, 1, 4] : List Nat).Nodup by decide)) ?_
    exact j_X3_readCode_85_ok X hF hL nn l0 l4 h12 hf
  · refine sb_ic_le hm dX3_readCode_74 (tgt := 85) rfl (fun z => absurd z c19) (fun _ => ?_)
    refine mx_S.pu (pc2 := 78) (lv2 := [(0, .ref l0), (1, .int l1), (4, .int l4)]) (st2 := [.ref l0]) hm dX3_readCode_77 rfl ?_
    refine mx_S.pu (pc2 := 79) (lv2 := [(0, .ref l0), (1, .int l1), (4, .int l4)]) (st2 := [.ref l0, .ref l0]) hm dX3_readCode_78 rfl ?_
    replace hf := mx_sv_el hf; obtain ⟨v16, e_v16, hf⟩ := hf
    refine sx_get hm dX3_readCode_79 rs_RX3_39 (xgi_el e_v16) ?_
    clear e_v16
    replace hf := mx_gd_el hf; obtain ⟨c17, hf⟩ := hf
    replace hf := mx_sv_el hf; obtain ⟨u18, e_u18, hf⟩ := hf
    refine sx_cv hm dX3_readCode_82 rs_RX3_78 mt_X3_bad [.int v16] [] (b := l0) (ci := 3) rfl rfl rfl c17 (Nat.le_of_ble_eq_true rfl) (Nat.le_of_ble_eq_true rfl) (by omega) (by omega) (f_X3_bad_ok X (by omega) (by omega) nn l0 v16 h12 e_u18) ?_
    clear e_u18
    show mx_S X F L 122 85 [(0, .ref l0), (1, .int l1), (4, .int l4)] [] u18 0 0 (none, r, 0, 0)
    refine mx_S.ext [(0, .ref l0), (4, .int l4)] (mx_sub_pos [0, 2] rfl (show ([0, 1, 4] : List Nat).Nodup by decide)) ?_
    exact j_X3_readCode_85_ok X hF hL nn l0 l4 u18 hf
set_option maxHeartbeats 4000000 in
set_option maxRecDepth 20000 in
theorem j_X3_readCode_35_ok (X : Nat × (Nat → Int32)) {F L : Nat} (hF : 1 ≤ F) (hL : 60 ≤ L) (nn : Nat) (l0 : Nat) (l1 : Int32) (l2 : Int32) (l4 : Int32) (h : mx_H) {r : mx_H} (hf : j_X3_readCode_35 nn l0 l1 l2 l4 h = some r) : mx_S X F L 122 35 [(0, .ref l0), (1, .int l1), (2, .int l2), (4, .int l4)] [] h 0 0 (none, r, 0, 0) := by
  have hm : mx_mt 122 = some (yX3_readCode, cX3_readCode, 5, none) := mt_X3_readCode
  unfold j_X3_readCode_35 at hf
  refine mx_S.pu (pc2 := 36) (lv2 := [(0, .ref l0), (1, .int l1), (2, .int l2), (4, .int l4)]) (st2 := [.ref l0]) hm dX3_readCode_35 rfl ?_
  refine mx_S.pu (pc2 := 37) (lv2 := [(0, .ref l0), (1, .int l1), (2, .int l2), (4, .int l4)]) (st2 := [.int l2, .ref l0]) hm dX3_readCode_36 rfl ?_
  replace hf := mx_gd_el hf; obtain ⟨c20, hf⟩ := hf
  replace hf := mx_sv_el hf; obtain ⟨u21, e_u21, hf⟩ := hf
  refine sx_cv hm dX3_readCode_37 rs_RX3_78 mt_X3_bad [.int l2] [] (b := l0) (ci := 3) rfl rfl rfl c20 (Nat.le_of_ble_eq_true rfl) (Nat.le_of_ble_eq_true rfl) (by omega) (by omega) (f_X3_bad_ok X (by omega) (by omega) nn l0 l2 h e_u21) ?_
  clear e_u21
  show mx_S X F L 122 40 [(0, .ref l0), (1, .int l1), (2, .int l2), (4, .int l4)] [] u21 0 0 (none, r, 0, 0)
  refine mx_S.ext [(0, .ref l0), (1, .int l1), (4, .int l4)] (mx_sub_pos [0, 1, 3] rfl (show ([0, 1, 2, 4] : List Nat).Nodup by decide)) ?_
  exact j_X3_readCode_40_ok X hF hL nn l0 l1 l4 u21 hf
set_option maxHeartbeats 4000000 in
set_option maxRecDepth 20000 in
theorem f_X3_readCode_ok (X : Nat × (Nat → Int32)) {F L : Nat} (hF : 1 ≤ F) (hL : 60 ≤ L) (nn : Nat) (a0 : Nat) (a1 : Int32) (h : mx_H) {r : mx_H} (hf : f_X3_readCode nn a0 a1 h = some r) : mx_R X F L 122 [.ref a0, .int a1] h (none, r, 0, 0) := by
  have hm : mx_mt 122 = some (yX3_readCode, cX3_readCode, 5, none) := mt_X3_readCode
  show mx_S X F L 122 0 [(0, .ref a0), (1, .int a1)] [] h 0 0 (none, r, 0, 0)
  unfold f_X3_readCode at hf
  refine mx_S.pu (pc2 := 1) (lv2 := [(0, .ref a0), (1, .int a1)]) (st2 := [.ref a0]) hm dX3_readCode_0 rfl ?_
  replace hf := mx_sv_el hf; obtain ⟨v22, e_v22, hf⟩ := hf
  refine sx_get hm dX3_readCode_1 rs_RX3_43 (xgi_el e_v22) ?_
  clear e_v22
  refine mx_S.pu (pc2 := 5) (lv2 := [(2, .int v22), (0, .ref a0), (1, .int a1)]) (st2 := []) hm dX3_readCode_4 rfl ?_
  refine mx_S.pu (pc2 := 6) (lv2 := [(2, .int v22), (0, .ref a0), (1, .int a1)]) (st2 := [.ref a0]) hm dX3_readCode_5 rfl ?_
  replace hf := mx_gd_el hf; obtain ⟨c23, hf⟩ := hf
  replace hf := mx_sv_el hf; obtain ⟨u24, e_u24, hf⟩ := hf
  refine sx_cv hm dX3_readCode_6 rs_RX3_87 mt_X3_next [] [] (b := a0) (ci := 3) rfl rfl rfl c23 (Nat.le_of_ble_eq_true rfl) (Nat.le_of_ble_eq_true rfl) (by omega) (by omega) (f_X3_next_ok X (by omega) (by omega) nn a0 h e_u24) ?_
  clear e_u24
  show mx_S X F L 122 9 [(2, .int v22), (0, .ref a0), (1, .int a1)] [.int u24.1] u24.2 0 0 (none, r, 0, 0)
  refine mx_S.pu (pc2 := 10) (lv2 := [(3, .int u24.1), (2, .int v22), (0, .ref a0), (1, .int a1)]) (st2 := []) hm dX3_readCode_9 rfl ?_
  refine mx_S.pu (pc2 := 11) (lv2 := [(3, .int u24.1), (2, .int v22), (0, .ref a0), (1, .int a1)]) (st2 := [.int u24.1]) hm dX3_readCode_10 rfl ?_
  refine sx_bi (v := 8) hm dX3_readCode_11 (by decide) ?_
  replace hf := xl_el hf; obtain ⟨v25, e_v25, hf⟩ := hf
  refine mx_S.pu (pc2 := 14) (lv2 := [(3, .int u24.1), (2, .int v22), (0, .ref a0), (1, .int a1)]) (st2 := [.int v25]) hm dX3_readCode_13 (by rw [← e_v25]; rfl) ?_
  clear e_v25
  refine mx_S.pu (pc2 := 15) (lv2 := [(3, .int u24.1), (2, .int v22), (0, .ref a0), (1, .int a1)]) (st2 := [.ref a0, .int v25]) hm dX3_readCode_14 rfl ?_
  replace hf := mx_gd_el hf; obtain ⟨c26, hf⟩ := hf
  replace hf := mx_sv_el hf; obtain ⟨u27, e_u27, hf⟩ := hf
  refine sx_cv hm dX3_readCode_15 rs_RX3_87 mt_X3_next [] [.int v25] (b := a0) (ci := 3) rfl rfl rfl c26 (Nat.le_of_ble_eq_true rfl) (Nat.le_of_ble_eq_true rfl) (by omega) (by omega) (f_X3_next_ok X (by omega) (by omega) nn a0 u24.2 e_u27) ?_
  clear e_u27
  show mx_S X F L 122 18 [(3, .int u24.1), (2, .int v22), (0, .ref a0), (1, .int a1)] [.int u27.1, .int v25] u27.2 0 0 (none, r, 0, 0)
  replace hf := xl_el hf; obtain ⟨v28, e_v28, hf⟩ := hf
  refine mx_S.pu (pc2 := 19) (lv2 := [(3, .int u24.1), (2, .int v22), (0, .ref a0), (1, .int a1)]) (st2 := [.int v28]) hm dX3_readCode_18 (by rw [← e_v28]; rfl) ?_
  clear e_v28
  refine mx_S.pu (pc2 := 21) (lv2 := [(4, .int v28), (3, .int u24.1), (2, .int v22), (0, .ref a0), (1, .int a1)]) (st2 := []) hm dX3_readCode_19 rfl ?_
  refine mx_S.pu (pc2 := 23) (lv2 := [(4, .int v28), (3, .int u24.1), (2, .int v22), (0, .ref a0), (1, .int a1)]) (st2 := [.int v28]) hm dX3_readCode_21 rfl ?_
  refine sx_ic (v := 1) hm dX3_readCode_23 (by decide) ?_
  rcases mx_if_el hf with ⟨c30, hf⟩ | ⟨c30, hf⟩
  · refine sb_ic_lt hm dX3_readCode_24 (tgt := 35) rfl (fun _ => ?_) (fun z => absurd c30 z)
    refine mx_S.ext [(0, .ref a0), (1, .int a1), (2, .int v22), (4, .int v28)] (mx_sub_pos [3, 4, 2, 0] rfl (show ([4, 3, 2, 0, 1] : List Nat).Nodup by decide)) ?_
    exact j_X3_readCode_35_ok X hF hL nn a0 a1 v22 v28 u27.2 hf
  · refine sb_ic_lt hm dX3_readCode_24 (tgt := 35) rfl (fun z => absurd z c30) (fun _ => ?_)
    refine mx_S.pu (pc2 := 29) (lv2 := [(4, .int v28), (3, .int u24.1), (2, .int v22), (0, .ref a0), (1, .int a1)]) (st2 := [.int v28]) hm dX3_readCode_27 rfl ?_
    refine sx_si (v := 1500) hm dX3_readCode_29 (by decide) ?_
    rcases mx_if_el hf with ⟨c29, hf⟩ | ⟨c29, hf⟩
    · refine sb_ic_le hm dX3_readCode_32 (tgt := 40) rfl (fun _ => ?_) (fun z => absurd c29 z)
      refine mx_S.ext [(0, .ref a0), (1, .int a1), (4, .int v28)] (mx_sub_pos [3, 4, 0] rfl (show ([4, 3, 2, 0, 1] : List Nat).Nodup by decide)) ?_
      exact j_X3_readCode_40_ok X hF hL nn a0 a1 v28 u27.2 hf
    · refine sb_ic_le hm dX3_readCode_32 (tgt := 40) rfl (fun z => absurd z c29) (fun _ => ?_)
      refine mx_S.ext [(0, .ref a0), (1, .int a1), (2, .int v22), (4, .int v28)] (mx_sub_pos [3, 4, 2, 0] rfl (show ([4, 3, 2, 0, 1] : List Nat).Nodup by decide)) ?_
      exact j_X3_readCode_35_ok X hF hL nn a0 a1 v22 v28 u27.2 hf
set_option maxHeartbeats 4000000 in
set_option maxRecDepth 20000 in
theorem f_X3_nextClass_ok (X : Nat × (Nat → Int32)) {F L : Nat} (hF : 1 ≤ F) (hL : 21 ≤ L) (nn : Nat) (a0 : Nat) (h : mx_H) {r : mx_H} (hf : f_X3_nextClass nn a0 h = some r) : mx_R X F L 117 [.ref a0] h (none, r, 0, 0) := by
  have hm : mx_mt 117 = some (yX3_nextClass, cX3_nextClass, 1, none) := mt_X3_nextClass
  show mx_S X F L 117 0 [(0, .ref a0)] [] h 0 0 (none, r, 0, 0)
  unfold f_X3_nextClass at hf
  refine mx_S.pu (pc2 := 1) (lv2 := [(0, .ref a0)]) (st2 := [.ref a0]) hm dX3_nextClass_0 rfl ?_
  refine mx_S.pu (pc2 := 2) (lv2 := [(0, .ref a0)]) (st2 := [.ref a0, .ref a0]) hm dX3_nextClass_1 rfl ?_
  replace hf := mx_gd_el hf; obtain ⟨c1, hf⟩ := hf
  replace hf := mx_sv_el hf; obtain ⟨u2, e_u2, hf⟩ := hf
  refine sx_cv hm dX3_nextClass_2 rs_RX3_87 mt_X3_next [] [.ref a0] (b := a0) (ci := 3) rfl rfl rfl c1 (Nat.le_of_ble_eq_true rfl) (Nat.le_of_ble_eq_true rfl) (by omega) (by omega) (f_X3_next_ok X (by omega) (by omega) nn a0 h e_u2) ?_
  clear e_u2
  show mx_S X F L 117 5 [(0, .ref a0)] [.int u2.1, .ref a0] u2.2 0 0 (none, r, 0, 0)
  replace hf := mx_gd_el hf; obtain ⟨c3, hf⟩ := hf
  replace hf := mx_sv_el hf; obtain ⟨u4, e_u4, hf⟩ := hf
  refine sx_cv hm dX3_nextClass_5 rs_RX3_112 mt_X3_tagOf [.int u2.1] [] (b := a0) (ci := 3) rfl rfl rfl c3 (Nat.le_of_ble_eq_true rfl) (Nat.le_of_ble_eq_true rfl) (by omega) (by omega) (f_X3_tagOf_ok X (by omega) (by omega) nn a0 u2.1 u2.2 e_u4) ?_
  clear e_u4
  show mx_S X F L 117 8 [(0, .ref a0)] [.int u4.1] u4.2 0 0 (none, r, 0, 0)
  refine sx_ic (v := 3) hm dX3_nextClass_8 (by decide) ?_
  rcases mx_if_el hf with ⟨c9, hf⟩ | ⟨c9, hf⟩
  · refine sb_ic_eq hm dX3_nextClass_9 (tgt := 22) rfl (fun _ => ?_) (fun z => absurd c9 z)
    cases hf
    exact sx_ret hm dX3_nextClass_22 rfl
  · refine sb_ic_eq hm dX3_nextClass_9 (tgt := 22) rfl (fun z => absurd z c9) (fun _ => ?_)
    refine mx_S.pu (pc2 := 13) (lv2 := [(0, .ref a0)]) (st2 := [.ref a0]) hm dX3_nextClass_12 rfl ?_
    refine mx_S.pu (pc2 := 14) (lv2 := [(0, .ref a0)]) (st2 := [.ref a0, .ref a0]) hm dX3_nextClass_13 rfl ?_
    replace hf := mx_sv_el hf; obtain ⟨v5, e_v5, hf⟩ := hf
    refine sx_get hm dX3_nextClass_14 rs_RX3_43 (xgi_el e_v5) ?_
    clear e_v5
    refine sx_ic (v := 1) hm dX3_nextClass_17 (by decide) ?_
    replace hf := xl_el hf; obtain ⟨v6, e_v6, hf⟩ := hf
    refine mx_S.pu (pc2 := 19) (lv2 := [(0, .ref a0)]) (st2 := [.int v6, .ref a0]) hm dX3_nextClass_18 (by rw [← e_v6]; rfl) ?_
    clear e_v6
    replace hf := mx_gd_el hf; obtain ⟨c7, hf⟩ := hf
    replace hf := mx_sv_el hf; obtain ⟨u8, e_u8, hf⟩ := hf
    refine sx_cv hm dX3_nextClass_19 rs_RX3_78 mt_X3_bad [.int v6] [] (b := a0) (ci := 3) rfl rfl rfl c7 (Nat.le_of_ble_eq_true rfl) (Nat.le_of_ble_eq_true rfl) (by omega) (by omega) (f_X3_bad_ok X (by omega) (by omega) nn a0 v6 u4.2 e_u8) ?_
    clear e_u8
    show mx_S X F L 117 22 [(0, .ref a0)] [] u8 0 0 (none, r, 0, 0)
    cases hf
    exact sx_ret hm dX3_nextClass_22 rfl
set_option maxHeartbeats 4000000 in
set_option maxRecDepth 20000 in
theorem w_X3_readFrameTypes_7_ok (X : Nat × (Nat → Int32)) {F L : Nat} (hF : 2 ≤ F) (hL : 44 ≤ L) (nn : Nat) : ∀ (k : Nat) (l0 : Nat) (l1 : Int32) (l2 : Int32) (h : mx_H) (r : mx_H), w_X3_readFrameTypes_7 nn k l0 l1 l2 h = some r → mx_S X F L 125 7 [(0, .ref l0), (1, .int l1), (2, .int l2)] [] h 0 0 (none, r, 0, 0) := by
  have hm : mx_mt 125 = some (yX3_readFrameTypes, cX3_readFrameTypes, 3, none) := mt_X3_readFrameTypes
  intro k
  induction k with
  | zero => intro l0 l1 l2 h r hf; cases hf
  | succ k ih =>
    intro l0 l1 l2 h r hf
    unfold w_X3_readFrameTypes_7 at hf
    refine mx_S.pu (pc2 := 8) (lv2 := [(0, .ref l0), (1, .int l1), (2, .int l2)]) (st2 := [.int l2]) hm dX3_readFrameTypes_7 rfl ?_
    refine mx_S.pu (pc2 := 9) (lv2 := [(0, .ref l0), (1, .int l1), (2, .int l2)]) (st2 := [.int l1, .int l2]) hm dX3_readFrameTypes_8 rfl ?_
    rcases mx_if_el hf with ⟨c10, hf⟩ | ⟨c10, hf⟩
    · refine sb_ic_ge hm dX3_readFrameTypes_9 (tgt := 40) rfl (fun _ => ?_) (fun z => absurd c10 z)
      cases hf
      exact sx_ret hm dX3_readFrameTypes_40 rfl
    · refine sb_ic_ge hm dX3_readFrameTypes_9 (tgt := 40) rfl (fun z => absurd z c10) (fun _ => ?_)
      refine mx_S.pu (pc2 := 13) (lv2 := [(0, .ref l0), (1, .int l1), (2, .int l2)]) (st2 := [.ref l0]) hm dX3_readFrameTypes_12 rfl ?_
      replace hf := mx_sv_el hf; obtain ⟨v1, e_v1, hf⟩ := hf
      refine sx_get hm dX3_readFrameTypes_13 rs_RX3_46 (xgi_el e_v1) ?_
      clear e_v1
      refine sx_ic (v := (-1)) hm dX3_readFrameTypes_16 (by decide) ?_
      rcases mx_if_el hf with ⟨c9, hf⟩ | ⟨c9, hf⟩
      · refine sb_ic_ne hm dX3_readFrameTypes_17 (tgt := 40) rfl (fun _ => ?_) (fun z => absurd c9 z)
        cases hf
        exact sx_ret hm dX3_readFrameTypes_40 rfl
      · refine sb_ic_ne hm dX3_readFrameTypes_17 (tgt := 40) rfl (fun z => absurd z c9) (fun _ => ?_)
        refine mx_S.pu (pc2 := 21) (lv2 := [(0, .ref l0), (1, .int l1), (2, .int l2)]) (st2 := [.ref l0]) hm dX3_readFrameTypes_20 rfl ?_
        refine sx_ic (v := 0) hm dX3_readFrameTypes_21 (by decide) ?_
        refine sx_ic (v := 3) hm dX3_readFrameTypes_22 (by decide) ?_
        replace hf := mx_gd_el hf; obtain ⟨c2, hf⟩ := hf
        replace hf := mx_sv_el hf; obtain ⟨u3, e_u3, hf⟩ := hf
        refine sx_cv hm dX3_readFrameTypes_23 rs_RX3_71 mt_X3_nextUpTo [.int 0, .int 3] [] (b := l0) (ci := 3) rfl rfl rfl c2 (Nat.le_of_ble_eq_true rfl) (Nat.le_of_ble_eq_true rfl) (by omega) (by omega) (f_X3_nextUpTo_ok X (by omega) (by omega) nn l0 0 3 h e_u3) ?_
        clear e_u3
        show mx_S X F L 125 26 [(0, .ref l0), (1, .int l1), (2, .int l2)] [.int u3.1] u3.2 0 0 (none, r, 0, 0)
        refine sx_ic (v := 3) hm dX3_readFrameTypes_26 (by decide) ?_
        rcases mx_if_el hf with ⟨c8, hf⟩ | ⟨c8, hf⟩
        · refine sb_ic_ne hm dX3_readFrameTypes_27 (tgt := 34) rfl (fun _ => ?_) (fun z => absurd c8 z)
          replace hf := xl_el hf; obtain ⟨v4, e_v4, hf⟩ := hf
          refine mx_S.pu (pc2 := 37) (lv2 := [(2, .int v4), (0, .ref l0), (1, .int l1)]) (st2 := []) hm dX3_readFrameTypes_34 (by rw [← e_v4]; rfl) ?_
          clear e_v4
          refine mx_S.pu (pc2 := 7) (lv2 := [(2, .int v4), (0, .ref l0), (1, .int l1)]) (st2 := []) hm dX3_readFrameTypes_37 rfl ?_
          refine mx_S.ext [(0, .ref l0), (1, .int l1), (2, .int v4)] (mx_sub_pos [1, 2, 0] rfl (show ([2, 0, 1] : List Nat).Nodup by decide)) ?_
          exact ih l0 l1 v4 u3.2 _ hf
        · refine sb_ic_ne hm dX3_readFrameTypes_27 (tgt := 34) rfl (fun z => absurd z c8) (fun _ => ?_)
          refine mx_S.pu (pc2 := 31) (lv2 := [(0, .ref l0), (1, .int l1), (2, .int l2)]) (st2 := [.ref l0]) hm dX3_readFrameTypes_30 rfl ?_
          replace hf := mx_gd_el hf; obtain ⟨c5, hf⟩ := hf
          replace hf := mx_sv_el hf; obtain ⟨u6, e_u6, hf⟩ := hf
          refine sx_cv hm dX3_readFrameTypes_31 rs_RX3_167 mt_X3_nextClass [] [] (b := l0) (ci := 3) rfl rfl rfl c5 (Nat.le_of_ble_eq_true rfl) (Nat.le_of_ble_eq_true rfl) (by omega) (by omega) (f_X3_nextClass_ok X (by omega) (by omega) nn l0 u3.2 e_u6) ?_
          clear e_u6
          show mx_S X F L 125 34 [(0, .ref l0), (1, .int l1), (2, .int l2)] [] u6 0 0 (none, r, 0, 0)
          replace hf := xl_el hf; obtain ⟨v7, e_v7, hf⟩ := hf
          refine mx_S.pu (pc2 := 37) (lv2 := [(2, .int v7), (0, .ref l0), (1, .int l1)]) (st2 := []) hm dX3_readFrameTypes_34 (by rw [← e_v7]; rfl) ?_
          clear e_v7
          refine mx_S.pu (pc2 := 7) (lv2 := [(2, .int v7), (0, .ref l0), (1, .int l1)]) (st2 := []) hm dX3_readFrameTypes_37 rfl ?_
          refine mx_S.ext [(0, .ref l0), (1, .int l1), (2, .int v7)] (mx_sub_pos [1, 2, 0] rfl (show ([2, 0, 1] : List Nat).Nodup by decide)) ?_
          exact ih l0 l1 v7 u6 _ hf
set_option maxHeartbeats 4000000 in
set_option maxRecDepth 20000 in
theorem f_X3_readFrameTypes_ok (X : Nat × (Nat → Int32)) {F L : Nat} (hF : 2 ≤ F) (hL : 44 ≤ L) (nn : Nat) (a0 : Nat) (h : mx_H) {r : mx_H} (hf : f_X3_readFrameTypes nn a0 h = some r) : mx_R X F L 125 [.ref a0] h (none, r, 0, 0) := by
  have hm : mx_mt 125 = some (yX3_readFrameTypes, cX3_readFrameTypes, 3, none) := mt_X3_readFrameTypes
  show mx_S X F L 125 0 [(0, .ref a0)] [] h 0 0 (none, r, 0, 0)
  unfold f_X3_readFrameTypes at hf
  refine mx_S.pu (pc2 := 1) (lv2 := [(0, .ref a0)]) (st2 := [.ref a0]) hm dX3_readFrameTypes_0 rfl ?_
  replace hf := mx_gd_el hf; obtain ⟨c11, hf⟩ := hf
  replace hf := mx_sv_el hf; obtain ⟨u12, e_u12, hf⟩ := hf
  refine sx_cv hm dX3_readFrameTypes_1 rs_RX3_87 mt_X3_next [] [] (b := a0) (ci := 3) rfl rfl rfl c11 (Nat.le_of_ble_eq_true rfl) (Nat.le_of_ble_eq_true rfl) (by omega) (by omega) (f_X3_next_ok X (by omega) (by omega) nn a0 h e_u12) ?_
  clear e_u12
  show mx_S X F L 125 4 [(0, .ref a0)] [.int u12.1] u12.2 0 0 (none, r, 0, 0)
  refine mx_S.pu (pc2 := 5) (lv2 := [(1, .int u12.1), (0, .ref a0)]) (st2 := []) hm dX3_readFrameTypes_4 rfl ?_
  refine sx_ic (v := 0) hm dX3_readFrameTypes_5 (by decide) ?_
  refine mx_S.pu (pc2 := 7) (lv2 := [(2, .int 0), (1, .int u12.1), (0, .ref a0)]) (st2 := []) hm dX3_readFrameTypes_6 rfl ?_
  refine mx_S.ext [(0, .ref a0), (1, .int u12.1), (2, .int 0)] (mx_sub_pos [2, 1, 0] rfl (show ([2, 1, 0] : List Nat).Nodup by decide)) ?_
  exact w_X3_readFrameTypes_7_ok X hF hL nn nn a0 u12.1 0 u12.2 _ hf
set_option maxHeartbeats 4000000 in
set_option maxRecDepth 20000 in
theorem w_X3_skipPairs_2_ok (X : Nat × (Nat → Int32)) {F L : Nat} (hF : 1 ≤ F) (hL : 20 ≤ L) (nn : Nat) : ∀ (k : Nat) (l0 : Nat) (l1 : Int32) (l2 : Int32) (h : mx_H) (r : mx_H), w_X3_skipPairs_2 nn k l0 l1 l2 h = some r → mx_S X F L 98 2 [(0, .ref l0), (1, .int l1), (2, .int l2)] [] h 0 0 (none, r, 0, 0) := by
  have hm : mx_mt 98 = some (yX3_skipPairs, cX3_skipPairs, 3, none) := mt_X3_skipPairs
  intro k
  induction k with
  | zero => intro l0 l1 l2 h r hf; cases hf
  | succ k ih =>
    intro l0 l1 l2 h r hf
    unfold w_X3_skipPairs_2 at hf
    refine mx_S.pu (pc2 := 3) (lv2 := [(0, .ref l0), (1, .int l1), (2, .int l2)]) (st2 := [.int l2]) hm dX3_skipPairs_2 rfl ?_
    refine mx_S.pu (pc2 := 4) (lv2 := [(0, .ref l0), (1, .int l1), (2, .int l2)]) (st2 := [.int l1, .int l2]) hm dX3_skipPairs_3 rfl ?_
    refine sx_ic (v := 2) hm dX3_skipPairs_4 (by decide) ?_
    replace hf := xl_el hf; obtain ⟨v1, e_v1, hf⟩ := hf
    refine mx_S.pu (pc2 := 6) (lv2 := [(0, .ref l0), (1, .int l1), (2, .int l2)]) (st2 := [.int v1, .int l2]) hm dX3_skipPairs_5 (by rw [← e_v1]; rfl) ?_
    clear e_v1
    rcases mx_if_el hf with ⟨c5, hf⟩ | ⟨c5, hf⟩
    · refine sb_ic_ge hm dX3_skipPairs_6 (tgt := 20) rfl (fun _ => ?_) (fun z => absurd c5 z)
      cases hf
      exact sx_ret hm dX3_skipPairs_20 rfl
    · refine sb_ic_ge hm dX3_skipPairs_6 (tgt := 20) rfl (fun z => absurd z c5) (fun _ => ?_)
      refine mx_S.pu (pc2 := 10) (lv2 := [(0, .ref l0), (1, .int l1), (2, .int l2)]) (st2 := [.ref l0]) hm dX3_skipPairs_9 rfl ?_
      replace hf := mx_gd_el hf; obtain ⟨c2, hf⟩ := hf
      replace hf := mx_sv_el hf; obtain ⟨u3, e_u3, hf⟩ := hf
      refine sx_cv hm dX3_skipPairs_10 rs_RX3_87 mt_X3_next [] [] (b := l0) (ci := 3) rfl rfl rfl c2 (Nat.le_of_ble_eq_true rfl) (Nat.le_of_ble_eq_true rfl) (by omega) (by omega) (f_X3_next_ok X (by omega) (by omega) nn l0 h e_u3) ?_
      clear e_u3
      show mx_S X F L 98 13 [(0, .ref l0), (1, .int l1), (2, .int l2)] [.int u3.1] u3.2 0 0 (none, r, 0, 0)
      refine mx_S.pu (pc2 := 14) (lv2 := [(0, .ref l0), (1, .int l1), (2, .int l2)]) (st2 := []) hm dX3_skipPairs_13 rfl ?_
      replace hf := xl_el hf; obtain ⟨v4, e_v4, hf⟩ := hf
      refine mx_S.pu (pc2 := 17) (lv2 := [(2, .int v4), (0, .ref l0), (1, .int l1)]) (st2 := []) hm dX3_skipPairs_14 (by rw [← e_v4]; rfl) ?_
      clear e_v4
      refine mx_S.pu (pc2 := 2) (lv2 := [(2, .int v4), (0, .ref l0), (1, .int l1)]) (st2 := []) hm dX3_skipPairs_17 rfl ?_
      refine mx_S.ext [(0, .ref l0), (1, .int l1), (2, .int v4)] (mx_sub_pos [1, 2, 0] rfl (show ([2, 0, 1] : List Nat).Nodup by decide)) ?_
      exact ih l0 l1 v4 u3.2 _ hf
set_option maxHeartbeats 4000000 in
set_option maxRecDepth 20000 in
theorem f_X3_skipPairs_ok (X : Nat × (Nat → Int32)) {F L : Nat} (hF : 1 ≤ F) (hL : 20 ≤ L) (nn : Nat) (a0 : Nat) (a1 : Int32) (h : mx_H) {r : mx_H} (hf : f_X3_skipPairs nn a0 a1 h = some r) : mx_R X F L 98 [.ref a0, .int a1] h (none, r, 0, 0) := by
  have hm : mx_mt 98 = some (yX3_skipPairs, cX3_skipPairs, 3, none) := mt_X3_skipPairs
  show mx_S X F L 98 0 [(0, .ref a0), (1, .int a1)] [] h 0 0 (none, r, 0, 0)
  unfold f_X3_skipPairs at hf
  refine sx_ic (v := 0) hm dX3_skipPairs_0 (by decide) ?_
  refine mx_S.pu (pc2 := 2) (lv2 := [(2, .int 0), (0, .ref a0), (1, .int a1)]) (st2 := []) hm dX3_skipPairs_1 rfl ?_
  refine mx_S.ext [(0, .ref a0), (1, .int a1), (2, .int 0)] (mx_sub_pos [1, 2, 0] rfl (show ([2, 0, 1] : List Nat).Nodup by decide)) ?_
  exact w_X3_skipPairs_2_ok X hF hL nn nn a0 a1 0 h _ hf

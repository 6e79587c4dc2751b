set_option maxHeartbeats 4000000 in
set_option maxRecDepth 20000 in
theorem j_L_law_470_ok (X : Nat × (Nat → Int32)) {F L : Nat} (hF : 1810 ≤ F) (hL : 48830 ≤ L) (nn : Nat) (h : mx_H) (c : Nat) (s : Nat) {r : (Int32 × mx_H × Nat × Nat)} (hf : j_L_law_470 X nn h c s = some r) : mx_S X F L 0 470 [] [] h c s (some (.int r.1), r.2.1, r.2.2.1, r.2.2.2) := by
  have hm : mx_mt 0 = some (yL_law, cL_law, 4, (some .boolean)) := mt_L_law
  unfold j_L_law_470 at hf
  refine sx_ic (v := 0) hm dL_law_470 (by decide) ?_
  cases hf
  exact sx_ire hm dL_law_471 rfl (by decide)
set_option maxHeartbeats 4000000 in
set_option maxRecDepth 20000 in
theorem j_L_law_344_ok (X : Nat × (Nat → Int32)) {F L : Nat} (hF : 1810 ≤ F) (hL : 48830 ≤ L) (nn : Nat) (h : mx_H) (c : Nat) (s : Nat) {r : (Int32 × mx_H × Nat × Nat)} (hf : j_L_law_344 X nn h c s = some r) : mx_S X F L 0 344 [] [] h c s (some (.int r.1), r.2.1, r.2.2.1, r.2.2.2) := by
  have hm : mx_mt 0 = some (yL_law, cL_law, 4, (some .boolean)) := mt_L_law
  unfold j_L_law_344 at hf
  refine sx_ic (v := 0) hm dL_law_344 (by decide) ?_
  cases hf
  exact sx_ire hm dL_law_345 rfl (by decide)
set_option maxHeartbeats 4000000 in
set_option maxRecDepth 20000 in
theorem j_L_law_196_ok (X : Nat × (Nat → Int32)) {F L : Nat} (hF : 1810 ≤ F) (hL : 48830 ≤ L) (nn : Nat) (h : mx_H) (c : Nat) (s : Nat) {r : (Int32 × mx_H × Nat × Nat)} (hf : j_L_law_196 X nn h c s = some r) : mx_S X F L 0 196 [] [] h c s (some (.int r.1), r.2.1, r.2.2.1, r.2.2.2) := by
  have hm : mx_mt 0 = some (yL_law, cL_law, 4, (some .boolean)) := mt_L_law
  unfold j_L_law_196 at hf
  refine sx_ic (v := 0) hm dL_law_196 (by decide) ?_
  cases hf
  exact sx_ire hm dL_law_197 rfl (by decide)
set_option maxHeartbeats 4000000 in
set_option maxRecDepth 20000 in
theorem w_L_law_18_ok (X : Nat × (Nat → Int32)) {F L : Nat} (hF : 1810 ≤ F) (hL : 48830 ≤ L) (nn : Nat) : ∀ (k : Nat) (l1 : Nat) (l2 : Nat) (l3 : Int32) (h : mx_H) (c : Nat) (s : Nat) (r : (Int32 × mx_H × Nat × Nat)), w_L_law_18 X nn k l1 l2 l3 h c s = some r → mx_S X F L 0 18 [(0, .ref 2000000000), (1, .ref l1), (2, .ref l2), (3, .int l3)] [] h c s (some (.int r.1), r.2.1, r.2.2.1, r.2.2.2) := by
  have hm : mx_mt 0 = some (yL_law, cL_law, 4, (some .boolean)) := mt_L_law
  intro k
  induction k with
  | zero => intro l1 l2 l3 h c s r hf; cases hf
  | succ k ih =>
    intro l1 l2 l3 h c s r hf
    unfold w_L_law_18 at hf
    refine mx_S.pu (pc2 := 19) (lv2 := [(0, .ref 2000000000), (1, .ref l1), (2, .ref l2), (3, .int l3)]) (st2 := [.int l3]) hm dL_law_18 rfl ?_
    refine mx_S.pu (pc2 := 20) (lv2 := [(0, .ref 2000000000), (1, .ref l1), (2, .ref l2), (3, .int l3)]) (st2 := [.ref 2000000000, .int l3]) hm dL_law_19 rfl ?_
    replace hf := mx_gd_el hf; obtain ⟨c1, hf⟩ := hf
    refine sx_sl hm dL_law_20 (xno_el c1) ?_
    refine sx_bi (v := 6) hm dL_law_21 (by decide) ?_
    replace hf := xl_el hf; obtain ⟨v2, e_v2, hf⟩ := hf
    refine mx_S.pu (pc2 := 24) (lv2 := [(0, .ref 2000000000), (1, .ref l1), (2, .ref l2), (3, .int l3)]) (st2 := [.int v2, .int l3]) hm dL_law_23 (by rw [← e_v2]; rfl) ?_
    clear e_v2
    rcases mx_if_el hf with ⟨c228, hf⟩ | ⟨c228, hf⟩
    · refine sb_ic_gt hm dL_law_24 (tgt := 534) rfl (fun _ => ?_) (fun z => absurd c228 z)
      refine sx_ic (v := 1) hm dL_law_534 (by decide) ?_
      cases hf
      exact sx_ire hm dL_law_535 rfl (by decide)
    · refine sb_ic_gt hm dL_law_24 (tgt := 534) rfl (fun z => absurd z c228) (fun _ => ?_)
      refine mx_S.pu (pc2 := 28) (lv2 := [(0, .ref 2000000000), (1, .ref l1), (2, .ref l2), (3, .int l3)]) (st2 := [.ref 2000000000]) hm dL_law_27 rfl ?_
      refine mx_S.pu (pc2 := 29) (lv2 := [(0, .ref 2000000000), (1, .ref l1), (2, .ref l2), (3, .int l3)]) (st2 := [.int l3, .ref 2000000000]) hm dL_law_28 rfl ?_
      replace hf := mx_gd_el hf; obtain ⟨c3, hf⟩ := hf
      replace hf := mx_sv_el hf; obtain ⟨v4, e_v4, hf⟩ := hf
      refine sx_sc hm dL_law_29 (xno_el c3) e_v4 ?_
      clear e_v4
      refine sx_bi (v := 15) hm dL_law_30 (by decide) ?_
      replace hf := xl_el hf; obtain ⟨v5, e_v5, hf⟩ := hf
      refine mx_S.pu (pc2 := 33) (lv2 := [(0, .ref 2000000000), (1, .ref l1), (2, .ref l2), (3, .int l3)]) (st2 := [.int v5]) hm dL_law_32 (by rw [← e_v5]; rfl) ?_
      clear e_v5
      rcases mx_if_el hf with ⟨n_0, hf⟩ | ⟨n_0, hf⟩
      · refine sx_tin hm dL_law_33 (by rw [n_0]; decide) (by rw [n_0]; decide) (off := 79) (by rw [n_0]; rfl) (tgt := 112) rfl ?_
        clear n_0
        refine mx_S.pu (pc2 := 113) (lv2 := [(0, .ref 2000000000), (1, .ref l1), (2, .ref l2), (3, .int l3)]) (st2 := [.ref l1]) hm dL_law_112 rfl ?_
        refine mx_S.pu (pc2 := 114) (lv2 := [(0, .ref 2000000000), (1, .ref l1), (2, .ref l2), (3, .int l3)]) (st2 := [.ref 2000000000, .ref l1]) hm dL_law_113 rfl ?_
        refine mx_S.pu (pc2 := 115) (lv2 := [(0, .ref 2000000000), (1, .ref l1), (2, .ref l2), (3, .int l3)]) (st2 := [.int l3, .ref 2000000000, .ref l1]) hm dL_law_114 rfl ?_
        refine sx_ic (v := 1) hm dL_law_115 (by decide) ?_
        replace hf := xl_el hf; obtain ⟨v7, e_v7, hf⟩ := hf
        refine mx_S.pu (pc2 := 117) (lv2 := [(0, .ref 2000000000), (1, .ref l1), (2, .ref l2), (3, .int l3)]) (st2 := [.int v7, .ref 2000000000, .ref l1]) hm dL_law_116 (by rw [← e_v7]; rfl) ?_
        clear e_v7
        replace hf := mx_gd_el hf; obtain ⟨c8, hf⟩ := hf
        replace hf := mx_sv_el hf; obtain ⟨v9, e_v9, hf⟩ := hf
        refine sx_sc hm dL_law_117 (xno_el c8) e_v9 ?_
        clear e_v9
        refine mx_S.pu (pc2 := 119) (lv2 := [(0, .ref 2000000000), (1, .ref l1), (2, .ref l2), (3, .int l3)]) (st2 := [.ref 2000000000, .int v9, .ref l1]) hm dL_law_118 rfl ?_
        refine mx_S.pu (pc2 := 120) (lv2 := [(0, .ref 2000000000), (1, .ref l1), (2, .ref l2), (3, .int l3)]) (st2 := [.int l3, .ref 2000000000, .int v9, .ref l1]) hm dL_law_119 rfl ?_
        refine sx_ic (v := 2) hm dL_law_120 (by decide) ?_
        replace hf := xl_el hf; obtain ⟨v10, e_v10, hf⟩ := hf
        refine mx_S.pu (pc2 := 122) (lv2 := [(0, .ref 2000000000), (1, .ref l1), (2, .ref l2), (3, .int l3)]) (st2 := [.int v10, .ref 2000000000, .int v9, .ref l1]) hm dL_law_121 (by rw [← e_v10]; rfl) ?_
        clear e_v10
        replace hf := mx_gd_el hf; obtain ⟨c11, hf⟩ := hf
        replace hf := mx_sv_el hf; obtain ⟨v12, e_v12, hf⟩ := hf
        refine sx_sc hm dL_law_122 (xno_el c11) e_v12 ?_
        clear e_v12
        refine mx_S.pu (pc2 := 124) (lv2 := [(0, .ref 2000000000), (1, .ref l1), (2, .ref l2), (3, .int l3)]) (st2 := [.ref 2000000000, .int v12, .int v9, .ref l1]) hm dL_law_123 rfl ?_
        refine mx_S.pu (pc2 := 125) (lv2 := [(0, .ref 2000000000), (1, .ref l1), (2, .ref l2), (3, .int l3)]) (st2 := [.int l3, .ref 2000000000, .int v12, .int v9, .ref l1]) hm dL_law_124 rfl ?_
        refine sx_ic (v := 3) hm dL_law_125 (by decide) ?_
        replace hf := xl_el hf; obtain ⟨v13, e_v13, hf⟩ := hf
        refine mx_S.pu (pc2 := 127) (lv2 := [(0, .ref 2000000000), (1, .ref l1), (2, .ref l2), (3, .int l3)]) (st2 := [.int v13, .ref 2000000000, .int v12, .int v9, .ref l1]) hm dL_law_126 (by rw [← e_v13]; rfl) ?_
        clear e_v13
        replace hf := mx_gd_el hf; obtain ⟨c14, hf⟩ := hf
        replace hf := mx_sv_el hf; obtain ⟨v15, e_v15, hf⟩ := hf
        refine sx_sc hm dL_law_127 (xno_el c14) e_v15 ?_
        clear e_v15
        refine mx_S.pu (pc2 := 129) (lv2 := [(0, .ref 2000000000), (1, .ref l1), (2, .ref l2), (3, .int l3)]) (st2 := [.ref 2000000000, .int v15, .int v12, .int v9, .ref l1]) hm dL_law_128 rfl ?_
        refine mx_S.pu (pc2 := 130) (lv2 := [(0, .ref 2000000000), (1, .ref l1), (2, .ref l2), (3, .int l3)]) (st2 := [.int l3, .ref 2000000000, .int v15, .int v12, .int v9, .ref l1]) hm dL_law_129 rfl ?_
        refine sx_ic (v := 4) hm dL_law_130 (by decide) ?_
        replace hf := xl_el hf; obtain ⟨v16, e_v16, hf⟩ := hf
        refine mx_S.pu (pc2 := 132) (lv2 := [(0, .ref 2000000000), (1, .ref l1), (2, .ref l2), (3, .int l3)]) (st2 := [.int v16, .ref 2000000000, .int v15, .int v12, .int v9, .ref l1]) hm dL_law_131 (by rw [← e_v16]; rfl) ?_
        clear e_v16
        replace hf := mx_gd_el hf; obtain ⟨c17, hf⟩ := hf
        replace hf := mx_sv_el hf; obtain ⟨v18, e_v18, hf⟩ := hf
        refine sx_sc hm dL_law_132 (xno_el c17) e_v18 ?_
        clear e_v18
        refine mx_S.pu (pc2 := 134) (lv2 := [(0, .ref 2000000000), (1, .ref l1), (2, .ref l2), (3, .int l3)]) (st2 := [.ref 2000000000, .int v18, .int v15, .int v12, .int v9, .ref l1]) hm dL_law_133 rfl ?_
        refine mx_S.pu (pc2 := 135) (lv2 := [(0, .ref 2000000000), (1, .ref l1), (2, .ref l2), (3, .int l3)]) (st2 := [.int l3, .ref 2000000000, .int v18, .int v15, .int v12, .int v9, .ref l1]) hm dL_law_134 rfl ?_
        refine sx_ic (v := 5) hm dL_law_135 (by decide) ?_
        replace hf := xl_el hf; obtain ⟨v19, e_v19, hf⟩ := hf
        refine mx_S.pu (pc2 := 137) (lv2 := [(0, .ref 2000000000), (1, .ref l1), (2, .ref l2), (3, .int l3)]) (st2 := [.int v19, .ref 2000000000, .int v18, .int v15, .int v12, .int v9, .ref l1]) hm dL_law_136 (by rw [← e_v19]; rfl) ?_
        clear e_v19
        replace hf := mx_gd_el hf; obtain ⟨c20, hf⟩ := hf
        replace hf := mx_sv_el hf; obtain ⟨v21, e_v21, hf⟩ := hf
        refine sx_sc hm dL_law_137 (xno_el c20) e_v21 ?_
        clear e_v21
        replace hf := mx_gd_el hf; obtain ⟨c22, hf⟩ := hf
        replace hf := mx_sv_el hf; obtain ⟨u23, e_u23, hf⟩ := hf
        refine sx_cv hm dL_law_138 rs_RL_13 mt_X12_feed [.int v9, .int v12, .int v15, .int v18, .int v21] [] (b := l1) (ci := 12) rfl rfl rfl c22 (Nat.le_of_ble_eq_true rfl) (Nat.le_of_ble_eq_true rfl) (by omega) (by omega) (f_X12_feed_ok X (by omega) (by omega) nn l1 v9 v12 v15 v18 v21 h e_u23) ?_
        clear e_u23
        show mx_S X F L 0 141 [(0, .ref 2000000000), (1, .ref l1), (2, .ref l2), (3, .int l3)] [.int u23.1] u23.2 c s (some (.int r.1), r.2.1, r.2.2.1, r.2.2.2)
        refine mx_S.pu (pc2 := 142) (lv2 := [(0, .ref 2000000000), (1, .ref l1), (2, .ref l2), (3, .int l3)]) (st2 := [.ref l2, .int u23.1]) hm dL_law_141 rfl ?_
        refine mx_S.pu (pc2 := 143) (lv2 := [(0, .ref 2000000000), (1, .ref l1), (2, .ref l2), (3, .int l3)]) (st2 := [.ref 2000000000, .ref l2, .int u23.1]) hm dL_law_142 rfl ?_
        refine mx_S.pu (pc2 := 144) (lv2 := [(0, .ref 2000000000), (1, .ref l1), (2, .ref l2), (3, .int l3)]) (st2 := [.int l3, .ref 2000000000, .ref l2, .int u23.1]) hm dL_law_143 rfl ?_
        refine sx_ic (v := 1) hm dL_law_144 (by decide) ?_
        replace hf := xl_el hf; obtain ⟨v24, e_v24, hf⟩ := hf
        refine mx_S.pu (pc2 := 146) (lv2 := [(0, .ref 2000000000), (1, .ref l1), (2, .ref l2), (3, .int l3)]) (st2 := [.int v24, .ref 2000000000, .ref l2, .int u23.1]) hm dL_law_145 (by rw [← e_v24]; rfl) ?_
        clear e_v24
        replace hf := mx_gd_el hf; obtain ⟨c25, hf⟩ := hf
        replace hf := mx_sv_el hf; obtain ⟨v26, e_v26, hf⟩ := hf
        refine sx_sc hm dL_law_146 (xno_el c25) e_v26 ?_
        clear e_v26
        refine mx_S.pu (pc2 := 148) (lv2 := [(0, .ref 2000000000), (1, .ref l1), (2, .ref l2), (3, .int l3)]) (st2 := [.ref 2000000000, .int v26, .ref l2, .int u23.1]) hm dL_law_147 rfl ?_
        refine mx_S.pu (pc2 := 149) (lv2 := [(0, .ref 2000000000), (1, .ref l1), (2, .ref l2), (3, .int l3)]) (st2 := [.int l3, .ref 2000000000, .int v26, .ref l2, .int u23.1]) hm dL_law_148 rfl ?_
        refine sx_ic (v := 2) hm dL_law_149 (by decide) ?_
        replace hf := xl_el hf; obtain ⟨v27, e_v27, hf⟩ := hf
        refine mx_S.pu (pc2 := 151) (lv2 := [(0, .ref 2000000000), (1, .ref l1), (2, .ref l2), (3, .int l3)]) (st2 := [.int v27, .ref 2000000000, .int v26, .ref l2, .int u23.1]) hm dL_law_150 (by rw [← e_v27]; rfl) ?_
        clear e_v27
        replace hf := mx_gd_el hf; obtain ⟨c28, hf⟩ := hf
        replace hf := mx_sv_el hf; obtain ⟨v29, e_v29, hf⟩ := hf
        refine sx_sc hm dL_law_151 (xno_el c28) e_v29 ?_
        clear e_v29
        refine mx_S.pu (pc2 := 153) (lv2 := [(0, .ref 2000000000), (1, .ref l1), (2, .ref l2), (3, .int l3)]) (st2 := [.ref 2000000000, .int v29, .int v26, .ref l2, .int u23.1]) hm dL_law_152 rfl ?_
        refine mx_S.pu (pc2 := 154) (lv2 := [(0, .ref 2000000000), (1, .ref l1), (2, .ref l2), (3, .int l3)]) (st2 := [.int l3, .ref 2000000000, .int v29, .int v26, .ref l2, .int u23.1]) hm dL_law_153 rfl ?_
        refine sx_ic (v := 3) hm dL_law_154 (by decide) ?_
        replace hf := xl_el hf; obtain ⟨v30, e_v30, hf⟩ := hf
        refine mx_S.pu (pc2 := 156) (lv2 := [(0, .ref 2000000000), (1, .ref l1), (2, .ref l2), (3, .int l3)]) (st2 := [.int v30, .ref 2000000000, .int v29, .int v26, .ref l2, .int u23.1]) hm dL_law_155 (by rw [← e_v30]; rfl) ?_
        clear e_v30
        replace hf := mx_gd_el hf; obtain ⟨c31, hf⟩ := hf
        replace hf := mx_sv_el hf; obtain ⟨v32, e_v32, hf⟩ := hf
        refine sx_sc hm dL_law_156 (xno_el c31) e_v32 ?_
        clear e_v32
        refine mx_S.pu (pc2 := 158) (lv2 := [(0, .ref 2000000000), (1, .ref l1), (2, .ref l2), (3, .int l3)]) (st2 := [.ref 2000000000, .int v32, .int v29, .int v26, .ref l2, .int u23.1]) hm dL_law_157 rfl ?_
        refine mx_S.pu (pc2 := 159) (lv2 := [(0, .ref 2000000000), (1, .ref l1), (2, .ref l2), (3, .int l3)]) (st2 := [.int l3, .ref 2000000000, .int v32, .int v29, .int v26, .ref l2, .int u23.1]) hm dL_law_158 rfl ?_
        refine sx_ic (v := 4) hm dL_law_159 (by decide) ?_
        replace hf := xl_el hf; obtain ⟨v33, e_v33, hf⟩ := hf
        refine mx_S.pu (pc2 := 161) (lv2 := [(0, .ref 2000000000), (1, .ref l1), (2, .ref l2), (3, .int l3)]) (st2 := [.int v33, .ref 2000000000, .int v32, .int v29, .int v26, .ref l2, .int u23.1]) hm dL_law_160 (by rw [← e_v33]; rfl) ?_
        clear e_v33
        replace hf := mx_gd_el hf; obtain ⟨c34, hf⟩ := hf
        replace hf := mx_sv_el hf; obtain ⟨v35, e_v35, hf⟩ := hf
        refine sx_sc hm dL_law_161 (xno_el c34) e_v35 ?_
        clear e_v35
        refine mx_S.pu (pc2 := 163) (lv2 := [(0, .ref 2000000000), (1, .ref l1), (2, .ref l2), (3, .int l3)]) (st2 := [.ref 2000000000, .int v35, .int v32, .int v29, .int v26, .ref l2, .int u23.1]) hm dL_law_162 rfl ?_
        refine mx_S.pu (pc2 := 164) (lv2 := [(0, .ref 2000000000), (1, .ref l1), (2, .ref l2), (3, .int l3)]) (st2 := [.int l3, .ref 2000000000, .int v35, .int v32, .int v29, .int v26, .ref l2, .int u23.1]) hm dL_law_163 rfl ?_
        refine sx_ic (v := 5) hm dL_law_164 (by decide) ?_
        replace hf := xl_el hf; obtain ⟨v36, e_v36, hf⟩ := hf
        refine mx_S.pu (pc2 := 166) (lv2 := [(0, .ref 2000000000), (1, .ref l1), (2, .ref l2), (3, .int l3)]) (st2 := [.int v36, .ref 2000000000, .int v35, .int v32, .int v29, .int v26, .ref l2, .int u23.1]) hm dL_law_165 (by rw [← e_v36]; rfl) ?_
        clear e_v36
        replace hf := mx_gd_el hf; obtain ⟨c37, hf⟩ := hf
        replace hf := mx_sv_el hf; obtain ⟨v38, e_v38, hf⟩ := hf
        refine sx_sc hm dL_law_166 (xno_el c37) e_v38 ?_
        clear e_v38
        replace hf := mx_gd_el hf; obtain ⟨c39, hf⟩ := hf
        replace hf := mx_sv_el hf; obtain ⟨u40, e_u40, hf⟩ := hf
        refine sx_cv hm dL_law_167 rs_RL_17 mt_X13_feed [.int v26, .int v29, .int v32, .int v35, .int v38] [.int u23.1] (b := l2) (ci := 13) rfl rfl rfl c39 (Nat.le_of_ble_eq_true rfl) (Nat.le_of_ble_eq_true rfl) (by omega) (by omega) (f_X13_feed_ok X (by omega) (by omega) nn l2 v26 v29 v32 v35 v38 u23.2 e_u40) ?_
        clear e_u40
        show mx_S X F L 0 170 [(0, .ref 2000000000), (1, .ref l1), (2, .ref l2), (3, .int l3)] [.int u40.1, .int u23.1] u40.2 c s (some (.int r.1), r.2.1, r.2.2.1, r.2.2.2)
        rcases mx_if_el hf with ⟨c42, hf⟩ | ⟨c42, hf⟩
        · refine sb_ic_eq hm dL_law_170 (tgt := 528) rfl (fun _ => ?_) (fun z => absurd c42 z)
          replace hf := xl_el hf; obtain ⟨v41, e_v41, hf⟩ := hf
          refine mx_S.pu (pc2 := 531) (lv2 := [(3, .int v41), (0, .ref 2000000000), (1, .ref l1), (2, .ref l2)]) (st2 := []) hm dL_law_528 (by rw [← e_v41]; rfl) ?_
          clear e_v41
          refine mx_S.pu (pc2 := 18) (lv2 := [(3, .int v41), (0, .ref 2000000000), (1, .ref l1), (2, .ref l2)]) (st2 := []) hm dL_law_531 rfl ?_
          refine mx_S.ext [(0, .ref 2000000000), (1, .ref l1), (2, .ref l2), (3, .int v41)] (mx_sub_pos [1, 2, 3, 0] rfl (show ([3, 0, 1, 2] : List Nat).Nodup by decide)) ?_
          exact ih l1 l2 v41 u40.2 c s _ hf
        · refine sb_ic_eq hm dL_law_170 (tgt := 528) rfl (fun z => absurd z c42) (fun _ => ?_)
          refine sx_ic (v := 0) hm dL_law_173 (by decide) ?_
          cases hf
          exact sx_ire hm dL_law_174 rfl (by decide)
      · rcases mx_if_el hf with ⟨n_1, hf⟩ | ⟨n_1, hf⟩
        · refine sx_tin hm dL_law_33 (by rw [n_1]; decide) (by rw [n_1]; decide) (off := 142) (by rw [n_1]; rfl) (tgt := 175) rfl ?_
          clear n_0 n_1
          refine mx_S.pu (pc2 := 176) (lv2 := [(0, .ref 2000000000), (1, .ref l1), (2, .ref l2), (3, .int l3)]) (st2 := [.ref l1]) hm dL_law_175 rfl ?_
          refine mx_S.pu (pc2 := 177) (lv2 := [(0, .ref 2000000000), (1, .ref l1), (2, .ref l2), (3, .int l3)]) (st2 := [.ref 2000000000, .ref l1]) hm dL_law_176 rfl ?_
          refine mx_S.pu (pc2 := 178) (lv2 := [(0, .ref 2000000000), (1, .ref l1), (2, .ref l2), (3, .int l3)]) (st2 := [.int l3, .ref 2000000000, .ref l1]) hm dL_law_177 rfl ?_
          refine sx_ic (v := 1) hm dL_law_178 (by decide) ?_
          replace hf := xl_el hf; obtain ⟨v43, e_v43, hf⟩ := hf
          refine mx_S.pu (pc2 := 180) (lv2 := [(0, .ref 2000000000), (1, .ref l1), (2, .ref l2), (3, .int l3)]) (st2 := [.int v43, .ref 2000000000, .ref l1]) hm dL_law_179 (by rw [← e_v43]; rfl) ?_
          clear e_v43
          replace hf := mx_gd_el hf; obtain ⟨c44, hf⟩ := hf
          replace hf := mx_sv_el hf; obtain ⟨v45, e_v45, hf⟩ := hf
          refine sx_sc hm dL_law_180 (xno_el c44) e_v45 ?_
          clear e_v45
          replace hf := mx_gd_el hf; obtain ⟨c46, hf⟩ := hf
          replace hf := mx_sv_el hf; obtain ⟨u47, e_u47, hf⟩ := hf
          refine sx_cv hm dL_law_181 rs_RL_18 mt_X12_end [.int v45] [] (b := l1) (ci := 12) rfl rfl rfl c46 (Nat.le_of_ble_eq_true rfl) (Nat.le_of_ble_eq_true rfl) (by omega) (by omega) (f_X12_end_ok X (by omega) (by omega) nn l1 v45 h e_u47) ?_
          clear e_u47
          show mx_S X F L 0 184 [(0, .ref 2000000000), (1, .ref l1), (2, .ref l2), (3, .int l3)] [.int u47.1] u47.2 c s (some (.int r.1), r.2.1, r.2.2.1, r.2.2.2)
          refine mx_S.pu (pc2 := 185) (lv2 := [(0, .ref 2000000000), (1, .ref l1), (2, .ref l2), (3, .int l3)]) (st2 := [.ref l2, .int u47.1]) hm dL_law_184 rfl ?_
          refine mx_S.pu (pc2 := 186) (lv2 := [(0, .ref 2000000000), (1, .ref l1), (2, .ref l2), (3, .int l3)]) (st2 := [.ref 2000000000, .ref l2, .int u47.1]) hm dL_law_185 rfl ?_
          refine mx_S.pu (pc2 := 187) (lv2 := [(0, .ref 2000000000), (1, .ref l1), (2, .ref l2), (3, .int l3)]) (st2 := [.int l3, .ref 2000000000, .ref l2, .int u47.1]) hm dL_law_186 rfl ?_
          refine sx_ic (v := 1) hm dL_law_187 (by decide) ?_
          replace hf := xl_el hf; obtain ⟨v48, e_v48, hf⟩ := hf
          refine mx_S.pu (pc2 := 189) (lv2 := [(0, .ref 2000000000), (1, .ref l1), (2, .ref l2), (3, .int l3)]) (st2 := [.int v48, .ref 2000000000, .ref l2, .int u47.1]) hm dL_law_188 (by rw [← e_v48]; rfl) ?_
          clear e_v48
          replace hf := mx_gd_el hf; obtain ⟨c49, hf⟩ := hf
          replace hf := mx_sv_el hf; obtain ⟨v50, e_v50, hf⟩ := hf
          refine sx_sc hm dL_law_189 (xno_el c49) e_v50 ?_
          clear e_v50
          replace hf := mx_gd_el hf; obtain ⟨c51, hf⟩ := hf
          replace hf := mx_sv_el hf; obtain ⟨u52, e_u52, hf⟩ := hf
          refine sx_cv hm dL_law_190 rs_RL_22 mt_X13_end [.int v50] [.int u47.1] (b := l2) (ci := 13) rfl rfl rfl c51 (Nat.le_of_ble_eq_true rfl) (Nat.le_of_ble_eq_true rfl) (by omega) (by omega) (f_X13_end_ok X (by omega) (by omega) nn l2 v50 u47.2 e_u52) ?_
          clear e_u52
          show mx_S X F L 0 193 [(0, .ref 2000000000), (1, .ref l1), (2, .ref l2), (3, .int l3)] [.int u52.1, .int u47.1] u52.2 c s (some (.int r.1), r.2.1, r.2.2.1, r.2.2.2)
          rcases mx_if_el hf with ⟨c54, hf⟩ | ⟨c54, hf⟩
          · refine sb_ic_eq hm dL_law_193 (tgt := 528) rfl (fun _ => ?_) (fun z => absurd c54 z)
            replace hf := xl_el hf; obtain ⟨v53, e_v53, hf⟩ := hf
            refine mx_S.pu (pc2 := 531) (lv2 := [(3, .int v53), (0, .ref 2000000000), (1, .ref l1), (2, .ref l2)]) (st2 := []) hm dL_law_528 (by rw [← e_v53]; rfl) ?_
            clear e_v53
            refine mx_S.pu (pc2 := 18) (lv2 := [(3, .int v53), (0, .ref 2000000000), (1, .ref l1), (2, .ref l2)]) (st2 := []) hm dL_law_531 rfl ?_
            refine mx_S.ext [(0, .ref 2000000000), (1, .ref l1), (2, .ref l2), (3, .int v53)] (mx_sub_pos [1, 2, 3, 0] rfl (show ([3, 0, 1, 2] : List Nat).Nodup by decide)) ?_
            exact ih l1 l2 v53 u52.2 c s _ hf
          · refine sb_ic_eq hm dL_law_193 (tgt := 528) rfl (fun z => absurd z c54) (fun _ => ?_)
            refine mx_S.ext [] (mx_sub_pos [] rfl (show ([0, 1, 2, 3] : List Nat).Nodup by decide)) ?_
            exact j_L_law_196_ok X hF hL nn u52.2 c s hf
        · rcases mx_if_el hf with ⟨n_2, hf⟩ | ⟨n_2, hf⟩
          · refine sx_tin hm dL_law_33 (by rw [n_2]; decide) (by rw [n_2]; decide) (off := 165) (by rw [n_2]; rfl) (tgt := 198) rfl ?_
            clear n_0 n_1 n_2
            refine mx_S.pu (pc2 := 199) (lv2 := [(0, .ref 2000000000), (1, .ref l1), (2, .ref l2), (3, .int l3)]) (st2 := [.ref l1]) hm dL_law_198 rfl ?_
            replace hf := mx_gd_el hf; obtain ⟨c55, hf⟩ := hf
            replace hf := mx_sv_el hf; obtain ⟨u56, e_u56, hf⟩ := hf
            refine sx_cvA hm dL_law_199 rs_RL_23 mt_X12_compile [] [] (b := l1) (ci := 12) rfl rfl rfl c55 (Nat.le_of_ble_eq_true rfl) (Nat.le_of_ble_eq_true rfl) (by omega) (by omega) (f_X12_compile_ok X (by omega) (by omega) nn l1 h e_u56) ?_
            clear e_u56
            show mx_S X F L 0 202 [(0, .ref 2000000000), (1, .ref l1), (2, .ref l2), (3, .int l3)] [.int u56.1] u56.2.1 (c + u56.2.2.1) (s + u56.2.2.2) (some (.int r.1), r.2.1, r.2.2.1, r.2.2.2)
            refine mx_S.pu (pc2 := 203) (lv2 := [(0, .ref 2000000000), (1, .ref l1), (2, .ref l2), (3, .int l3)]) (st2 := [.ref l2, .int u56.1]) hm dL_law_202 rfl ?_
            replace hf := mx_gd_el hf; obtain ⟨c57, hf⟩ := hf
            replace hf := mx_sv_el hf; obtain ⟨u58, e_u58, hf⟩ := hf
            refine sx_cv hm dL_law_203 rs_RL_27 mt_X13_compile [] [.int u56.1] (b := l2) (ci := 13) rfl rfl rfl c57 (Nat.le_of_ble_eq_true rfl) (Nat.le_of_ble_eq_true rfl) (by omega) (by omega) (f_X13_compile_ok X (by omega) (by omega) nn l2 u56.2.1 e_u58) ?_
            clear e_u58
            show mx_S X F L 0 206 [(0, .ref 2000000000), (1, .ref l1), (2, .ref l2), (3, .int l3)] [.int u58.1, .int u56.1] u58.2 (c + u56.2.2.1) (s + u56.2.2.2) (some (.int r.1), r.2.1, r.2.2.1, r.2.2.2)
            rcases mx_if_el hf with ⟨c60, hf⟩ | ⟨c60, hf⟩
            · refine sb_ic_eq hm dL_law_206 (tgt := 528) rfl (fun _ => ?_) (fun z => absurd c60 z)
              replace hf := xl_el hf; obtain ⟨v59, e_v59, hf⟩ := hf
              refine mx_S.pu (pc2 := 531) (lv2 := [(3, .int v59), (0, .ref 2000000000), (1, .ref l1), (2, .ref l2)]) (st2 := []) hm dL_law_528 (by rw [← e_v59]; rfl) ?_
              clear e_v59
              refine mx_S.pu (pc2 := 18) (lv2 := [(3, .int v59), (0, .ref 2000000000), (1, .ref l1), (2, .ref l2)]) (st2 := []) hm dL_law_531 rfl ?_
              refine mx_S.ext [(0, .ref 2000000000), (1, .ref l1), (2, .ref l2), (3, .int v59)] (mx_sub_pos [1, 2, 3, 0] rfl (show ([3, 0, 1, 2] : List Nat).Nodup by decide)) ?_
              exact ih l1 l2 v59 u58.2 (c + u56.2.2.1) (s + u56.2.2.2) _ hf
            · refine sb_ic_eq hm dL_law_206 (tgt := 528) rfl (fun z => absurd z c60) (fun _ => ?_)
              refine sx_ic (v := 0) hm dL_law_209 (by decide) ?_
              cases hf
              exact sx_ire hm dL_law_210 rfl (by decide)
          · rcases mx_if_el hf with ⟨n_3, hf⟩ | ⟨n_3, hf⟩
            · refine sx_tin hm dL_law_33 (by rw [n_3]; decide) (by rw [n_3]; decide) (off := 178) (by rw [n_3]; rfl) (tgt := 211) rfl ?_
              clear n_0 n_1 n_2 n_3
              refine mx_S.pu (pc2 := 212) (lv2 := [(0, .ref 2000000000), (1, .ref l1), (2, .ref l2), (3, .int l3)]) (st2 := [.ref l1]) hm dL_law_211 rfl ?_
              refine mx_S.pu (pc2 := 213) (lv2 := [(0, .ref 2000000000), (1, .ref l1), (2, .ref l2), (3, .int l3)]) (st2 := [.ref 2000000000, .ref l1]) hm dL_law_212 rfl ?_
              refine mx_S.pu (pc2 := 214) (lv2 := [(0, .ref 2000000000), (1, .ref l1), (2, .ref l2), (3, .int l3)]) (st2 := [.int l3, .ref 2000000000, .ref l1]) hm dL_law_213 rfl ?_
              refine sx_ic (v := 1) hm dL_law_214 (by decide) ?_
              replace hf := xl_el hf; obtain ⟨v61, e_v61, hf⟩ := hf
              refine mx_S.pu (pc2 := 216) (lv2 := [(0, .ref 2000000000), (1, .ref l1), (2, .ref l2), (3, .int l3)]) (st2 := [.int v61, .ref 2000000000, .ref l1]) hm dL_law_215 (by rw [← e_v61]; rfl) ?_
              clear e_v61
              replace hf := mx_gd_el hf; obtain ⟨c62, hf⟩ := hf
              replace hf := mx_sv_el hf; obtain ⟨v63, e_v63, hf⟩ := hf
              refine sx_sc hm dL_law_216 (xno_el c62) e_v63 ?_
              clear e_v63
              replace hf := mx_gd_el hf; obtain ⟨c64, hf⟩ := hf
              replace hf := mx_sv_el hf; obtain ⟨u65, e_u65, hf⟩ := hf
              refine sx_cv hm dL_law_217 rs_RL_28 mt_X12_fault [.int v63] [] (b := l1) (ci := 12) rfl rfl rfl c64 (Nat.le_of_ble_eq_true rfl) (Nat.le_of_ble_eq_true rfl) (by omega) (by omega) (f_X12_fault_ok X (by omega) (by omega) nn l1 v63 h e_u65) ?_
              clear e_u65
              show mx_S X F L 0 220 [(0, .ref 2000000000), (1, .ref l1), (2, .ref l2), (3, .int l3)] [.int u65.1] u65.2 c s (some (.int r.1), r.2.1, r.2.2.1, r.2.2.2)
              refine mx_S.pu (pc2 := 221) (lv2 := [(0, .ref 2000000000), (1, .ref l1), (2, .ref l2), (3, .int l3)]) (st2 := [.ref l2, .int u65.1]) hm dL_law_220 rfl ?_
              refine mx_S.pu (pc2 := 222) (lv2 := [(0, .ref 2000000000), (1, .ref l1), (2, .ref l2), (3, .int l3)]) (st2 := [.ref 2000000000, .ref l2, .int u65.1]) hm dL_law_221 rfl ?_
              refine mx_S.pu (pc2 := 223) (lv2 := [(0, .ref 2000000000), (1, .ref l1), (2, .ref l2), (3, .int l3)]) (st2 := [.int l3, .ref 2000000000, .ref l2, .int u65.1]) hm dL_law_222 rfl ?_
              refine sx_ic (v := 1) hm dL_law_223 (by decide) ?_
              replace hf := xl_el hf; obtain ⟨v66, e_v66, hf⟩ := hf
              refine mx_S.pu (pc2 := 225) (lv2 := [(0, .ref 2000000000), (1, .ref l1), (2, .ref l2), (3, .int l3)]) (st2 := [.int v66, .ref 2000000000, .ref l2, .int u65.1]) hm dL_law_224 (by rw [← e_v66]; rfl) ?_
              clear e_v66
              replace hf := mx_gd_el hf; obtain ⟨c67, hf⟩ := hf
              replace hf := mx_sv_el hf; obtain ⟨v68, e_v68, hf⟩ := hf
              refine sx_sc hm dL_law_225 (xno_el c67) e_v68 ?_
              clear e_v68
              replace hf := mx_gd_el hf; obtain ⟨c69, hf⟩ := hf
              replace hf := mx_sv_el hf; obtain ⟨u70, e_u70, hf⟩ := hf
              refine sx_cv hm dL_law_226 rs_RL_32 mt_X13_fault [.int v68] [.int u65.1] (b := l2) (ci := 13) rfl rfl rfl c69 (Nat.le_of_ble_eq_true rfl) (Nat.le_of_ble_eq_true rfl) (by omega) (by omega) (f_X13_fault_ok X (by omega) (by omega) nn l2 v68 u65.2 e_u70) ?_
              clear e_u70
              show mx_S X F L 0 229 [(0, .ref 2000000000), (1, .ref l1), (2, .ref l2), (3, .int l3)] [.int u70.1, .int u65.1] u70.2 c s (some (.int r.1), r.2.1, r.2.2.1, r.2.2.2)
              rcases mx_if_el hf with ⟨c72, hf⟩ | ⟨c72, hf⟩
              · refine sb_ic_eq hm dL_law_229 (tgt := 528) rfl (fun _ => ?_) (fun z => absurd c72 z)
                replace hf := xl_el hf; obtain ⟨v71, e_v71, hf⟩ := hf
                refine mx_S.pu (pc2 := 531) (lv2 := [(3, .int v71), (0, .ref 2000000000), (1, .ref l1), (2, .ref l2)]) (st2 := []) hm dL_law_528 (by rw [← e_v71]; rfl) ?_
                clear e_v71
                refine mx_S.pu (pc2 := 18) (lv2 := [(3, .int v71), (0, .ref 2000000000), (1, .ref l1), (2, .ref l2)]) (st2 := []) hm dL_law_531 rfl ?_
                refine mx_S.ext [(0, .ref 2000000000), (1, .ref l1), (2, .ref l2), (3, .int v71)] (mx_sub_pos [1, 2, 3, 0] rfl (show ([3, 0, 1, 2] : List Nat).Nodup by decide)) ?_
                exact ih l1 l2 v71 u70.2 c s _ hf
              · refine sb_ic_eq hm dL_law_229 (tgt := 528) rfl (fun z => absurd z c72) (fun _ => ?_)
                refine sx_ic (v := 0) hm dL_law_232 (by decide) ?_
                cases hf
                exact sx_ire hm dL_law_233 rfl (by decide)
            · rcases mx_if_el hf with ⟨n_4, hf⟩ | ⟨n_4, hf⟩
              · refine sx_tin hm dL_law_33 (by rw [n_4]; decide) (by rw [n_4]; decide) (off := 201) (by rw [n_4]; rfl) (tgt := 234) rfl ?_
                clear n_0 n_1 n_2 n_3 n_4
                refine mx_S.pu (pc2 := 235) (lv2 := [(0, .ref 2000000000), (1, .ref l1), (2, .ref l2), (3, .int l3)]) (st2 := [.ref l1]) hm dL_law_234 rfl ?_
                refine mx_S.pu (pc2 := 236) (lv2 := [(0, .ref 2000000000), (1, .ref l1), (2, .ref l2), (3, .int l3)]) (st2 := [.ref 2000000000, .ref l1]) hm dL_law_235 rfl ?_
                refine mx_S.pu (pc2 := 237) (lv2 := [(0, .ref 2000000000), (1, .ref l1), (2, .ref l2), (3, .int l3)]) (st2 := [.int l3, .ref 2000000000, .ref l1]) hm dL_law_236 rfl ?_
                refine sx_ic (v := 1) hm dL_law_237 (by decide) ?_
                replace hf := xl_el hf; obtain ⟨v73, e_v73, hf⟩ := hf
                refine mx_S.pu (pc2 := 239) (lv2 := [(0, .ref 2000000000), (1, .ref l1), (2, .ref l2), (3, .int l3)]) (st2 := [.int v73, .ref 2000000000, .ref l1]) hm dL_law_238 (by rw [← e_v73]; rfl) ?_
                clear e_v73
                replace hf := mx_gd_el hf; obtain ⟨c74, hf⟩ := hf
                replace hf := mx_sv_el hf; obtain ⟨v75, e_v75, hf⟩ := hf
                refine sx_sc hm dL_law_239 (xno_el c74) e_v75 ?_
                clear e_v75
                refine mx_S.pu (pc2 := 241) (lv2 := [(0, .ref 2000000000), (1, .ref l1), (2, .ref l2), (3, .int l3)]) (st2 := [.ref 2000000000, .int v75, .ref l1]) hm dL_law_240 rfl ?_
                refine mx_S.pu (pc2 := 242) (lv2 := [(0, .ref 2000000000), (1, .ref l1), (2, .ref l2), (3, .int l3)]) (st2 := [.int l3, .ref 2000000000, .int v75, .ref l1]) hm dL_law_241 rfl ?_
                refine sx_ic (v := 2) hm dL_law_242 (by decide) ?_
                replace hf := xl_el hf; obtain ⟨v76, e_v76, hf⟩ := hf
                refine mx_S.pu (pc2 := 244) (lv2 := [(0, .ref 2000000000), (1, .ref l1), (2, .ref l2), (3, .int l3)]) (st2 := [.int v76, .ref 2000000000, .int v75, .ref l1]) hm dL_law_243 (by rw [← e_v76]; rfl) ?_
                clear e_v76
                replace hf := mx_gd_el hf; obtain ⟨c77, hf⟩ := hf
                replace hf := mx_sv_el hf; obtain ⟨v78, e_v78, hf⟩ := hf
                refine sx_sc hm dL_law_244 (xno_el c77) e_v78 ?_
                clear e_v78
                replace hf := mx_gd_el hf; obtain ⟨c79, hf⟩ := hf
                replace hf := mx_sv_el hf; obtain ⟨u80, e_u80, hf⟩ := hf
                refine sx_cv hm dL_law_245 rs_RL_33 mt_X12_image [.int v75, .int v78] [] (b := l1) (ci := 12) rfl rfl rfl c79 (Nat.le_of_ble_eq_true rfl) (Nat.le_of_ble_eq_true rfl) (by omega) (by omega) (f_X12_image_ok X (by omega) (by omega) nn l1 v75 v78 h e_u80) ?_
                clear e_u80
                show mx_S X F L 0 248 [(0, .ref 2000000000), (1, .ref l1), (2, .ref l2), (3, .int l3)] [.int u80.1] u80.2 c s (some (.int r.1), r.2.1, r.2.2.1, r.2.2.2)
                refine mx_S.pu (pc2 := 249) (lv2 := [(0, .ref 2000000000), (1, .ref l1), (2, .ref l2), (3, .int l3)]) (st2 := [.ref l2, .int u80.1]) hm dL_law_248 rfl ?_
                refine mx_S.pu (pc2 := 250) (lv2 := [(0, .ref 2000000000), (1, .ref l1), (2, .ref l2), (3, .int l3)]) (st2 := [.ref 2000000000, .ref l2, .int u80.1]) hm dL_law_249 rfl ?_
                refine mx_S.pu (pc2 := 251) (lv2 := [(0, .ref 2000000000), (1, .ref l1), (2, .ref l2), (3, .int l3)]) (st2 := [.int l3, .ref 2000000000, .ref l2, .int u80.1]) hm dL_law_250 rfl ?_
                refine sx_ic (v := 1) hm dL_law_251 (by decide) ?_
                replace hf := xl_el hf; obtain ⟨v81, e_v81, hf⟩ := hf
                refine mx_S.pu (pc2 := 253) (lv2 := [(0, .ref 2000000000), (1, .ref l1), (2, .ref l2), (3, .int l3)]) (st2 := [.int v81, .ref 2000000000, .ref l2, .int u80.1]) hm dL_law_252 (by rw [← e_v81]; rfl) ?_
                clear e_v81
                replace hf := mx_gd_el hf; obtain ⟨c82, hf⟩ := hf
                replace hf := mx_sv_el hf; obtain ⟨v83, e_v83, hf⟩ := hf
                refine sx_sc hm dL_law_253 (xno_el c82) e_v83 ?_
                clear e_v83
                refine mx_S.pu (pc2 := 255) (lv2 := [(0, .ref 2000000000), (1, .ref l1), (2, .ref l2), (3, .int l3)]) (st2 := [.ref 2000000000, .int v83, .ref l2, .int u80.1]) hm dL_law_254 rfl ?_
                refine mx_S.pu (pc2 := 256) (lv2 := [(0, .ref 2000000000), (1, .ref l1), (2, .ref l2), (3, .int l3)]) (st2 := [.int l3, .ref 2000000000, .int v83, .ref l2, .int u80.1]) hm dL_law_255 rfl ?_
                refine sx_ic (v := 2) hm dL_law_256 (by decide) ?_
                replace hf := xl_el hf; obtain ⟨v84, e_v84, hf⟩ := hf
                refine mx_S.pu (pc2 := 258) (lv2 := [(0, .ref 2000000000), (1, .ref l1), (2, .ref l2), (3, .int l3)]) (st2 := [.int v84, .ref 2000000000, .int v83, .ref l2, .int u80.1]) hm dL_law_257 (by rw [← e_v84]; rfl) ?_
                clear e_v84
                replace hf := mx_gd_el hf; obtain ⟨c85, hf⟩ := hf
                replace hf := mx_sv_el hf; obtain ⟨v86, e_v86, hf⟩ := hf
                refine sx_sc hm dL_law_258 (xno_el c85) e_v86 ?_
                clear e_v86
                replace hf := mx_gd_el hf; obtain ⟨c87, hf⟩ := hf
                replace hf := mx_sv_el hf; obtain ⟨u88, e_u88, hf⟩ := hf
                refine sx_cv hm dL_law_259 rs_RL_37 mt_X13_image [.int v83, .int v86] [.int u80.1] (b := l2) (ci := 13) rfl rfl rfl c87 (Nat.le_of_ble_eq_true rfl) (Nat.le_of_ble_eq_true rfl) (by omega) (by omega) (f_X13_image_ok X (by omega) (by omega) nn l2 v83 v86 u80.2 e_u88) ?_
                clear e_u88
                show mx_S X F L 0 262 [(0, .ref 2000000000), (1, .ref l1), (2, .ref l2), (3, .int l3)] [.int u88.1, .int u80.1] u88.2 c s (some (.int r.1), r.2.1, r.2.2.1, r.2.2.2)
                rcases mx_if_el hf with ⟨c90, hf⟩ | ⟨c90, hf⟩
                · refine sb_ic_eq hm dL_law_262 (tgt := 528) rfl (fun _ => ?_) (fun z => absurd c90 z)
                  replace hf := xl_el hf; obtain ⟨v89, e_v89, hf⟩ := hf
                  refine mx_S.pu (pc2 := 531) (lv2 := [(3, .int v89), (0, .ref 2000000000), (1, .ref l1), (2, .ref l2)]) (st2 := []) hm dL_law_528 (by rw [← e_v89]; rfl) ?_
                  clear e_v89
                  refine mx_S.pu (pc2 := 18) (lv2 := [(3, .int v89), (0, .ref 2000000000), (1, .ref l1), (2, .ref l2)]) (st2 := []) hm dL_law_531 rfl ?_
                  refine mx_S.ext [(0, .ref 2000000000), (1, .ref l1), (2, .ref l2), (3, .int v89)] (mx_sub_pos [1, 2, 3, 0] rfl (show ([3, 0, 1, 2] : List Nat).Nodup by decide)) ?_
                  exact ih l1 l2 v89 u88.2 c s _ hf
                · refine sb_ic_eq hm dL_law_262 (tgt := 528) rfl (fun z => absurd z c90) (fun _ => ?_)
                  refine sx_ic (v := 0) hm dL_law_265 (by decide) ?_
                  cases hf
                  exact sx_ire hm dL_law_266 rfl (by decide)
              · rcases mx_if_el hf with ⟨n_5, hf⟩ | ⟨n_5, hf⟩
                · refine sx_tin hm dL_law_33 (by rw [n_5]; decide) (by rw [n_5]; decide) (off := 234) (by rw [n_5]; rfl) (tgt := 267) rfl ?_
                  clear n_0 n_1 n_2 n_3 n_4 n_5
                  refine mx_S.pu (pc2 := 268) (lv2 := [(0, .ref 2000000000), (1, .ref l1), (2, .ref l2), (3, .int l3)]) (st2 := [.ref l1]) hm dL_law_267 rfl ?_
                  replace hf := mx_gd_el hf; obtain ⟨c91, hf⟩ := hf
                  replace hf := mx_sv_el hf; obtain ⟨u92, e_u92, hf⟩ := hf
                  refine sx_cvA hm dL_law_268 rs_RL_38 mt_X12_load [] [] (b := l1) (ci := 12) rfl rfl rfl c91 (Nat.le_of_ble_eq_true rfl) (Nat.le_of_ble_eq_true rfl) (by omega) (by omega) (f_X12_load_ok X (by omega) (by omega) nn l1 h e_u92) ?_
                  clear e_u92
                  show mx_S X F L 0 271 [(0, .ref 2000000000), (1, .ref l1), (2, .ref l2), (3, .int l3)] [.int u92.1] u92.2.1 (c + u92.2.2.1) (s + u92.2.2.2) (some (.int r.1), r.2.1, r.2.2.1, r.2.2.2)
                  refine mx_S.pu (pc2 := 272) (lv2 := [(0, .ref 2000000000), (1, .ref l1), (2, .ref l2), (3, .int l3)]) (st2 := [.ref l2, .int u92.1]) hm dL_law_271 rfl ?_
                  replace hf := mx_gd_el hf; obtain ⟨c93, hf⟩ := hf
                  replace hf := mx_sv_el hf; obtain ⟨u94, e_u94, hf⟩ := hf
                  refine sx_cv hm dL_law_272 rs_RL_41 mt_X13_load [] [.int u92.1] (b := l2) (ci := 13) rfl rfl rfl c93 (Nat.le_of_ble_eq_true rfl) (Nat.le_of_ble_eq_true rfl) (by omega) (by omega) (f_X13_load_ok X (by omega) (by omega) nn l2 u92.2.1 e_u94) ?_
                  clear e_u94
                  show mx_S X F L 0 275 [(0, .ref 2000000000), (1, .ref l1), (2, .ref l2), (3, .int l3)] [.int u94.1, .int u92.1] u94.2 (c + u92.2.2.1) (s + u92.2.2.2) (some (.int r.1), r.2.1, r.2.2.1, r.2.2.2)
                  rcases mx_if_el hf with ⟨c96, hf⟩ | ⟨c96, hf⟩
                  · refine sb_ic_eq hm dL_law_275 (tgt := 528) rfl (fun _ => ?_) (fun z => absurd c96 z)
                    replace hf := xl_el hf; obtain ⟨v95, e_v95, hf⟩ := hf
                    refine mx_S.pu (pc2 := 531) (lv2 := [(3, .int v95), (0, .ref 2000000000), (1, .ref l1), (2, .ref l2)]) (st2 := []) hm dL_law_528 (by rw [← e_v95]; rfl) ?_
                    clear e_v95
                    refine mx_S.pu (pc2 := 18) (lv2 := [(3, .int v95), (0, .ref 2000000000), (1, .ref l1), (2, .ref l2)]) (st2 := []) hm dL_law_531 rfl ?_
                    refine mx_S.ext [(0, .ref 2000000000), (1, .ref l1), (2, .ref l2), (3, .int v95)] (mx_sub_pos [1, 2, 3, 0] rfl (show ([3, 0, 1, 2] : List Nat).Nodup by decide)) ?_
                    exact ih l1 l2 v95 u94.2 (c + u92.2.2.1) (s + u92.2.2.2) _ hf
                  · refine sb_ic_eq hm dL_law_275 (tgt := 528) rfl (fun z => absurd z c96) (fun _ => ?_)
                    refine sx_ic (v := 0) hm dL_law_278 (by decide) ?_
                    cases hf
                    exact sx_ire hm dL_law_279 rfl (by decide)
                · rcases mx_if_el hf with ⟨n_6, hf⟩ | ⟨n_6, hf⟩
                  · refine sx_tin hm dL_law_33 (by rw [n_6]; decide) (by rw [n_6]; decide) (off := 247) (by rw [n_6]; rfl) (tgt := 280) rfl ?_
                    clear n_0 n_1 n_2 n_3 n_4 n_5 n_6
                    refine mx_S.pu (pc2 := 281) (lv2 := [(0, .ref 2000000000), (1, .ref l1), (2, .ref l2), (3, .int l3)]) (st2 := [.ref l1]) hm dL_law_280 rfl ?_
                    refine mx_S.pu (pc2 := 282) (lv2 := [(0, .ref 2000000000), (1, .ref l1), (2, .ref l2), (3, .int l3)]) (st2 := [.ref 2000000000, .ref l1]) hm dL_law_281 rfl ?_
                    refine mx_S.pu (pc2 := 283) (lv2 := [(0, .ref 2000000000), (1, .ref l1), (2, .ref l2), (3, .int l3)]) (st2 := [.int l3, .ref 2000000000, .ref l1]) hm dL_law_282 rfl ?_
                    refine sx_ic (v := 1) hm dL_law_283 (by decide) ?_
                    replace hf := xl_el hf; obtain ⟨v97, e_v97, hf⟩ := hf
                    refine mx_S.pu (pc2 := 285) (lv2 := [(0, .ref 2000000000), (1, .ref l1), (2, .ref l2), (3, .int l3)]) (st2 := [.int v97, .ref 2000000000, .ref l1]) hm dL_law_284 (by rw [← e_v97]; rfl) ?_
                    clear e_v97
                    replace hf := mx_gd_el hf; obtain ⟨c98, hf⟩ := hf
                    replace hf := mx_sv_el hf; obtain ⟨v99, e_v99, hf⟩ := hf
                    refine sx_sc hm dL_law_285 (xno_el c98) e_v99 ?_
                    clear e_v99
                    replace hf := mx_gd_el hf; obtain ⟨c100, hf⟩ := hf
                    replace hf := mx_sv_el hf; obtain ⟨u101, e_u101, hf⟩ := hf
                    refine sx_cvA hm dL_law_286 rs_RL_42 mt_X12_keep [.int v99] [] (b := l1) (ci := 12) rfl rfl rfl c100 (Nat.le_of_ble_eq_true rfl) (Nat.le_of_ble_eq_true rfl) (by omega) (by omega) (f_X12_keep_ok X (by omega) (by omega) nn l1 v99 h e_u101) ?_
                    clear e_u101
                    show mx_S X F L 0 289 [(0, .ref 2000000000), (1, .ref l1), (2, .ref l2), (3, .int l3)] [.int u101.1] u101.2.1 (c + u101.2.2.1) (s + u101.2.2.2) (some (.int r.1), r.2.1, r.2.2.1, r.2.2.2)
                    refine mx_S.pu (pc2 := 290) (lv2 := [(0, .ref 2000000000), (1, .ref l1), (2, .ref l2), (3, .int l3)]) (st2 := [.ref l2, .int u101.1]) hm dL_law_289 rfl ?_
                    refine mx_S.pu (pc2 := 291) (lv2 := [(0, .ref 2000000000), (1, .ref l1), (2, .ref l2), (3, .int l3)]) (st2 := [.ref 2000000000, .ref l2, .int u101.1]) hm dL_law_290 rfl ?_
                    refine mx_S.pu (pc2 := 292) (lv2 := [(0, .ref 2000000000), (1, .ref l1), (2, .ref l2), (3, .int l3)]) (st2 := [.int l3, .ref 2000000000, .ref l2, .int u101.1]) hm dL_law_291 rfl ?_
                    refine sx_ic (v := 1) hm dL_law_292 (by decide) ?_
                    replace hf := xl_el hf; obtain ⟨v102, e_v102, hf⟩ := hf
                    refine mx_S.pu (pc2 := 294) (lv2 := [(0, .ref 2000000000), (1, .ref l1), (2, .ref l2), (3, .int l3)]) (st2 := [.int v102, .ref 2000000000, .ref l2, .int u101.1]) hm dL_law_293 (by rw [← e_v102]; rfl) ?_
                    clear e_v102
                    replace hf := mx_gd_el hf; obtain ⟨c103, hf⟩ := hf
                    replace hf := mx_sv_el hf; obtain ⟨v104, e_v104, hf⟩ := hf
                    refine sx_sc hm dL_law_294 (xno_el c103) e_v104 ?_
                    clear e_v104
                    replace hf := mx_gd_el hf; obtain ⟨c105, hf⟩ := hf
                    replace hf := mx_sv_el hf; obtain ⟨u106, e_u106, hf⟩ := hf
                    refine sx_cv hm dL_law_295 rs_RL_45 mt_X13_keep [.int v104] [.int u101.1] (b := l2) (ci := 13) rfl rfl rfl c105 (Nat.le_of_ble_eq_true rfl) (Nat.le_of_ble_eq_true rfl) (by omega) (by omega) (f_X13_keep_ok X (by omega) (by omega) nn l2 v104 u101.2.1 e_u106) ?_
                    clear e_u106
                    show mx_S X F L 0 298 [(0, .ref 2000000000), (1, .ref l1), (2, .ref l2), (3, .int l3)] [.int u106.1, .int u101.1] u106.2 (c + u101.2.2.1) (s + u101.2.2.2) (some (.int r.1), r.2.1, r.2.2.1, r.2.2.2)
                    rcases mx_if_el hf with ⟨c108, hf⟩ | ⟨c108, hf⟩
                    · refine sb_ic_eq hm dL_law_298 (tgt := 528) rfl (fun _ => ?_) (fun z => absurd c108 z)
                      replace hf := xl_el hf; obtain ⟨v107, e_v107, hf⟩ := hf
                      refine mx_S.pu (pc2 := 531) (lv2 := [(3, .int v107), (0, .ref 2000000000), (1, .ref l1), (2, .ref l2)]) (st2 := []) hm dL_law_528 (by rw [← e_v107]; rfl) ?_
                      clear e_v107
                      refine mx_S.pu (pc2 := 18) (lv2 := [(3, .int v107), (0, .ref 2000000000), (1, .ref l1), (2, .ref l2)]) (st2 := []) hm dL_law_531 rfl ?_
                      refine mx_S.ext [(0, .ref 2000000000), (1, .ref l1), (2, .ref l2), (3, .int v107)] (mx_sub_pos [1, 2, 3, 0] rfl (show ([3, 0, 1, 2] : List Nat).Nodup by decide)) ?_
                      exact ih l1 l2 v107 u106.2 (c + u101.2.2.1) (s + u101.2.2.2) _ hf
                    · refine sb_ic_eq hm dL_law_298 (tgt := 528) rfl (fun z => absurd z c108) (fun _ => ?_)
                      refine sx_ic (v := 0) hm dL_law_301 (by decide) ?_
                      cases hf
                      exact sx_ire hm dL_law_302 rfl (by decide)
                  · rcases mx_if_el hf with ⟨n_7, hf⟩ | ⟨n_7, hf⟩
                    · refine sx_tin hm dL_law_33 (by rw [n_7]; decide) (by rw [n_7]; decide) (off := 270) (by rw [n_7]; rfl) (tgt := 303) rfl ?_
                      clear n_0 n_1 n_2 n_3 n_4 n_5 n_6 n_7
                      refine mx_S.pu (pc2 := 304) (lv2 := [(0, .ref 2000000000), (1, .ref l1), (2, .ref l2), (3, .int l3)]) (st2 := [.ref l1]) hm dL_law_303 rfl ?_
                      refine mx_S.pu (pc2 := 305) (lv2 := [(0, .ref 2000000000), (1, .ref l1), (2, .ref l2), (3, .int l3)]) (st2 := [.ref 2000000000, .ref l1]) hm dL_law_304 rfl ?_
                      refine mx_S.pu (pc2 := 306) (lv2 := [(0, .ref 2000000000), (1, .ref l1), (2, .ref l2), (3, .int l3)]) (st2 := [.int l3, .ref 2000000000, .ref l1]) hm dL_law_305 rfl ?_
                      refine sx_ic (v := 1) hm dL_law_306 (by decide) ?_
                      replace hf := xl_el hf; obtain ⟨v109, e_v109, hf⟩ := hf
                      refine mx_S.pu (pc2 := 308) (lv2 := [(0, .ref 2000000000), (1, .ref l1), (2, .ref l2), (3, .int l3)]) (st2 := [.int v109, .ref 2000000000, .ref l1]) hm dL_law_307 (by rw [← e_v109]; rfl) ?_
                      clear e_v109
                      replace hf := mx_gd_el hf; obtain ⟨c110, hf⟩ := hf
                      replace hf := mx_sv_el hf; obtain ⟨v111, e_v111, hf⟩ := hf
                      refine sx_sc hm dL_law_308 (xno_el c110) e_v111 ?_
                      clear e_v111
                      refine mx_S.pu (pc2 := 310) (lv2 := [(0, .ref 2000000000), (1, .ref l1), (2, .ref l2), (3, .int l3)]) (st2 := [.ref 2000000000, .int v111, .ref l1]) hm dL_law_309 rfl ?_
                      refine mx_S.pu (pc2 := 311) (lv2 := [(0, .ref 2000000000), (1, .ref l1), (2, .ref l2), (3, .int l3)]) (st2 := [.int l3, .ref 2000000000, .int v111, .ref l1]) hm dL_law_310 rfl ?_
                      refine sx_ic (v := 2) hm dL_law_311 (by decide) ?_
                      replace hf := xl_el hf; obtain ⟨v112, e_v112, hf⟩ := hf
                      refine mx_S.pu (pc2 := 313) (lv2 := [(0, .ref 2000000000), (1, .ref l1), (2, .ref l2), (3, .int l3)]) (st2 := [.int v112, .ref 2000000000, .int v111, .ref l1]) hm dL_law_312 (by rw [← e_v112]; rfl) ?_
                      clear e_v112
                      replace hf := mx_gd_el hf; obtain ⟨c113, hf⟩ := hf
                      replace hf := mx_sv_el hf; obtain ⟨v114, e_v114, hf⟩ := hf
                      refine sx_sc hm dL_law_313 (xno_el c113) e_v114 ?_
                      clear e_v114
                      refine mx_S.pu (pc2 := 315) (lv2 := [(0, .ref 2000000000), (1, .ref l1), (2, .ref l2), (3, .int l3)]) (st2 := [.ref 2000000000, .int v114, .int v111, .ref l1]) hm dL_law_314 rfl ?_
                      refine mx_S.pu (pc2 := 316) (lv2 := [(0, .ref 2000000000), (1, .ref l1), (2, .ref l2), (3, .int l3)]) (st2 := [.int l3, .ref 2000000000, .int v114, .int v111, .ref l1]) hm dL_law_315 rfl ?_
                      refine sx_ic (v := 3) hm dL_law_316 (by decide) ?_
                      replace hf := xl_el hf; obtain ⟨v115, e_v115, hf⟩ := hf
                      refine mx_S.pu (pc2 := 318) (lv2 := [(0, .ref 2000000000), (1, .ref l1), (2, .ref l2), (3, .int l3)]) (st2 := [.int v115, .ref 2000000000, .int v114, .int v111, .ref l1]) hm dL_law_317 (by rw [← e_v115]; rfl) ?_
                      clear e_v115
                      replace hf := mx_gd_el hf; obtain ⟨c116, hf⟩ := hf
                      replace hf := mx_sv_el hf; obtain ⟨v117, e_v117, hf⟩ := hf
                      refine sx_sc hm dL_law_318 (xno_el c116) e_v117 ?_
                      clear e_v117
                      replace hf := mx_gd_el hf; obtain ⟨c118, hf⟩ := hf
                      replace hf := mx_sv_el hf; obtain ⟨u119, e_u119, hf⟩ := hf
                      refine sx_cv hm dL_law_319 rs_RL_46 mt_X12_patch [.int v111, .int v114, .int v117] [] (b := l1) (ci := 12) rfl rfl rfl c118 (Nat.le_of_ble_eq_true rfl) (Nat.le_of_ble_eq_true rfl) (by omega) (by omega) (f_X12_patch_ok X (by omega) (by omega) nn l1 v111 v114 v117 h e_u119) ?_
                      clear e_u119
                      show mx_S X F L 0 322 [(0, .ref 2000000000), (1, .ref l1), (2, .ref l2), (3, .int l3)] [.int u119.1] u119.2 c s (some (.int r.1), r.2.1, r.2.2.1, r.2.2.2)
                      refine mx_S.pu (pc2 := 323) (lv2 := [(0, .ref 2000000000), (1, .ref l1), (2, .ref l2), (3, .int l3)]) (st2 := [.ref l2, .int u119.1]) hm dL_law_322 rfl ?_
                      refine mx_S.pu (pc2 := 324) (lv2 := [(0, .ref 2000000000), (1, .ref l1), (2, .ref l2), (3, .int l3)]) (st2 := [.ref 2000000000, .ref l2, .int u119.1]) hm dL_law_323 rfl ?_
                      refine mx_S.pu (pc2 := 325) (lv2 := [(0, .ref 2000000000), (1, .ref l1), (2, .ref l2), (3, .int l3)]) (st2 := [.int l3, .ref 2000000000, .ref l2, .int u119.1]) hm dL_law_324 rfl ?_
                      refine sx_ic (v := 1) hm dL_law_325 (by decide) ?_
                      replace hf := xl_el hf; obtain ⟨v120, e_v120, hf⟩ := hf
                      refine mx_S.pu (pc2 := 327) (lv2 := [(0, .ref 2000000000), (1, .ref l1), (2, .ref l2), (3, .int l3)]) (st2 := [.int v120, .ref 2000000000, .ref l2, .int u119.1]) hm dL_law_326 (by rw [← e_v120]; rfl) ?_
                      clear e_v120
                      replace hf := mx_gd_el hf; obtain ⟨c121, hf⟩ := hf
                      replace hf := mx_sv_el hf; obtain ⟨v122, e_v122, hf⟩ := hf
                      refine sx_sc hm dL_law_327 (xno_el c121) e_v122 ?_
                      clear e_v122
                      refine mx_S.pu (pc2 := 329) (lv2 := [(0, .ref 2000000000), (1, .ref l1), (2, .ref l2), (3, .int l3)]) (st2 := [.ref 2000000000, .int v122, .ref l2, .int u119.1]) hm dL_law_328 rfl ?_
                      refine mx_S.pu (pc2 := 330) (lv2 := [(0, .ref 2000000000), (1, .ref l1), (2, .ref l2), (3, .int l3)]) (st2 := [.int l3, .ref 2000000000, .int v122, .ref l2, .int u119.1]) hm dL_law_329 rfl ?_
                      refine sx_ic (v := 2) hm dL_law_330 (by decide) ?_
                      replace hf := xl_el hf; obtain ⟨v123, e_v123, hf⟩ := hf
                      refine mx_S.pu (pc2 := 332) (lv2 := [(0, .ref 2000000000), (1, .ref l1), (2, .ref l2), (3, .int l3)]) (st2 := [.int v123, .ref 2000000000, .int v122, .ref l2, .int u119.1]) hm dL_law_331 (by rw [← e_v123]; rfl) ?_
                      clear e_v123
                      replace hf := mx_gd_el hf; obtain ⟨c124, hf⟩ := hf
                      replace hf := mx_sv_el hf; obtain ⟨v125, e_v125, hf⟩ := hf
                      refine sx_sc hm dL_law_332 (xno_el c124) e_v125 ?_
                      clear e_v125
                      refine mx_S.pu (pc2 := 334) (lv2 := [(0, .ref 2000000000), (1, .ref l1), (2, .ref l2), (3, .int l3)]) (st2 := [.ref 2000000000, .int v125, .int v122, .ref l2, .int u119.1]) hm dL_law_333 rfl ?_
                      refine mx_S.pu (pc2 := 335) (lv2 := [(0, .ref 2000000000), (1, .ref l1), (2, .ref l2), (3, .int l3)]) (st2 := [.int l3, .ref 2000000000, .int v125, .int v122, .ref l2, .int u119.1]) hm dL_law_334 rfl ?_
                      refine sx_ic (v := 3) hm dL_law_335 (by decide) ?_
                      replace hf := xl_el hf; obtain ⟨v126, e_v126, hf⟩ := hf
                      refine mx_S.pu (pc2 := 337) (lv2 := [(0, .ref 2000000000), (1, .ref l1), (2, .ref l2), (3, .int l3)]) (st2 := [.int v126, .ref 2000000000, .int v125, .int v122, .ref l2, .int u119.1]) hm dL_law_336 (by rw [← e_v126]; rfl) ?_
                      clear e_v126
                      replace hf := mx_gd_el hf; obtain ⟨c127, hf⟩ := hf
                      replace hf := mx_sv_el hf; obtain ⟨v128, e_v128, hf⟩ := hf
                      refine sx_sc hm dL_law_337 (xno_el c127) e_v128 ?_
                      clear e_v128
                      replace hf := mx_gd_el hf; obtain ⟨c129, hf⟩ := hf
                      replace hf := mx_sv_el hf; obtain ⟨u130, e_u130, hf⟩ := hf
                      refine sx_cv hm dL_law_338 rs_RL_50 mt_X13_patch [.int v122, .int v125, .int v128] [.int u119.1] (b := l2) (ci := 13) rfl rfl rfl c129 (Nat.le_of_ble_eq_true rfl) (Nat.le_of_ble_eq_true rfl) (by omega) (by omega) (f_X13_patch_ok X (by omega) (by omega) nn l2 v122 v125 v128 u119.2 e_u130) ?_
                      clear e_u130
                      show mx_S X F L 0 341 [(0, .ref 2000000000), (1, .ref l1), (2, .ref l2), (3, .int l3)] [.int u130.1, .int u119.1] u130.2 c s (some (.int r.1), r.2.1, r.2.2.1, r.2.2.2)
                      rcases mx_if_el hf with ⟨c132, hf⟩ | ⟨c132, hf⟩
                      · refine sb_ic_eq hm dL_law_341 (tgt := 528) rfl (fun _ => ?_) (fun z => absurd c132 z)
                        replace hf := xl_el hf; obtain ⟨v131, e_v131, hf⟩ := hf
                        refine mx_S.pu (pc2 := 531) (lv2 := [(3, .int v131), (0, .ref 2000000000), (1, .ref l1), (2, .ref l2)]) (st2 := []) hm dL_law_528 (by rw [← e_v131]; rfl) ?_
                        clear e_v131
                        refine mx_S.pu (pc2 := 18) (lv2 := [(3, .int v131), (0, .ref 2000000000), (1, .ref l1), (2, .ref l2)]) (st2 := []) hm dL_law_531 rfl ?_
                        refine mx_S.ext [(0, .ref 2000000000), (1, .ref l1), (2, .ref l2), (3, .int v131)] (mx_sub_pos [1, 2, 3, 0] rfl (show ([3, 0, 1, 2] : List Nat).Nodup by decide)) ?_
                        exact ih l1 l2 v131 u130.2 c s _ hf
                      · refine sb_ic_eq hm dL_law_341 (tgt := 528) rfl (fun z => absurd z c132) (fun _ => ?_)
                        refine mx_S.ext [] (mx_sub_pos [] rfl (show ([0, 1, 2, 3] : List Nat).Nodup by decide)) ?_
                        exact j_L_law_344_ok X hF hL nn u130.2 c s hf
                    · rcases mx_if_el hf with ⟨n_8, hf⟩ | ⟨n_8, hf⟩
                      · refine sx_tin hm dL_law_33 (by rw [n_8]; decide) (by rw [n_8]; decide) (off := 313) (by rw [n_8]; rfl) (tgt := 346) rfl ?_
                        clear n_0 n_1 n_2 n_3 n_4 n_5 n_6 n_7 n_8
                        refine mx_S.pu (pc2 := 347) (lv2 := [(0, .ref 2000000000), (1, .ref l1), (2, .ref l2), (3, .int l3)]) (st2 := [.ref l1]) hm dL_law_346 rfl ?_
                        replace hf := mx_gd_el hf; obtain ⟨c133, hf⟩ := hf
                        replace hf := mx_sv_el hf; obtain ⟨u134, e_u134, hf⟩ := hf
                        refine sx_cv hm dL_law_347 rs_RL_51 mt_X12_clear [] [] (b := l1) (ci := 12) rfl rfl rfl c133 (Nat.le_of_ble_eq_true rfl) (Nat.le_of_ble_eq_true rfl) (by omega) (by omega) (f_X12_clear_ok X (by omega) (by omega) nn l1 h e_u134) ?_
                        clear e_u134
                        show mx_S X F L 0 350 [(0, .ref 2000000000), (1, .ref l1), (2, .ref l2), (3, .int l3)] [] u134 c s (some (.int r.1), r.2.1, r.2.2.1, r.2.2.2)
                        refine mx_S.pu (pc2 := 351) (lv2 := [(0, .ref 2000000000), (1, .ref l1), (2, .ref l2), (3, .int l3)]) (st2 := [.ref l2]) hm dL_law_350 rfl ?_
                        replace hf := mx_gd_el hf; obtain ⟨c135, hf⟩ := hf
                        replace hf := mx_sv_el hf; obtain ⟨u136, e_u136, hf⟩ := hf
                        refine sx_cv hm dL_law_351 rs_RL_54 mt_X13_clear [] [] (b := l2) (ci := 13) rfl rfl rfl c135 (Nat.le_of_ble_eq_true rfl) (Nat.le_of_ble_eq_true rfl) (by omega) (by omega) (f_X13_clear_ok X (by omega) (by omega) nn l2 u134 e_u136) ?_
                        clear e_u136
                        show mx_S X F L 0 354 [(0, .ref 2000000000), (1, .ref l1), (2, .ref l2), (3, .int l3)] [] u136 c s (some (.int r.1), r.2.1, r.2.2.1, r.2.2.2)
                        refine mx_S.pu (pc2 := 528) (lv2 := [(0, .ref 2000000000), (1, .ref l1), (2, .ref l2), (3, .int l3)]) (st2 := []) hm dL_law_354 rfl ?_
                        replace hf := xl_el hf; obtain ⟨v137, e_v137, hf⟩ := hf
                        refine mx_S.pu (pc2 := 531) (lv2 := [(3, .int v137), (0, .ref 2000000000), (1, .ref l1), (2, .ref l2)]) (st2 := []) hm dL_law_528 (by rw [← e_v137]; rfl) ?_
                        clear e_v137
                        refine mx_S.pu (pc2 := 18) (lv2 := [(3, .int v137), (0, .ref 2000000000), (1, .ref l1), (2, .ref l2)]) (st2 := []) hm dL_law_531 rfl ?_
                        refine mx_S.ext [(0, .ref 2000000000), (1, .ref l1), (2, .ref l2), (3, .int v137)] (mx_sub_pos [1, 2, 3, 0] rfl (show ([3, 0, 1, 2] : List Nat).Nodup by decide)) ?_
                        exact ih l1 l2 v137 u136 c s _ hf
                      · rcases mx_if_el hf with ⟨n_9, hf⟩ | ⟨n_9, hf⟩
                        · refine sx_tin hm dL_law_33 (by rw [n_9]; decide) (by rw [n_9]; decide) (off := 324) (by rw [n_9]; rfl) (tgt := 357) rfl ?_
                          clear n_0 n_1 n_2 n_3 n_4 n_5 n_6 n_7 n_8 n_9
                          refine mx_S.pu (pc2 := 358) (lv2 := [(0, .ref 2000000000), (1, .ref l1), (2, .ref l2), (3, .int l3)]) (st2 := [.ref l1]) hm dL_law_357 rfl ?_
                          replace hf := mx_gd_el hf; obtain ⟨c138, hf⟩ := hf
                          replace hf := mx_sv_el hf; obtain ⟨u139, e_u139, hf⟩ := hf
                          refine sx_cv hm dL_law_358 rs_RL_55 mt_X12_verify [] [] (b := l1) (ci := 12) rfl rfl rfl c138 (Nat.le_of_ble_eq_true rfl) (Nat.le_of_ble_eq_true rfl) (by omega) (by omega) (f_X12_verify_ok X (by omega) (by omega) nn l1 h e_u139) ?_
                          clear e_u139
                          show mx_S X F L 0 361 [(0, .ref 2000000000), (1, .ref l1), (2, .ref l2), (3, .int l3)] [.int u139.1] u139.2 c s (some (.int r.1), r.2.1, r.2.2.1, r.2.2.2)
                          refine mx_S.pu (pc2 := 362) (lv2 := [(0, .ref 2000000000), (1, .ref l1), (2, .ref l2), (3, .int l3)]) (st2 := [.ref l2, .int u139.1]) hm dL_law_361 rfl ?_
                          replace hf := mx_gd_el hf; obtain ⟨c140, hf⟩ := hf
                          replace hf := mx_sv_el hf; obtain ⟨u141, e_u141, hf⟩ := hf
                          refine sx_cv hm dL_law_362 rs_RL_58 mt_X13_verify [] [.int u139.1] (b := l2) (ci := 13) rfl rfl rfl c140 (Nat.le_of_ble_eq_true rfl) (Nat.le_of_ble_eq_true rfl) (by omega) (by omega) (f_X13_verify_ok X (by omega) (by omega) nn l2 u139.2 e_u141) ?_
                          clear e_u141
                          show mx_S X F L 0 365 [(0, .ref 2000000000), (1, .ref l1), (2, .ref l2), (3, .int l3)] [.int u141.1, .int u139.1] u141.2 c s (some (.int r.1), r.2.1, r.2.2.1, r.2.2.2)
                          rcases mx_if_el hf with ⟨c143, hf⟩ | ⟨c143, hf⟩
                          · refine sb_ic_eq hm dL_law_365 (tgt := 528) rfl (fun _ => ?_) (fun z => absurd c143 z)
                            replace hf := xl_el hf; obtain ⟨v142, e_v142, hf⟩ := hf
                            refine mx_S.pu (pc2 := 531) (lv2 := [(3, .int v142), (0, .ref 2000000000), (1, .ref l1), (2, .ref l2)]) (st2 := []) hm dL_law_528 (by rw [← e_v142]; rfl) ?_
                            clear e_v142
                            refine mx_S.pu (pc2 := 18) (lv2 := [(3, .int v142), (0, .ref 2000000000), (1, .ref l1), (2, .ref l2)]) (st2 := []) hm dL_law_531 rfl ?_
                            refine mx_S.ext [(0, .ref 2000000000), (1, .ref l1), (2, .ref l2), (3, .int v142)] (mx_sub_pos [1, 2, 3, 0] rfl (show ([3, 0, 1, 2] : List Nat).Nodup by decide)) ?_
                            exact ih l1 l2 v142 u141.2 c s _ hf
                          · refine sb_ic_eq hm dL_law_365 (tgt := 528) rfl (fun z => absurd z c143) (fun _ => ?_)
                            refine sx_ic (v := 0) hm dL_law_368 (by decide) ?_
                            cases hf
                            exact sx_ire hm dL_law_369 rfl (by decide)
                        · rcases mx_if_el hf with ⟨n_10, hf⟩ | ⟨n_10, hf⟩
                          · refine sx_tin hm dL_law_33 (by rw [n_10]; decide) (by rw [n_10]; decide) (off := 337) (by rw [n_10]; rfl) (tgt := 370) rfl ?_
                            clear n_0 n_1 n_2 n_3 n_4 n_5 n_6 n_7 n_8 n_9 n_10
                            refine mx_S.pu (pc2 := 371) (lv2 := [(0, .ref 2000000000), (1, .ref l1), (2, .ref l2), (3, .int l3)]) (st2 := [.ref l1]) hm dL_law_370 rfl ?_
                            refine mx_S.pu (pc2 := 372) (lv2 := [(0, .ref 2000000000), (1, .ref l1), (2, .ref l2), (3, .int l3)]) (st2 := [.ref 2000000000, .ref l1]) hm dL_law_371 rfl ?_
                            refine mx_S.pu (pc2 := 373) (lv2 := [(0, .ref 2000000000), (1, .ref l1), (2, .ref l2), (3, .int l3)]) (st2 := [.int l3, .ref 2000000000, .ref l1]) hm dL_law_372 rfl ?_
                            refine sx_ic (v := 1) hm dL_law_373 (by decide) ?_
                            replace hf := xl_el hf; obtain ⟨v144, e_v144, hf⟩ := hf
                            refine mx_S.pu (pc2 := 375) (lv2 := [(0, .ref 2000000000), (1, .ref l1), (2, .ref l2), (3, .int l3)]) (st2 := [.int v144, .ref 2000000000, .ref l1]) hm dL_law_374 (by rw [← e_v144]; rfl) ?_
                            clear e_v144
                            replace hf := mx_gd_el hf; obtain ⟨c145, hf⟩ := hf
                            replace hf := mx_sv_el hf; obtain ⟨v146, e_v146, hf⟩ := hf
                            refine sx_sc hm dL_law_375 (xno_el c145) e_v146 ?_
                            clear e_v146
                            replace hf := mx_gd_el hf; obtain ⟨c147, hf⟩ := hf
                            replace hf := mx_sv_el hf; obtain ⟨u148, e_u148, hf⟩ := hf
                            refine sx_cv hm dL_law_376 rs_RL_59 mt_X12_where [.int v146] [] (b := l1) (ci := 12) rfl rfl rfl c147 (Nat.le_of_ble_eq_true rfl) (Nat.le_of_ble_eq_true rfl) (by omega) (by omega) (f_X12_where_ok X (by omega) (by omega) nn l1 v146 h e_u148) ?_
                            clear e_u148
                            show mx_S X F L 0 379 [(0, .ref 2000000000), (1, .ref l1), (2, .ref l2), (3, .int l3)] [.int u148.1] u148.2 c s (some (.int r.1), r.2.1, r.2.2.1, r.2.2.2)
                            refine mx_S.pu (pc2 := 380) (lv2 := [(0, .ref 2000000000), (1, .ref l1), (2, .ref l2), (3, .int l3)]) (st2 := [.ref l2, .int u148.1]) hm dL_law_379 rfl ?_
                            refine mx_S.pu (pc2 := 381) (lv2 := [(0, .ref 2000000000), (1, .ref l1), (2, .ref l2), (3, .int l3)]) (st2 := [.ref 2000000000, .ref l2, .int u148.1]) hm dL_law_380 rfl ?_
                            refine mx_S.pu (pc2 := 382) (lv2 := [(0, .ref 2000000000), (1, .ref l1), (2, .ref l2), (3, .int l3)]) (st2 := [.int l3, .ref 2000000000, .ref l2, .int u148.1]) hm dL_law_381 rfl ?_
                            refine sx_ic (v := 1) hm dL_law_382 (by decide) ?_
                            replace hf := xl_el hf; obtain ⟨v149, e_v149, hf⟩ := hf
                            refine mx_S.pu (pc2 := 384) (lv2 := [(0, .ref 2000000000), (1, .ref l1), (2, .ref l2), (3, .int l3)]) (st2 := [.int v149, .ref 2000000000, .ref l2, .int u148.1]) hm dL_law_383 (by rw [← e_v149]; rfl) ?_
                            clear e_v149
                            replace hf := mx_gd_el hf; obtain ⟨c150, hf⟩ := hf
                            replace hf := mx_sv_el hf; obtain ⟨v151, e_v151, hf⟩ := hf
                            refine sx_sc hm dL_law_384 (xno_el c150) e_v151 ?_
                            clear e_v151
                            replace hf := mx_gd_el hf; obtain ⟨c152, hf⟩ := hf
                            replace hf := mx_sv_el hf; obtain ⟨u153, e_u153, hf⟩ := hf
                            refine sx_cv hm dL_law_385 rs_RL_62 mt_X13_where [.int v151] [.int u148.1] (b := l2) (ci := 13) rfl rfl rfl c152 (Nat.le_of_ble_eq_true rfl) (Nat.le_of_ble_eq_true rfl) (by omega) (by omega) (f_X13_where_ok X (by omega) (by omega) nn l2 v151 u148.2 e_u153) ?_
                            clear e_u153
                            show mx_S X F L 0 388 [(0, .ref 2000000000), (1, .ref l1), (2, .ref l2), (3, .int l3)] [.int u153.1, .int u148.1] u153.2 c s (some (.int r.1), r.2.1, r.2.2.1, r.2.2.2)
                            rcases mx_if_el hf with ⟨c155, hf⟩ | ⟨c155, hf⟩
                            · refine sb_ic_eq hm dL_law_388 (tgt := 528) rfl (fun _ => ?_) (fun z => absurd c155 z)
                              replace hf := xl_el hf; obtain ⟨v154, e_v154, hf⟩ := hf
                              refine mx_S.pu (pc2 := 531) (lv2 := [(3, .int v154), (0, .ref 2000000000), (1, .ref l1), (2, .ref l2)]) (st2 := []) hm dL_law_528 (by rw [← e_v154]; rfl) ?_
                              clear e_v154
                              refine mx_S.pu (pc2 := 18) (lv2 := [(3, .int v154), (0, .ref 2000000000), (1, .ref l1), (2, .ref l2)]) (st2 := []) hm dL_law_531 rfl ?_
                              refine mx_S.ext [(0, .ref 2000000000), (1, .ref l1), (2, .ref l2), (3, .int v154)] (mx_sub_pos [1, 2, 3, 0] rfl (show ([3, 0, 1, 2] : List Nat).Nodup by decide)) ?_
                              exact ih l1 l2 v154 u153.2 c s _ hf
                            · refine sb_ic_eq hm dL_law_388 (tgt := 528) rfl (fun z => absurd z c155) (fun _ => ?_)
                              refine sx_ic (v := 0) hm dL_law_391 (by decide) ?_
                              cases hf
                              exact sx_ire hm dL_law_392 rfl (by decide)
                          · rcases mx_if_el hf with ⟨n_11, hf⟩ | ⟨n_11, hf⟩
                            · refine sx_tin hm dL_law_33 (by rw [n_11]; decide) (by rw [n_11]; decide) (off := 360) (by rw [n_11]; rfl) (tgt := 393) rfl ?_
                              clear n_0 n_1 n_2 n_3 n_4 n_5 n_6 n_7 n_8 n_9 n_10 n_11
                              refine mx_S.pu (pc2 := 394) (lv2 := [(0, .ref 2000000000), (1, .ref l1), (2, .ref l2), (3, .int l3)]) (st2 := [.ref l1]) hm dL_law_393 rfl ?_
                              refine mx_S.pu (pc2 := 395) (lv2 := [(0, .ref 2000000000), (1, .ref l1), (2, .ref l2), (3, .int l3)]) (st2 := [.ref 2000000000, .ref l1]) hm dL_law_394 rfl ?_
                              refine mx_S.pu (pc2 := 396) (lv2 := [(0, .ref 2000000000), (1, .ref l1), (2, .ref l2), (3, .int l3)]) (st2 := [.int l3, .ref 2000000000, .ref l1]) hm dL_law_395 rfl ?_
                              refine sx_ic (v := 1) hm dL_law_396 (by decide) ?_
                              replace hf := xl_el hf; obtain ⟨v156, e_v156, hf⟩ := hf
                              refine mx_S.pu (pc2 := 398) (lv2 := [(0, .ref 2000000000), (1, .ref l1), (2, .ref l2), (3, .int l3)]) (st2 := [.int v156, .ref 2000000000, .ref l1]) hm dL_law_397 (by rw [← e_v156]; rfl) ?_
                              clear e_v156
                              replace hf := mx_gd_el hf; obtain ⟨c157, hf⟩ := hf
                              replace hf := mx_sv_el hf; obtain ⟨v158, e_v158, hf⟩ := hf
                              refine sx_sc hm dL_law_398 (xno_el c157) e_v158 ?_
                              clear e_v158
                              refine mx_S.pu (pc2 := 400) (lv2 := [(0, .ref 2000000000), (1, .ref l1), (2, .ref l2), (3, .int l3)]) (st2 := [.ref 2000000000, .int v158, .ref l1]) hm dL_law_399 rfl ?_
                              refine mx_S.pu (pc2 := 401) (lv2 := [(0, .ref 2000000000), (1, .ref l1), (2, .ref l2), (3, .int l3)]) (st2 := [.int l3, .ref 2000000000, .int v158, .ref l1]) hm dL_law_400 rfl ?_
                              refine sx_ic (v := 2) hm dL_law_401 (by decide) ?_
                              replace hf := xl_el hf; obtain ⟨v159, e_v159, hf⟩ := hf
                              refine mx_S.pu (pc2 := 403) (lv2 := [(0, .ref 2000000000), (1, .ref l1), (2, .ref l2), (3, .int l3)]) (st2 := [.int v159, .ref 2000000000, .int v158, .ref l1]) hm dL_law_402 (by rw [← e_v159]; rfl) ?_
                              clear e_v159
                              replace hf := mx_gd_el hf; obtain ⟨c160, hf⟩ := hf
                              replace hf := mx_sv_el hf; obtain ⟨v161, e_v161, hf⟩ := hf
                              refine sx_sc hm dL_law_403 (xno_el c160) e_v161 ?_
                              clear e_v161
                              replace hf := mx_gd_el hf; obtain ⟨c162, hf⟩ := hf
                              replace hf := mx_sv_el hf; obtain ⟨u163, e_u163, hf⟩ := hf
                              refine sx_cv hm dL_law_404 rs_RL_63 mt_X12_start [.int v158, .int v161] [] (b := l1) (ci := 12) rfl rfl rfl c162 (Nat.le_of_ble_eq_true rfl) (Nat.le_of_ble_eq_true rfl) (by omega) (by omega) (f_X12_start_ok X (by omega) (by omega) nn l1 v158 v161 h e_u163) ?_
                              clear e_u163
                              show mx_S X F L 0 407 [(0, .ref 2000000000), (1, .ref l1), (2, .ref l2), (3, .int l3)] [.int u163.1] u163.2 c s (some (.int r.1), r.2.1, r.2.2.1, r.2.2.2)
                              refine mx_S.pu (pc2 := 408) (lv2 := [(0, .ref 2000000000), (1, .ref l1), (2, .ref l2), (3, .int l3)]) (st2 := [.ref l2, .int u163.1]) hm dL_law_407 rfl ?_
                              refine mx_S.pu (pc2 := 409) (lv2 := [(0, .ref 2000000000), (1, .ref l1), (2, .ref l2), (3, .int l3)]) (st2 := [.ref 2000000000, .ref l2, .int u163.1]) hm dL_law_408 rfl ?_
                              refine mx_S.pu (pc2 := 410) (lv2 := [(0, .ref 2000000000), (1, .ref l1), (2, .ref l2), (3, .int l3)]) (st2 := [.int l3, .ref 2000000000, .ref l2, .int u163.1]) hm dL_law_409 rfl ?_
                              refine sx_ic (v := 1) hm dL_law_410 (by decide) ?_
                              replace hf := xl_el hf; obtain ⟨v164, e_v164, hf⟩ := hf
                              refine mx_S.pu (pc2 := 412) (lv2 := [(0, .ref 2000000000), (1, .ref l1), (2, .ref l2), (3, .int l3)]) (st2 := [.int v164, .ref 2000000000, .ref l2, .int u163.1]) hm dL_law_411 (by rw [← e_v164]; rfl) ?_
                              clear e_v164
                              replace hf := mx_gd_el hf; obtain ⟨c165, hf⟩ := hf
                              replace hf := mx_sv_el hf; obtain ⟨v166, e_v166, hf⟩ := hf
                              refine sx_sc hm dL_law_412 (xno_el c165) e_v166 ?_
                              clear e_v166
                              refine mx_S.pu (pc2 := 414) (lv2 := [(0, .ref 2000000000), (1, .ref l1), (2, .ref l2), (3, .int l3)]) (st2 := [.ref 2000000000, .int v166, .ref l2, .int u163.1]) hm dL_law_413 rfl ?_
                              refine mx_S.pu (pc2 := 415) (lv2 := [(0, .ref 2000000000), (1, .ref l1), (2, .ref l2), (3, .int l3)]) (st2 := [.int l3, .ref 2000000000, .int v166, .ref l2, .int u163.1]) hm dL_law_414 rfl ?_
                              refine sx_ic (v := 2) hm dL_law_415 (by decide) ?_
                              replace hf := xl_el hf; obtain ⟨v167, e_v167, hf⟩ := hf
                              refine mx_S.pu (pc2 := 417) (lv2 := [(0, .ref 2000000000), (1, .ref l1), (2, .ref l2), (3, .int l3)]) (st2 := [.int v167, .ref 2000000000, .int v166, .ref l2, .int u163.1]) hm dL_law_416 (by rw [← e_v167]; rfl) ?_
                              clear e_v167
                              replace hf := mx_gd_el hf; obtain ⟨c168, hf⟩ := hf
                              replace hf := mx_sv_el hf; obtain ⟨v169, e_v169, hf⟩ := hf
                              refine sx_sc hm dL_law_417 (xno_el c168) e_v169 ?_
                              clear e_v169
                              replace hf := mx_gd_el hf; obtain ⟨c170, hf⟩ := hf
                              replace hf := mx_sv_el hf; obtain ⟨u171, e_u171, hf⟩ := hf
                              refine sx_cv hm dL_law_418 rs_RL_67 mt_X13_start [.int v166, .int v169] [.int u163.1] (b := l2) (ci := 13) rfl rfl rfl c170 (Nat.le_of_ble_eq_true rfl) (Nat.le_of_ble_eq_true rfl) (by omega) (by omega) (f_X13_start_ok X (by omega) (by omega) nn l2 v166 v169 u163.2 e_u171) ?_
                              clear e_u171
                              show mx_S X F L 0 421 [(0, .ref 2000000000), (1, .ref l1), (2, .ref l2), (3, .int l3)] [.int u171.1, .int u163.1] u171.2 c s (some (.int r.1), r.2.1, r.2.2.1, r.2.2.2)
                              rcases mx_if_el hf with ⟨c173, hf⟩ | ⟨c173, hf⟩
                              · refine sb_ic_eq hm dL_law_421 (tgt := 528) rfl (fun _ => ?_) (fun z => absurd c173 z)
                                replace hf := xl_el hf; obtain ⟨v172, e_v172, hf⟩ := hf
                                refine mx_S.pu (pc2 := 531) (lv2 := [(3, .int v172), (0, .ref 2000000000), (1, .ref l1), (2, .ref l2)]) (st2 := []) hm dL_law_528 (by rw [← e_v172]; rfl) ?_
                                clear e_v172
                                refine mx_S.pu (pc2 := 18) (lv2 := [(3, .int v172), (0, .ref 2000000000), (1, .ref l1), (2, .ref l2)]) (st2 := []) hm dL_law_531 rfl ?_
                                refine mx_S.ext [(0, .ref 2000000000), (1, .ref l1), (2, .ref l2), (3, .int v172)] (mx_sub_pos [1, 2, 3, 0] rfl (show ([3, 0, 1, 2] : List Nat).Nodup by decide)) ?_
                                exact ih l1 l2 v172 u171.2 c s _ hf
                              · refine sb_ic_eq hm dL_law_421 (tgt := 528) rfl (fun z => absurd z c173) (fun _ => ?_)
                                refine sx_ic (v := 0) hm dL_law_424 (by decide) ?_
                                cases hf
                                exact sx_ire hm dL_law_425 rfl (by decide)
                            · rcases mx_if_el hf with ⟨n_12, hf⟩ | ⟨n_12, hf⟩
                              · refine sx_tin hm dL_law_33 (by rw [n_12]; decide) (by rw [n_12]; decide) (off := 393) (by rw [n_12]; rfl) (tgt := 426) rfl ?_
                                clear n_0 n_1 n_2 n_3 n_4 n_5 n_6 n_7 n_8 n_9 n_10 n_11 n_12
                                refine mx_S.pu (pc2 := 427) (lv2 := [(0, .ref 2000000000), (1, .ref l1), (2, .ref l2), (3, .int l3)]) (st2 := [.ref l1]) hm dL_law_426 rfl ?_
                                refine mx_S.pu (pc2 := 428) (lv2 := [(0, .ref 2000000000), (1, .ref l1), (2, .ref l2), (3, .int l3)]) (st2 := [.ref 2000000000, .ref l1]) hm dL_law_427 rfl ?_
                                refine mx_S.pu (pc2 := 429) (lv2 := [(0, .ref 2000000000), (1, .ref l1), (2, .ref l2), (3, .int l3)]) (st2 := [.int l3, .ref 2000000000, .ref l1]) hm dL_law_428 rfl ?_
                                refine sx_ic (v := 1) hm dL_law_429 (by decide) ?_
                                replace hf := xl_el hf; obtain ⟨v174, e_v174, hf⟩ := hf
                                refine mx_S.pu (pc2 := 431) (lv2 := [(0, .ref 2000000000), (1, .ref l1), (2, .ref l2), (3, .int l3)]) (st2 := [.int v174, .ref 2000000000, .ref l1]) hm dL_law_430 (by rw [← e_v174]; rfl) ?_
                                clear e_v174
                                replace hf := mx_gd_el hf; obtain ⟨c175, hf⟩ := hf
                                replace hf := mx_sv_el hf; obtain ⟨v176, e_v176, hf⟩ := hf
                                refine sx_sc hm dL_law_431 (xno_el c175) e_v176 ?_
                                clear e_v176
                                replace hf := mx_gd_el hf; obtain ⟨c177, hf⟩ := hf
                                replace hf := mx_sv_el hf; obtain ⟨u178, e_u178, hf⟩ := hf
                                refine sx_cv hm dL_law_432 rs_RL_68 mt_X12_run [.int v176] [] (b := l1) (ci := 12) rfl rfl rfl c177 (Nat.le_of_ble_eq_true rfl) (Nat.le_of_ble_eq_true rfl) (by omega) (by omega) (f_X12_run_ok X (by omega) (by omega) nn l1 v176 h e_u178) ?_
                                clear e_u178
                                show mx_S X F L 0 435 [(0, .ref 2000000000), (1, .ref l1), (2, .ref l2), (3, .int l3)] [.int u178.1] u178.2 c s (some (.int r.1), r.2.1, r.2.2.1, r.2.2.2)
                                refine mx_S.pu (pc2 := 436) (lv2 := [(0, .ref 2000000000), (1, .ref l1), (2, .ref l2), (3, .int l3)]) (st2 := [.ref l2, .int u178.1]) hm dL_law_435 rfl ?_
                                refine mx_S.pu (pc2 := 437) (lv2 := [(0, .ref 2000000000), (1, .ref l1), (2, .ref l2), (3, .int l3)]) (st2 := [.ref 2000000000, .ref l2, .int u178.1]) hm dL_law_436 rfl ?_
                                refine mx_S.pu (pc2 := 438) (lv2 := [(0, .ref 2000000000), (1, .ref l1), (2, .ref l2), (3, .int l3)]) (st2 := [.int l3, .ref 2000000000, .ref l2, .int u178.1]) hm dL_law_437 rfl ?_
                                refine sx_ic (v := 1) hm dL_law_438 (by decide) ?_
                                replace hf := xl_el hf; obtain ⟨v179, e_v179, hf⟩ := hf
                                refine mx_S.pu (pc2 := 440) (lv2 := [(0, .ref 2000000000), (1, .ref l1), (2, .ref l2), (3, .int l3)]) (st2 := [.int v179, .ref 2000000000, .ref l2, .int u178.1]) hm dL_law_439 (by rw [← e_v179]; rfl) ?_
                                clear e_v179
                                replace hf := mx_gd_el hf; obtain ⟨c180, hf⟩ := hf
                                replace hf := mx_sv_el hf; obtain ⟨v181, e_v181, hf⟩ := hf
                                refine sx_sc hm dL_law_440 (xno_el c180) e_v181 ?_
                                clear e_v181
                                replace hf := mx_gd_el hf; obtain ⟨c182, hf⟩ := hf
                                replace hf := mx_sv_el hf; obtain ⟨u183, e_u183, hf⟩ := hf
                                refine sx_cv hm dL_law_441 rs_RL_71 mt_X13_run [.int v181] [.int u178.1] (b := l2) (ci := 13) rfl rfl rfl c182 (Nat.le_of_ble_eq_true rfl) (Nat.le_of_ble_eq_true rfl) (by omega) (by omega) (f_X13_run_ok X (by omega) (by omega) nn l2 v181 u178.2 e_u183) ?_
                                clear e_u183
                                show mx_S X F L 0 444 [(0, .ref 2000000000), (1, .ref l1), (2, .ref l2), (3, .int l3)] [.int u183.1, .int u178.1] u183.2 c s (some (.int r.1), r.2.1, r.2.2.1, r.2.2.2)
                                rcases mx_if_el hf with ⟨c185, hf⟩ | ⟨c185, hf⟩
                                · refine sb_ic_eq hm dL_law_444 (tgt := 528) rfl (fun _ => ?_) (fun z => absurd c185 z)
                                  replace hf := xl_el hf; obtain ⟨v184, e_v184, hf⟩ := hf
                                  refine mx_S.pu (pc2 := 531) (lv2 := [(3, .int v184), (0, .ref 2000000000), (1, .ref l1), (2, .ref l2)]) (st2 := []) hm dL_law_528 (by rw [← e_v184]; rfl) ?_
                                  clear e_v184
                                  refine mx_S.pu (pc2 := 18) (lv2 := [(3, .int v184), (0, .ref 2000000000), (1, .ref l1), (2, .ref l2)]) (st2 := []) hm dL_law_531 rfl ?_
                                  refine mx_S.ext [(0, .ref 2000000000), (1, .ref l1), (2, .ref l2), (3, .int v184)] (mx_sub_pos [1, 2, 3, 0] rfl (show ([3, 0, 1, 2] : List Nat).Nodup by decide)) ?_
                                  exact ih l1 l2 v184 u183.2 c s _ hf
                                · refine sb_ic_eq hm dL_law_444 (tgt := 528) rfl (fun z => absurd z c185) (fun _ => ?_)
                                  refine sx_ic (v := 0) hm dL_law_447 (by decide) ?_
                                  cases hf
                                  exact sx_ire hm dL_law_448 rfl (by decide)
                              · rcases mx_if_el hf with ⟨n_13, hf⟩ | ⟨n_13, hf⟩
                                · refine sx_tin hm dL_law_33 (by rw [n_13]; decide) (by rw [n_13]; decide) (off := 416) (by rw [n_13]; rfl) (tgt := 449) rfl ?_
                                  clear n_0 n_1 n_2 n_3 n_4 n_5 n_6 n_7 n_8 n_9 n_10 n_11 n_12 n_13
                                  refine mx_S.pu (pc2 := 450) (lv2 := [(0, .ref 2000000000), (1, .ref l1), (2, .ref l2), (3, .int l3)]) (st2 := [.ref l1]) hm dL_law_449 rfl ?_
                                  refine mx_S.pu (pc2 := 451) (lv2 := [(0, .ref 2000000000), (1, .ref l1), (2, .ref l2), (3, .int l3)]) (st2 := [.ref 2000000000, .ref l1]) hm dL_law_450 rfl ?_
                                  refine mx_S.pu (pc2 := 452) (lv2 := [(0, .ref 2000000000), (1, .ref l1), (2, .ref l2), (3, .int l3)]) (st2 := [.int l3, .ref 2000000000, .ref l1]) hm dL_law_451 rfl ?_
                                  refine sx_ic (v := 1) hm dL_law_452 (by decide) ?_
                                  replace hf := xl_el hf; obtain ⟨v186, e_v186, hf⟩ := hf
                                  refine mx_S.pu (pc2 := 454) (lv2 := [(0, .ref 2000000000), (1, .ref l1), (2, .ref l2), (3, .int l3)]) (st2 := [.int v186, .ref 2000000000, .ref l1]) hm dL_law_453 (by rw [← e_v186]; rfl) ?_
                                  clear e_v186
                                  replace hf := mx_gd_el hf; obtain ⟨c187, hf⟩ := hf
                                  replace hf := mx_sv_el hf; obtain ⟨v188, e_v188, hf⟩ := hf
                                  refine sx_sc hm dL_law_454 (xno_el c187) e_v188 ?_
                                  clear e_v188
                                  replace hf := mx_gd_el hf; obtain ⟨c189, hf⟩ := hf
                                  replace hf := mx_sv_el hf; obtain ⟨u190, e_u190, hf⟩ := hf
                                  refine sx_cv hm dL_law_455 rs_RL_72 mt_X12_look [.int v188] [] (b := l1) (ci := 12) rfl rfl rfl c189 (Nat.le_of_ble_eq_true rfl) (Nat.le_of_ble_eq_true rfl) (by omega) (by omega) (f_X12_look_ok X (by omega) (by omega) nn l1 v188 h e_u190) ?_
                                  clear e_u190
                                  show mx_S X F L 0 458 [(0, .ref 2000000000), (1, .ref l1), (2, .ref l2), (3, .int l3)] [.int u190.1] u190.2 c s (some (.int r.1), r.2.1, r.2.2.1, r.2.2.2)
                                  refine mx_S.pu (pc2 := 459) (lv2 := [(0, .ref 2000000000), (1, .ref l1), (2, .ref l2), (3, .int l3)]) (st2 := [.ref l2, .int u190.1]) hm dL_law_458 rfl ?_
                                  refine mx_S.pu (pc2 := 460) (lv2 := [(0, .ref 2000000000), (1, .ref l1), (2, .ref l2), (3, .int l3)]) (st2 := [.ref 2000000000, .ref l2, .int u190.1]) hm dL_law_459 rfl ?_
                                  refine mx_S.pu (pc2 := 461) (lv2 := [(0, .ref 2000000000), (1, .ref l1), (2, .ref l2), (3, .int l3)]) (st2 := [.int l3, .ref 2000000000, .ref l2, .int u190.1]) hm dL_law_460 rfl ?_
                                  refine sx_ic (v := 1) hm dL_law_461 (by decide) ?_
                                  replace hf := xl_el hf; obtain ⟨v191, e_v191, hf⟩ := hf
                                  refine mx_S.pu (pc2 := 463) (lv2 := [(0, .ref 2000000000), (1, .ref l1), (2, .ref l2), (3, .int l3)]) (st2 := [.int v191, .ref 2000000000, .ref l2, .int u190.1]) hm dL_law_462 (by rw [← e_v191]; rfl) ?_
                                  clear e_v191
                                  replace hf := mx_gd_el hf; obtain ⟨c192, hf⟩ := hf
                                  replace hf := mx_sv_el hf; obtain ⟨v193, e_v193, hf⟩ := hf
                                  refine sx_sc hm dL_law_463 (xno_el c192) e_v193 ?_
                                  clear e_v193
                                  replace hf := mx_gd_el hf; obtain ⟨c194, hf⟩ := hf
                                  replace hf := mx_sv_el hf; obtain ⟨u195, e_u195, hf⟩ := hf
                                  refine sx_cv hm dL_law_464 rs_RL_75 mt_X13_look [.int v193] [.int u190.1] (b := l2) (ci := 13) rfl rfl rfl c194 (Nat.le_of_ble_eq_true rfl) (Nat.le_of_ble_eq_true rfl) (by omega) (by omega) (f_X13_look_ok X (by omega) (by omega) nn l2 v193 u190.2 e_u195) ?_
                                  clear e_u195
                                  show mx_S X F L 0 467 [(0, .ref 2000000000), (1, .ref l1), (2, .ref l2), (3, .int l3)] [.int u195.1, .int u190.1] u195.2 c s (some (.int r.1), r.2.1, r.2.2.1, r.2.2.2)
                                  rcases mx_if_el hf with ⟨c197, hf⟩ | ⟨c197, hf⟩
                                  · refine sb_ic_eq hm dL_law_467 (tgt := 528) rfl (fun _ => ?_) (fun z => absurd c197 z)
                                    replace hf := xl_el hf; obtain ⟨v196, e_v196, hf⟩ := hf
                                    refine mx_S.pu (pc2 := 531) (lv2 := [(3, .int v196), (0, .ref 2000000000), (1, .ref l1), (2, .ref l2)]) (st2 := []) hm dL_law_528 (by rw [← e_v196]; rfl) ?_
                                    clear e_v196
                                    refine mx_S.pu (pc2 := 18) (lv2 := [(3, .int v196), (0, .ref 2000000000), (1, .ref l1), (2, .ref l2)]) (st2 := []) hm dL_law_531 rfl ?_
                                    refine mx_S.ext [(0, .ref 2000000000), (1, .ref l1), (2, .ref l2), (3, .int v196)] (mx_sub_pos [1, 2, 3, 0] rfl (show ([3, 0, 1, 2] : List Nat).Nodup by decide)) ?_
                                    exact ih l1 l2 v196 u195.2 c s _ hf
                                  · refine sb_ic_eq hm dL_law_467 (tgt := 528) rfl (fun z => absurd z c197) (fun _ => ?_)
                                    refine mx_S.ext [] (mx_sub_pos [] rfl (show ([0, 1, 2, 3] : List Nat).Nodup by decide)) ?_
                                    exact j_L_law_470_ok X hF hL nn u195.2 c s hf
                                · rcases mx_if_el hf with ⟨n_14, hf⟩ | ⟨n_14, hf⟩
                                  · refine sx_tin hm dL_law_33 (by rw [n_14]; decide) (by rw [n_14]; decide) (off := 439) (by rw [n_14]; rfl) (tgt := 472) rfl ?_
                                    clear n_0 n_1 n_2 n_3 n_4 n_5 n_6 n_7 n_8 n_9 n_10 n_11 n_12 n_13 n_14
                                    refine mx_S.pu (pc2 := 473) (lv2 := [(0, .ref 2000000000), (1, .ref l1), (2, .ref l2), (3, .int l3)]) (st2 := [.ref l1]) hm dL_law_472 rfl ?_
                                    refine mx_S.pu (pc2 := 474) (lv2 := [(0, .ref 2000000000), (1, .ref l1), (2, .ref l2), (3, .int l3)]) (st2 := [.ref 2000000000, .ref l1]) hm dL_law_473 rfl ?_
                                    refine mx_S.pu (pc2 := 475) (lv2 := [(0, .ref 2000000000), (1, .ref l1), (2, .ref l2), (3, .int l3)]) (st2 := [.int l3, .ref 2000000000, .ref l1]) hm dL_law_474 rfl ?_
                                    refine sx_ic (v := 1) hm dL_law_475 (by decide) ?_
                                    replace hf := xl_el hf; obtain ⟨v198, e_v198, hf⟩ := hf
                                    refine mx_S.pu (pc2 := 477) (lv2 := [(0, .ref 2000000000), (1, .ref l1), (2, .ref l2), (3, .int l3)]) (st2 := [.int v198, .ref 2000000000, .ref l1]) hm dL_law_476 (by rw [← e_v198]; rfl) ?_
                                    clear e_v198
                                    replace hf := mx_gd_el hf; obtain ⟨c199, hf⟩ := hf
                                    replace hf := mx_sv_el hf; obtain ⟨v200, e_v200, hf⟩ := hf
                                    refine sx_sc hm dL_law_477 (xno_el c199) e_v200 ?_
                                    clear e_v200
                                    replace hf := mx_gd_el hf; obtain ⟨c201, hf⟩ := hf
                                    replace hf := mx_sv_el hf; obtain ⟨u202, e_u202, hf⟩ := hf
                                    refine sx_cv hm dL_law_478 rs_RL_76 mt_X12_out [.int v200] [] (b := l1) (ci := 12) rfl rfl rfl c201 (Nat.le_of_ble_eq_true rfl) (Nat.le_of_ble_eq_true rfl) (by omega) (by omega) (f_X12_out_ok X (by omega) (by omega) nn l1 v200 h e_u202) ?_
                                    clear e_u202
                                    show mx_S X F L 0 481 [(0, .ref 2000000000), (1, .ref l1), (2, .ref l2), (3, .int l3)] [.int u202.1] u202.2 c s (some (.int r.1), r.2.1, r.2.2.1, r.2.2.2)
                                    refine mx_S.pu (pc2 := 482) (lv2 := [(0, .ref 2000000000), (1, .ref l1), (2, .ref l2), (3, .int l3)]) (st2 := [.ref l2, .int u202.1]) hm dL_law_481 rfl ?_
                                    refine mx_S.pu (pc2 := 483) (lv2 := [(0, .ref 2000000000), (1, .ref l1), (2, .ref l2), (3, .int l3)]) (st2 := [.ref 2000000000, .ref l2, .int u202.1]) hm dL_law_482 rfl ?_
                                    refine mx_S.pu (pc2 := 484) (lv2 := [(0, .ref 2000000000), (1, .ref l1), (2, .ref l2), (3, .int l3)]) (st2 := [.int l3, .ref 2000000000, .ref l2, .int u202.1]) hm dL_law_483 rfl ?_
                                    refine sx_ic (v := 1) hm dL_law_484 (by decide) ?_
                                    replace hf := xl_el hf; obtain ⟨v203, e_v203, hf⟩ := hf
                                    refine mx_S.pu (pc2 := 486) (lv2 := [(0, .ref 2000000000), (1, .ref l1), (2, .ref l2), (3, .int l3)]) (st2 := [.int v203, .ref 2000000000, .ref l2, .int u202.1]) hm dL_law_485 (by rw [← e_v203]; rfl) ?_
                                    clear e_v203
                                    replace hf := mx_gd_el hf; obtain ⟨c204, hf⟩ := hf
                                    replace hf := mx_sv_el hf; obtain ⟨v205, e_v205, hf⟩ := hf
                                    refine sx_sc hm dL_law_486 (xno_el c204) e_v205 ?_
                                    clear e_v205
                                    replace hf := mx_gd_el hf; obtain ⟨c206, hf⟩ := hf
                                    replace hf := mx_sv_el hf; obtain ⟨u207, e_u207, hf⟩ := hf
                                    refine sx_cv hm dL_law_487 rs_RL_79 mt_X13_out [.int v205] [.int u202.1] (b := l2) (ci := 13) rfl rfl rfl c206 (Nat.le_of_ble_eq_true rfl) (Nat.le_of_ble_eq_true rfl) (by omega) (by omega) (f_X13_out_ok X (by omega) (by omega) nn l2 v205 u202.2 e_u207) ?_
                                    clear e_u207
                                    show mx_S X F L 0 490 [(0, .ref 2000000000), (1, .ref l1), (2, .ref l2), (3, .int l3)] [.int u207.1, .int u202.1] u207.2 c s (some (.int r.1), r.2.1, r.2.2.1, r.2.2.2)
                                    rcases mx_if_el hf with ⟨c209, hf⟩ | ⟨c209, hf⟩
                                    · refine sb_ic_eq hm dL_law_490 (tgt := 528) rfl (fun _ => ?_) (fun z => absurd c209 z)
                                      replace hf := xl_el hf; obtain ⟨v208, e_v208, hf⟩ := hf
                                      refine mx_S.pu (pc2 := 531) (lv2 := [(3, .int v208), (0, .ref 2000000000), (1, .ref l1), (2, .ref l2)]) (st2 := []) hm dL_law_528 (by rw [← e_v208]; rfl) ?_
                                      clear e_v208
                                      refine mx_S.pu (pc2 := 18) (lv2 := [(3, .int v208), (0, .ref 2000000000), (1, .ref l1), (2, .ref l2)]) (st2 := []) hm dL_law_531 rfl ?_
                                      refine mx_S.ext [(0, .ref 2000000000), (1, .ref l1), (2, .ref l2), (3, .int v208)] (mx_sub_pos [1, 2, 3, 0] rfl (show ([3, 0, 1, 2] : List Nat).Nodup by decide)) ?_
                                      exact ih l1 l2 v208 u207.2 c s _ hf
                                    · refine sb_ic_eq hm dL_law_490 (tgt := 528) rfl (fun z => absurd z c209) (fun _ => ?_)
                                      refine sx_ic (v := 0) hm dL_law_493 (by decide) ?_
                                      cases hf
                                      exact sx_ire hm dL_law_494 rfl (by decide)
                                  · rcases mx_if_el hf with ⟨n_15, hf⟩ | ⟨n_15, hf⟩
                                    · refine sx_tin hm dL_law_33 (by rw [n_15]; decide) (by rw [n_15]; decide) (off := 462) (by rw [n_15]; rfl) (tgt := 495) rfl ?_
                                      clear n_0 n_1 n_2 n_3 n_4 n_5 n_6 n_7 n_8 n_9 n_10 n_11 n_12 n_13 n_14 n_15
                                      refine mx_S.pu (pc2 := 496) (lv2 := [(0, .ref 2000000000), (1, .ref l1), (2, .ref l2), (3, .int l3)]) (st2 := [.ref l1]) hm dL_law_495 rfl ?_
                                      refine mx_S.pu (pc2 := 497) (lv2 := [(0, .ref 2000000000), (1, .ref l1), (2, .ref l2), (3, .int l3)]) (st2 := [.ref 2000000000, .ref l1]) hm dL_law_496 rfl ?_
                                      refine mx_S.pu (pc2 := 498) (lv2 := [(0, .ref 2000000000), (1, .ref l1), (2, .ref l2), (3, .int l3)]) (st2 := [.int l3, .ref 2000000000, .ref l1]) hm dL_law_497 rfl ?_
                                      refine sx_ic (v := 1) hm dL_law_498 (by decide) ?_
                                      replace hf := xl_el hf; obtain ⟨v210, e_v210, hf⟩ := hf
                                      refine mx_S.pu (pc2 := 500) (lv2 := [(0, .ref 2000000000), (1, .ref l1), (2, .ref l2), (3, .int l3)]) (st2 := [.int v210, .ref 2000000000, .ref l1]) hm dL_law_499 (by rw [← e_v210]; rfl) ?_
                                      clear e_v210
                                      replace hf := mx_gd_el hf; obtain ⟨c211, hf⟩ := hf
                                      replace hf := mx_sv_el hf; obtain ⟨v212, e_v212, hf⟩ := hf
                                      refine sx_sc hm dL_law_500 (xno_el c211) e_v212 ?_
                                      clear e_v212
                                      refine mx_S.pu (pc2 := 502) (lv2 := [(0, .ref 2000000000), (1, .ref l1), (2, .ref l2), (3, .int l3)]) (st2 := [.ref 2000000000, .int v212, .ref l1]) hm dL_law_501 rfl ?_
                                      refine mx_S.pu (pc2 := 503) (lv2 := [(0, .ref 2000000000), (1, .ref l1), (2, .ref l2), (3, .int l3)]) (st2 := [.int l3, .ref 2000000000, .int v212, .ref l1]) hm dL_law_502 rfl ?_
                                      refine sx_ic (v := 2) hm dL_law_503 (by decide) ?_
                                      replace hf := xl_el hf; obtain ⟨v213, e_v213, hf⟩ := hf
                                      refine mx_S.pu (pc2 := 505) (lv2 := [(0, .ref 2000000000), (1, .ref l1), (2, .ref l2), (3, .int l3)]) (st2 := [.int v213, .ref 2000000000, .int v212, .ref l1]) hm dL_law_504 (by rw [← e_v213]; rfl) ?_
                                      clear e_v213
                                      replace hf := mx_gd_el hf; obtain ⟨c214, hf⟩ := hf
                                      replace hf := mx_sv_el hf; obtain ⟨v215, e_v215, hf⟩ := hf
                                      refine sx_sc hm dL_law_505 (xno_el c214) e_v215 ?_
                                      clear e_v215
                                      replace hf := mx_gd_el hf; obtain ⟨c216, hf⟩ := hf
                                      replace hf := mx_sv_el hf; obtain ⟨u217, e_u217, hf⟩ := hf
                                      refine sx_cv hm dL_law_506 rs_RL_80 mt_X12_type [.int v212, .int v215] [] (b := l1) (ci := 12) rfl rfl rfl c216 (Nat.le_of_ble_eq_true rfl) (Nat.le_of_ble_eq_true rfl) (by omega) (by omega) (f_X12_type_ok X (by omega) (by omega) nn l1 v212 v215 h e_u217) ?_
                                      clear e_u217
                                      show mx_S X F L 0 509 [(0, .ref 2000000000), (1, .ref l1), (2, .ref l2), (3, .int l3)] [.int u217.1] u217.2 c s (some (.int r.1), r.2.1, r.2.2.1, r.2.2.2)
                                      refine mx_S.pu (pc2 := 510) (lv2 := [(0, .ref 2000000000), (1, .ref l1), (2, .ref l2), (3, .int l3)]) (st2 := [.ref l2, .int u217.1]) hm dL_law_509 rfl ?_
                                      refine mx_S.pu (pc2 := 511) (lv2 := [(0, .ref 2000000000), (1, .ref l1), (2, .ref l2), (3, .int l3)]) (st2 := [.ref 2000000000, .ref l2, .int u217.1]) hm dL_law_510 rfl ?_
                                      refine mx_S.pu (pc2 := 512) (lv2 := [(0, .ref 2000000000), (1, .ref l1), (2, .ref l2), (3, .int l3)]) (st2 := [.int l3, .ref 2000000000, .ref l2, .int u217.1]) hm dL_law_511 rfl ?_
                                      refine sx_ic (v := 1) hm dL_law_512 (by decide) ?_
                                      replace hf := xl_el hf; obtain ⟨v218, e_v218, hf⟩ := hf
                                      refine mx_S.pu (pc2 := 514) (lv2 := [(0, .ref 2000000000), (1, .ref l1), (2, .ref l2), (3, .int l3)]) (st2 := [.int v218, .ref 2000000000, .ref l2, .int u217.1]) hm dL_law_513 (by rw [← e_v218]; rfl) ?_
                                      clear e_v218
                                      replace hf := mx_gd_el hf; obtain ⟨c219, hf⟩ := hf
                                      replace hf := mx_sv_el hf; obtain ⟨v220, e_v220, hf⟩ := hf
                                      refine sx_sc hm dL_law_514 (xno_el c219) e_v220 ?_
                                      clear e_v220
                                      refine mx_S.pu (pc2 := 516) (lv2 := [(0, .ref 2000000000), (1, .ref l1), (2, .ref l2), (3, .int l3)]) (st2 := [.ref 2000000000, .int v220, .ref l2, .int u217.1]) hm dL_law_515 rfl ?_
                                      refine mx_S.pu (pc2 := 517) (lv2 := [(0, .ref 2000000000), (1, .ref l1), (2, .ref l2), (3, .int l3)]) (st2 := [.int l3, .ref 2000000000, .int v220, .ref l2, .int u217.1]) hm dL_law_516 rfl ?_
                                      refine sx_ic (v := 2) hm dL_law_517 (by decide) ?_
                                      replace hf := xl_el hf; obtain ⟨v221, e_v221, hf⟩ := hf
                                      refine mx_S.pu (pc2 := 519) (lv2 := [(0, .ref 2000000000), (1, .ref l1), (2, .ref l2), (3, .int l3)]) (st2 := [.int v221, .ref 2000000000, .int v220, .ref l2, .int u217.1]) hm dL_law_518 (by rw [← e_v221]; rfl) ?_
                                      clear e_v221
                                      replace hf := mx_gd_el hf; obtain ⟨c222, hf⟩ := hf
                                      replace hf := mx_sv_el hf; obtain ⟨v223, e_v223, hf⟩ := hf
                                      refine sx_sc hm dL_law_519 (xno_el c222) e_v223 ?_
                                      clear e_v223
                                      replace hf := mx_gd_el hf; obtain ⟨c224, hf⟩ := hf
                                      replace hf := mx_sv_el hf; obtain ⟨u225, e_u225, hf⟩ := hf
                                      refine sx_cv hm dL_law_520 rs_RL_83 mt_X13_type_ [.int v220, .int v223] [.int u217.1] (b := l2) (ci := 13) rfl rfl rfl c224 (Nat.le_of_ble_eq_true rfl) (Nat.le_of_ble_eq_true rfl) (by omega) (by omega) (f_X13_type__ok X (by omega) (by omega) nn l2 v220 v223 u217.2 e_u225) ?_
                                      clear e_u225
                                      show mx_S X F L 0 523 [(0, .ref 2000000000), (1, .ref l1), (2, .ref l2), (3, .int l3)] [.int u225.1, .int u217.1] u225.2 c s (some (.int r.1), r.2.1, r.2.2.1, r.2.2.2)
                                      rcases mx_if_el hf with ⟨c227, hf⟩ | ⟨c227, hf⟩
                                      · refine sb_ic_eq hm dL_law_523 (tgt := 528) rfl (fun _ => ?_) (fun z => absurd c227 z)
                                        replace hf := xl_el hf; obtain ⟨v226, e_v226, hf⟩ := hf
                                        refine mx_S.pu (pc2 := 531) (lv2 := [(3, .int v226), (0, .ref 2000000000), (1, .ref l1), (2, .ref l2)]) (st2 := []) hm dL_law_528 (by rw [← e_v226]; rfl) ?_
                                        clear e_v226
                                        refine mx_S.pu (pc2 := 18) (lv2 := [(3, .int v226), (0, .ref 2000000000), (1, .ref l1), (2, .ref l2)]) (st2 := []) hm dL_law_531 rfl ?_
                                        refine mx_S.ext [(0, .ref 2000000000), (1, .ref l1), (2, .ref l2), (3, .int v226)] (mx_sub_pos [1, 2, 3, 0] rfl (show ([3, 0, 1, 2] : List Nat).Nodup by decide)) ?_
                                        exact ih l1 l2 v226 u225.2 c s _ hf
                                      · refine sb_ic_eq hm dL_law_523 (tgt := 528) rfl (fun z => absurd z c227) (fun _ => ?_)
                                        refine sx_ic (v := 0) hm dL_law_526 (by decide) ?_
                                        cases hf
                                        exact sx_ire hm dL_law_527 rfl (by decide)
                                    · rcases (show (v5.toInt < 0 ∨ 15 < v5.toInt) ∨ v5.toInt = 0 ∨ v5.toInt = 1 ∨ v5.toInt = 2 ∨ v5.toInt = 3 ∨ v5.toInt = 4 ∨ v5.toInt = 5 ∨ v5.toInt = 6 ∨ v5.toInt = 7 ∨ v5.toInt = 8 ∨ v5.toInt = 9 ∨ v5.toInt = 10 ∨ v5.toInt = 11 ∨ v5.toInt = 12 ∨ v5.toInt = 13 ∨ v5.toInt = 14 ∨ v5.toInt = 15 by omega) with z0 | z0 | z0 | z0 | z0 | z0 | z0 | z0 | z0 | z0 | z0 | z0 | z0 | z0 | z0 | z0 | z0
                                      · refine sx_tout hm dL_law_33 z0 (tgt := 528) rfl ?_
                                        replace hf := xl_el hf; obtain ⟨v6, e_v6, hf⟩ := hf
                                        refine mx_S.pu (pc2 := 531) (lv2 := [(3, .int v6), (0, .ref 2000000000), (1, .ref l1), (2, .ref l2)]) (st2 := []) hm dL_law_528 (by rw [← e_v6]; rfl) ?_
                                        clear e_v6
                                        refine mx_S.pu (pc2 := 18) (lv2 := [(3, .int v6), (0, .ref 2000000000), (1, .ref l1), (2, .ref l2)]) (st2 := []) hm dL_law_531 rfl ?_
                                        refine mx_S.ext [(0, .ref 2000000000), (1, .ref l1), (2, .ref l2), (3, .int v6)] (mx_sub_pos [1, 2, 3, 0] rfl (show ([3, 0, 1, 2] : List Nat).Nodup by decide)) ?_
                                        exact ih l1 l2 v6 h c s _ hf
                                      · exact absurd (Int32.toInt_inj.mp (z0.trans (by decide : (0 : Int) = (0 : Int32).toInt))) n_0
                                      · exact absurd (Int32.toInt_inj.mp (z0.trans (by decide : (1 : Int) = (1 : Int32).toInt))) n_1
                                      · exact absurd (Int32.toInt_inj.mp (z0.trans (by decide : (2 : Int) = (2 : Int32).toInt))) n_2
                                      · exact absurd (Int32.toInt_inj.mp (z0.trans (by decide : (3 : Int) = (3 : Int32).toInt))) n_3
                                      · exact absurd (Int32.toInt_inj.mp (z0.trans (by decide : (4 : Int) = (4 : Int32).toInt))) n_4
                                      · exact absurd (Int32.toInt_inj.mp (z0.trans (by decide : (5 : Int) = (5 : Int32).toInt))) n_5
                                      · exact absurd (Int32.toInt_inj.mp (z0.trans (by decide : (6 : Int) = (6 : Int32).toInt))) n_6
                                      · exact absurd (Int32.toInt_inj.mp (z0.trans (by decide : (7 : Int) = (7 : Int32).toInt))) n_7
                                      · exact absurd (Int32.toInt_inj.mp (z0.trans (by decide : (8 : Int) = (8 : Int32).toInt))) n_8
                                      · exact absurd (Int32.toInt_inj.mp (z0.trans (by decide : (9 : Int) = (9 : Int32).toInt))) n_9
                                      · exact absurd (Int32.toInt_inj.mp (z0.trans (by decide : (10 : Int) = (10 : Int32).toInt))) n_10
                                      · exact absurd (Int32.toInt_inj.mp (z0.trans (by decide : (11 : Int) = (11 : Int32).toInt))) n_11
                                      · exact absurd (Int32.toInt_inj.mp (z0.trans (by decide : (12 : Int) = (12 : Int32).toInt))) n_12
                                      · exact absurd (Int32.toInt_inj.mp (z0.trans (by decide : (13 : Int) = (13 : Int32).toInt))) n_13
                                      · exact absurd (Int32.toInt_inj.mp (z0.trans (by decide : (14 : Int) = (14 : Int32).toInt))) n_14
                                      · exact absurd (Int32.toInt_inj.mp (z0.trans (by decide : (15 : Int) = (15 : Int32).toInt))) n_15
set_option maxHeartbeats 4000000 in
set_option maxRecDepth 20000 in
theorem f_L_law_ok (X : Nat × (Nat → Int32)) {F L : Nat} (hF : 1810 ≤ F) (hL : 48830 ≤ L) (nn : Nat) (h : mx_H) {r : (Int32 × mx_H × Nat × Nat)} (hf : f_L_law X nn h = some r) : mx_R X F L 0 [.ref 2000000000] h (some (.int r.1), r.2.1, r.2.2.1, r.2.2.2) := by
  have hm : mx_mt 0 = some (yL_law, cL_law, 4, (some .boolean)) := mt_L_law
  show mx_S X F L 0 0 [(0, .ref 2000000000)] [] h 0 0 (some (.int r.1), r.2.1, r.2.2.1, r.2.2.2)
  unfold f_L_law at hf
  replace hf := mx_sv_el hf; obtain ⟨u229, e_u229, hf⟩ := hf
  refine sx_no hm dL_law_0 rs_RL_7 (dx_12 X) e_u229 ?_
  clear e_u229
  refine mx_S.pu (pc2 := 4) (lv2 := [(0, .ref 2000000000)]) (st2 := [.ref u229.1, .ref u229.1]) hm dL_law_3 rfl ?_
  replace hf := mx_sv_el hf; obtain ⟨u230, e_u230, hf⟩ := hf
  refine sx_ci hm dL_law_4 (t := 3) (by decide) rs_RL_9 mt_X12_init [] [.ref u229.1] (b := u229.1) rfl rfl (Nat.le_of_ble_eq_true rfl) (Nat.le_of_ble_eq_true rfl) (by omega) (by omega) (f_X12_init_ok X (by omega) (by omega) nn u229.1 u229.2 e_u230) ?_
  clear e_u230
  show mx_S X F L 0 7 [(0, .ref 2000000000)] [.ref u229.1] u230.1 ((0 + 1) + u230.2.1) ((0 + 11) + u230.2.2) (some (.int r.1), r.2.1, r.2.2.1, r.2.2.2)
  refine mx_S.pu (pc2 := 8) (lv2 := [(1, .ref u229.1), (0, .ref 2000000000)]) (st2 := []) hm dL_law_7 rfl ?_
  replace hf := mx_sv_el hf; obtain ⟨u231, e_u231, hf⟩ := hf
  refine sx_no hm dL_law_8 rs_RL_10 (dx_13 X) e_u231 ?_
  clear e_u231
  refine mx_S.pu (pc2 := 12) (lv2 := [(1, .ref u229.1), (0, .ref 2000000000)]) (st2 := [.ref u231.1, .ref u231.1]) hm dL_law_11 rfl ?_
  replace hf := mx_sv_el hf; obtain ⟨u232, e_u232, hf⟩ := hf
  refine sx_ci hm dL_law_12 (t := 3) (by decide) rs_RL_12 mt_X13_init [] [.ref u231.1] (b := u231.1) rfl rfl (Nat.le_of_ble_eq_true rfl) (Nat.le_of_ble_eq_true rfl) (by omega) (by omega) (f_X13_init_ok X (by omega) (by omega) nn u231.1 u231.2 e_u232) ?_
  clear e_u232
  show mx_S X F L 0 15 [(1, .ref u229.1), (0, .ref 2000000000)] [.ref u231.1] u232.1 ((((0 + 1) + u230.2.1) + 1) + u232.2.1) ((((0 + 11) + u230.2.2) + 155) + u232.2.2) (some (.int r.1), r.2.1, r.2.2.1, r.2.2.2)
  refine mx_S.pu (pc2 := 16) (lv2 := [(2, .ref u231.1), (1, .ref u229.1), (0, .ref 2000000000)]) (st2 := []) hm dL_law_15 rfl ?_
  refine sx_ic (v := 0) hm dL_law_16 (by decide) ?_
  refine mx_S.pu (pc2 := 18) (lv2 := [(3, .int 0), (2, .ref u231.1), (1, .ref u229.1), (0, .ref 2000000000)]) (st2 := []) hm dL_law_17 rfl ?_
  refine mx_S.ext [(0, .ref 2000000000), (1, .ref u229.1), (2, .ref u231.1), (3, .int 0)] (mx_sub_pos [3, 2, 1, 0] rfl (show ([3, 2, 1, 0] : List Nat).Nodup by decide)) ?_
  exact w_L_law_18_ok X hF hL nn nn u229.1 u231.1 0 u232.1 ((((0 + 1) + u230.2.1) + 1) + u232.2.1) ((((0 + 11) + u230.2.2) + 155) + u232.2.2) _ hf

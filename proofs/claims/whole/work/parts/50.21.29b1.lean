set_option maxHeartbeats 4000000 in
set_option maxRecDepth 20000 in
theorem j_X13_both_247_ok (X : Nat × (Nat → Int32)) {F L d : Nat} (hF : 6 + (d + 1) ≤ F) (hL : 135 + (d + 1) * 27 ≤ L) (nn : Nat) {rc : tg_X13_condition} (hrc : hg5_X13_condition X d rc) (l0 : Nat) (l1 : Int32) (l3 : Int32) (h : mx_H) {r : (Int32 × mx_H)} (hf : j_X13_both_247 nn rc l0 l1 l3 h = some r) : mx_S X F L 443 247 [(0, .ref l0), (1, .int l1), (3, .int l3)] [] h 0 0 (some (.int r.1), r.2, 0, 0) := by
  have hm : mx_mt 443 = some (yX13_both, cX13_both, 7, (some .int)) := mt_X13_both
  unfold j_X13_both_247 at hf
  refine mx_S.pu (pc2 := 248) (lv2 := [(0, .ref l0), (1, .int l1), (3, .int l3)]) (st2 := [.ref l0]) hm dX13_both_247 rfl ?_
  refine mx_S.pu (pc2 := 249) (lv2 := [(0, .ref l0), (1, .int l1), (3, .int l3)]) (st2 := [.ref l0, .ref l0]) hm dX13_both_248 rfl ?_
  replace hf := mx_sv_el hf; obtain ⟨v1, e_v1, hf⟩ := hf
  refine sx_get hm dX13_both_249 rs_RX13_31 (xgr_el e_v1) ?_
  clear e_v1
  refine mx_S.pu (pc2 := 253) (lv2 := [(0, .ref l0), (1, .int l1), (3, .int l3)]) (st2 := [.int l1, .ref v1, .ref l0]) hm dX13_both_252 rfl ?_
  replace hf := mx_sv_el hf; obtain ⟨v2, e_v2, hf⟩ := hf
  refine sx_ald hm dX13_both_253 e_v2 ?_
  clear e_v2
  replace hf := mx_gd_el hf; obtain ⟨c3, hf⟩ := hf
  replace hf := mx_sv_el hf; obtain ⟨u4, e_u4, hf⟩ := hf
  refine sx_cv hm dX13_both_254 rs_RX13_459 mt_X13_strength [.int v2] [] (b := l0) (ci := 13) rfl rfl rfl c3 (Nat.le_of_ble_eq_true rfl) (Nat.le_of_ble_eq_true rfl) (by omega) (by omega) (f_X13_strength_ok X (by omega) (by omega) nn l0 v2 h e_u4) ?_
  clear e_u4
  show mx_S X F L 443 257 [(0, .ref l0), (1, .int l1), (3, .int l3)] [.int u4.1] u4.2 0 0 (some (.int r.1), r.2, 0, 0)
  refine mx_S.pu (pc2 := 259) (lv2 := [(6, .int u4.1), (0, .ref l0), (1, .int l1), (3, .int l3)]) (st2 := []) hm dX13_both_257 rfl ?_
  refine mx_S.pu (pc2 := 261) (lv2 := [(6, .int u4.1), (0, .ref l0), (1, .int l1), (3, .int l3)]) (st2 := [.int u4.1]) hm dX13_both_259 rfl ?_
  refine sx_bi (v := 6) hm dX13_both_261 (by decide) ?_
  rcases mx_if_el hf with ⟨c5, hf⟩ | ⟨c5, hf⟩
  · refine sb_ic_ne hm dX13_both_263 (tgt := 270) rfl (fun _ => ?_) (fun z => absurd c5 z)
    refine mx_S.pu (pc2 := 271) (lv2 := [(6, .int u4.1), (0, .ref l0), (1, .int l1), (3, .int l3)]) (st2 := [.int l3]) hm dX13_both_270 rfl ?_
    cases hf
    exact sx_ire hm dX13_both_271 rfl rfl
  · refine sb_ic_ne hm dX13_both_263 (tgt := 270) rfl (fun z => absurd z c5) (fun _ => ?_)
    refine sx_ic (v := 1) hm dX13_both_266 (by decide) ?_
    refine mx_S.pu (pc2 := 271) (lv2 := [(6, .int u4.1), (0, .ref l0), (1, .int l1), (3, .int l3)]) (st2 := [.int 1]) hm dX13_both_267 rfl ?_
    cases hf
    exact sx_ire hm dX13_both_271 rfl rfl
set_option maxHeartbeats 4000000 in
set_option maxRecDepth 20000 in
theorem j_X13_both_235_ok (X : Nat × (Nat → Int32)) {F L d : Nat} (hF : 6 + (d + 1) ≤ F) (hL : 135 + (d + 1) * 27 ≤ L) (nn : Nat) {rc : tg_X13_condition} (hrc : hg5_X13_condition X d rc) (l0 : Nat) (l1 : Int32) (l3 : Int32) (h : mx_H) {r : (Int32 × mx_H)} (hf : j_X13_both_235 nn rc l0 l1 l3 h = some r) : mx_S X F L 443 235 [(0, .ref l0), (1, .int l1), (3, .int l3)] [] h 0 0 (some (.int r.1), r.2, 0, 0) := by
  have hm : mx_mt 443 = some (yX13_both, cX13_both, 7, (some .int)) := mt_X13_both
  unfold j_X13_both_235 at hf
  refine mx_S.pu (pc2 := 236) (lv2 := [(0, .ref l0), (1, .int l1), (3, .int l3)]) (st2 := [.ref l0]) hm dX13_both_235 rfl ?_
  refine sx_bi (v := 6) hm dX13_both_236 (by decide) ?_
  refine mx_S.pu (pc2 := 239) (lv2 := [(0, .ref l0), (1, .int l1), (3, .int l3)]) (st2 := [.ref l0, .int 6, .ref l0]) hm dX13_both_238 rfl ?_
  replace hf := mx_sv_el hf; obtain ⟨v6, e_v6, hf⟩ := hf
  refine sx_get hm dX13_both_239 rs_RX13_31 (xgr_el e_v6) ?_
  clear e_v6
  refine mx_S.pu (pc2 := 243) (lv2 := [(0, .ref l0), (1, .int l1), (3, .int l3)]) (st2 := [.int l1, .ref v6, .int 6, .ref l0]) hm dX13_both_242 rfl ?_
  replace hf := mx_sv_el hf; obtain ⟨v7, e_v7, hf⟩ := hf
  refine sx_ald hm dX13_both_243 e_v7 ?_
  clear e_v7
  replace hf := mx_gd_el hf; obtain ⟨c8, hf⟩ := hf
  replace hf := mx_sv_el hf; obtain ⟨u9, e_u9, hf⟩ := hf
  refine sx_cv hm dX13_both_244 rs_RX13_379 mt_X13_wrong [.int 6, .int v7] [] (b := l0) (ci := 13) rfl rfl rfl c8 (Nat.le_of_ble_eq_true rfl) (Nat.le_of_ble_eq_true rfl) (by omega) (by omega) (f_X13_wrong_ok X (by omega) (by omega) nn l0 6 v7 h e_u9) ?_
  clear e_u9
  show mx_S X F L 443 247 [(0, .ref l0), (1, .int l1), (3, .int l3)] [] u9 0 0 (some (.int r.1), r.2, 0, 0)
  exact j_X13_both_247_ok X hF hL nn hrc l0 l1 l3 u9 hf
set_option maxHeartbeats 4000000 in
set_option maxRecDepth 20000 in
theorem j_X13_both_213_ok (X : Nat × (Nat → Int32)) {F L d : Nat} (hF : 6 + (d + 1) ≤ F) (hL : 135 + (d + 1) * 27 ≤ L) (nn : Nat) {rc : tg_X13_condition} (hrc : hg5_X13_condition X d rc) (l0 : Nat) (l1 : Int32) (l3 : Int32) (l4 : Int32) (s0 : Int32) (h : mx_H) {r : (Int32 × mx_H)} (hf : j_X13_both_213 nn rc l0 l1 l3 l4 s0 h = some r) : mx_S X F L 443 213 [(0, .ref l0), (1, .int l1), (3, .int l3), (4, .int l4)] [.int s0] h 0 0 (some (.int r.1), r.2, 0, 0) := by
  have hm : mx_mt 443 = some (yX13_both, cX13_both, 7, (some .int)) := mt_X13_both
  unfold j_X13_both_213 at hf
  refine mx_S.pu (pc2 := 215) (lv2 := [(5, .int s0), (0, .ref l0), (1, .int l1), (3, .int l3), (4, .int l4)]) (st2 := []) hm dX13_both_213 rfl ?_
  refine mx_S.pu (pc2 := 216) (lv2 := [(5, .int s0), (0, .ref l0), (1, .int l1), (3, .int l3), (4, .int l4)]) (st2 := [.int l3]) hm dX13_both_215 rfl ?_
  refine mx_S.pu (pc2 := 218) (lv2 := [(5, .int s0), (0, .ref l0), (1, .int l1), (3, .int l3), (4, .int l4)]) (st2 := [.int l4, .int l3]) hm dX13_both_216 rfl ?_
  rcases mx_if_el hf with ⟨c13, hf⟩ | ⟨c13, hf⟩
  · refine sb_ic_ne hm dX13_both_218 (tgt := 235) rfl (fun _ => ?_) (fun z => absurd c13 z)
    refine mx_S.ext [(0, .ref l0), (1, .int l1), (3, .int l3)] (mx_sub_pos [1, 2, 3] rfl (show ([5, 0, 1, 3, 4] : List Nat).Nodup by decide)) ?_
    exact j_X13_both_235_ok X hF hL nn hrc l0 l1 l3 h hf
  · refine sb_ic_ne hm dX13_both_218 (tgt := 235) rfl (fun z => absurd z c13) (fun _ => ?_)
    refine mx_S.pu (pc2 := 222) (lv2 := [(5, .int s0), (0, .ref l0), (1, .int l1), (3, .int l3), (4, .int l4)]) (st2 := [.int l3]) hm dX13_both_221 rfl ?_
    rcases mx_if_el hf with ⟨c12, hf⟩ | ⟨c12, hf⟩
    · refine sb_if_eq hm dX13_both_222 (tgt := 247) rfl (fun _ => ?_) (fun z => absurd c12 z)
      refine mx_S.ext [(0, .ref l0), (1, .int l1), (3, .int l3)] (mx_sub_pos [1, 2, 3] rfl (show ([5, 0, 1, 3, 4] : List Nat).Nodup by decide)) ?_
      exact j_X13_both_247_ok X hF hL nn hrc l0 l1 l3 h hf
    · refine sb_if_eq hm dX13_both_222 (tgt := 247) rfl (fun z => absurd z c12) (fun _ => ?_)
      refine mx_S.pu (pc2 := 227) (lv2 := [(5, .int s0), (0, .ref l0), (1, .int l1), (3, .int l3), (4, .int l4)]) (st2 := [.int s0]) hm dX13_both_225 rfl ?_
      rcases mx_if_el hf with ⟨c11, hf⟩ | ⟨c11, hf⟩
      · refine sb_if_eq hm dX13_both_227 (tgt := 235) rfl (fun _ => ?_) (fun z => absurd c11 z)
        refine mx_S.ext [(0, .ref l0), (1, .int l1), (3, .int l3)] (mx_sub_pos [1, 2, 3] rfl (show ([5, 0, 1, 3, 4] : List Nat).Nodup by decide)) ?_
        exact j_X13_both_235_ok X hF hL nn hrc l0 l1 l3 h hf
      · refine sb_if_eq hm dX13_both_227 (tgt := 235) rfl (fun z => absurd z c11) (fun _ => ?_)
        refine mx_S.pu (pc2 := 231) (lv2 := [(5, .int s0), (0, .ref l0), (1, .int l1), (3, .int l3), (4, .int l4)]) (st2 := [.int l3]) hm dX13_both_230 rfl ?_
        refine sx_ic (v := 1) hm dX13_both_231 (by decide) ?_
        rcases mx_if_el hf with ⟨c10, hf⟩ | ⟨c10, hf⟩
        · refine sb_ic_eq hm dX13_both_232 (tgt := 247) rfl (fun _ => ?_) (fun z => absurd c10 z)
          refine mx_S.ext [(0, .ref l0), (1, .int l1), (3, .int l3)] (mx_sub_pos [1, 2, 3] rfl (show ([5, 0, 1, 3, 4] : List Nat).Nodup by decide)) ?_
          exact j_X13_both_247_ok X hF hL nn hrc l0 l1 l3 h hf
        · refine sb_ic_eq hm dX13_both_232 (tgt := 247) rfl (fun z => absurd z c10) (fun _ => ?_)
          refine mx_S.ext [(0, .ref l0), (1, .int l1), (3, .int l3)] (mx_sub_pos [1, 2, 3] rfl (show ([5, 0, 1, 3, 4] : List Nat).Nodup by decide)) ?_
          exact j_X13_both_235_ok X hF hL nn hrc l0 l1 l3 h hf
set_option maxHeartbeats 4000000 in
set_option maxRecDepth 20000 in
theorem j_X13_both_208_ok (X : Nat × (Nat → Int32)) {F L d : Nat} (hF : 6 + (d + 1) ≤ F) (hL : 135 + (d + 1) * 27 ≤ L) (nn : Nat) {rc : tg_X13_condition} (hrc : hg5_X13_condition X d rc) (l0 : Nat) (l1 : Int32) (l3 : Int32) (l4 : Int32) (h : mx_H) {r : (Int32 × mx_H)} (hf : j_X13_both_208 nn rc l0 l1 l3 l4 h = some r) : mx_S X F L 443 208 [(0, .ref l0), (1, .int l1), (3, .int l3), (4, .int l4)] [] h 0 0 (some (.int r.1), r.2, 0, 0) := by
  have hm : mx_mt 443 = some (yX13_both, cX13_both, 7, (some .int)) := mt_X13_both
  unfold j_X13_both_208 at hf
  refine sx_ic (v := 1) hm dX13_both_208 (by decide) ?_
  refine mx_S.pu (pc2 := 213) (lv2 := [(0, .ref l0), (1, .int l1), (3, .int l3), (4, .int l4)]) (st2 := [.int 1]) hm dX13_both_209 rfl ?_
  exact j_X13_both_213_ok X hF hL nn hrc l0 l1 l3 l4 1 h hf
set_option maxHeartbeats 4000000 in
set_option maxRecDepth 20000 in
theorem j_X13_both_166_ok (X : Nat × (Nat → Int32)) {F L d : Nat} (hF : 6 + (d + 1) ≤ F) (hL : 135 + (d + 1) * 27 ≤ L) (nn : Nat) {rc : tg_X13_condition} (hrc : hg5_X13_condition X d rc) (l0 : Nat) (l1 : Int32) (l3 : Int32) (l4 : Int32) (h : mx_H) {r : (Int32 × mx_H)} (hf : j_X13_both_166 nn rc l0 l1 l3 l4 h = some r) : mx_S X F L 443 166 [(0, .ref l0), (1, .int l1), (3, .int l3), (4, .int l4)] [] h 0 0 (some (.int r.1), r.2, 0, 0) := by
  have hm : mx_mt 443 = some (yX13_both, cX13_both, 7, (some .int)) := mt_X13_both
  unfold j_X13_both_166 at hf
  refine mx_S.pu (pc2 := 167) (lv2 := [(0, .ref l0), (1, .int l1), (3, .int l3), (4, .int l4)]) (st2 := [.ref l0]) hm dX13_both_166 rfl ?_
  refine mx_S.pu (pc2 := 168) (lv2 := [(0, .ref l0), (1, .int l1), (3, .int l3), (4, .int l4)]) (st2 := [.int l3, .ref l0]) hm dX13_both_167 rfl ?_
  refine mx_S.pu (pc2 := 170) (lv2 := [(0, .ref l0), (1, .int l1), (3, .int l3), (4, .int l4)]) (st2 := [.int l4, .int l3, .ref l0]) hm dX13_both_168 rfl ?_
  replace hf := mx_gd_el hf; obtain ⟨c14, hf⟩ := hf
  replace hf := mx_sv_el hf; obtain ⟨u15, e_u15, hf⟩ := hf
  refine sx_cv hm dX13_both_170 rs_RX13_576 mt_X13_goTogether [.int l3, .int l4] [] (b := l0) (ci := 13) rfl rfl rfl c14 (Nat.le_of_ble_eq_true rfl) (Nat.le_of_ble_eq_true rfl) (by omega) (by omega) (f_X13_goTogether_ok X (by omega) (by omega) nn l0 l3 l4 h e_u15) ?_
  clear e_u15
  show mx_S X F L 443 173 [(0, .ref l0), (1, .int l1), (3, .int l3), (4, .int l4)] [.int u15.1] u15.2 0 0 (some (.int r.1), r.2, 0, 0)
  rcases mx_if_el hf with ⟨c20, hf⟩ | ⟨c20, hf⟩
  · refine sb_if_ne hm dX13_both_173 (tgt := 188) rfl (fun _ => ?_) (fun z => absurd c20 z)
    refine sx_ic (v := 1) hm dX13_both_188 (by decide) ?_
    cases hf
    exact sx_ire hm dX13_both_189 rfl rfl
  · refine sb_if_ne hm dX13_both_173 (tgt := 188) rfl (fun z => absurd z c20) (fun _ => ?_)
    refine mx_S.pu (pc2 := 177) (lv2 := [(0, .ref l0), (1, .int l1), (3, .int l3), (4, .int l4)]) (st2 := [.ref l0]) hm dX13_both_176 rfl ?_
    refine sx_bi (v := 6) hm dX13_both_177 (by decide) ?_
    refine mx_S.pu (pc2 := 180) (lv2 := [(0, .ref l0), (1, .int l1), (3, .int l3), (4, .int l4)]) (st2 := [.ref l0, .int 6, .ref l0]) hm dX13_both_179 rfl ?_
    replace hf := mx_sv_el hf; obtain ⟨v16, e_v16, hf⟩ := hf
    refine sx_get hm dX13_both_180 rs_RX13_31 (xgr_el e_v16) ?_
    clear e_v16
    refine mx_S.pu (pc2 := 184) (lv2 := [(0, .ref l0), (1, .int l1), (3, .int l3), (4, .int l4)]) (st2 := [.int l1, .ref v16, .int 6, .ref l0]) hm dX13_both_183 rfl ?_
    replace hf := mx_sv_el hf; obtain ⟨v17, e_v17, hf⟩ := hf
    refine sx_ald hm dX13_both_184 e_v17 ?_
    clear e_v17
    replace hf := mx_gd_el hf; obtain ⟨c18, hf⟩ := hf
    replace hf := mx_sv_el hf; obtain ⟨u19, e_u19, hf⟩ := hf
    refine sx_cv hm dX13_both_185 rs_RX13_379 mt_X13_wrong [.int 6, .int v17] [] (b := l0) (ci := 13) rfl rfl rfl c18 (Nat.le_of_ble_eq_true rfl) (Nat.le_of_ble_eq_true rfl) (by omega) (by omega) (f_X13_wrong_ok X (by omega) (by omega) nn l0 6 v17 u15.2 e_u19) ?_
    clear e_u19
    show mx_S X F L 443 188 [(0, .ref l0), (1, .int l1), (3, .int l3), (4, .int l4)] [] u19 0 0 (some (.int r.1), r.2, 0, 0)
    refine sx_ic (v := 1) hm dX13_both_188 (by decide) ?_
    cases hf
    exact sx_ire hm dX13_both_189 rfl rfl
set_option maxHeartbeats 4000000 in
set_option maxRecDepth 20000 in
theorem j_X13_both_62_ok (X : Nat × (Nat → Int32)) {F L d : Nat} (hF : 6 + (d + 1) ≤ F) (hL : 135 + (d + 1) * 27 ≤ L) (nn : Nat) {rc : tg_X13_condition} (hrc : hg5_X13_condition X d rc) (l0 : Nat) (l1 : Int32) (h : mx_H) {r : (Int32 × mx_H)} (hf : j_X13_both_62 nn rc l0 l1 h = some r) : mx_S X F L 443 62 [(0, .ref l0), (1, .int l1)] [] h 0 0 (some (.int r.1), r.2, 0, 0) := by
  have hm : mx_mt 443 = some (yX13_both, cX13_both, 7, (some .int)) := mt_X13_both
  unfold j_X13_both_62 at hf
  refine mx_S.pu (pc2 := 63) (lv2 := [(0, .ref l0), (1, .int l1)]) (st2 := [.ref l0]) hm dX13_both_62 rfl ?_
  refine mx_S.pu (pc2 := 64) (lv2 := [(0, .ref l0), (1, .int l1)]) (st2 := [.ref l0, .ref l0]) hm dX13_both_63 rfl ?_
  replace hf := mx_sv_el hf; obtain ⟨v21, e_v21, hf⟩ := hf
  refine sx_get hm dX13_both_64 rs_RX13_40 (xgr_el e_v21) ?_
  clear e_v21
  refine mx_S.pu (pc2 := 68) (lv2 := [(0, .ref l0), (1, .int l1)]) (st2 := [.int l1, .ref v21, .ref l0]) hm dX13_both_67 rfl ?_
  replace hf := mx_sv_el hf; obtain ⟨v22, e_v22, hf⟩ := hf
  refine sx_ald hm dX13_both_68 e_v22 ?_
  clear e_v22
  refine mx_S.pu (pc2 := 70) (lv2 := [(0, .ref l0), (1, .int l1)]) (st2 := [.ref l0, .int v22, .ref l0]) hm dX13_both_69 rfl ?_
  refine mx_S.pu (pc2 := 71) (lv2 := [(0, .ref l0), (1, .int l1)]) (st2 := [.ref l0, .ref l0, .int v22, .ref l0]) hm dX13_both_70 rfl ?_
  replace hf := mx_sv_el hf; obtain ⟨v23, e_v23, hf⟩ := hf
  refine sx_get hm dX13_both_71 rs_RX13_40 (xgr_el e_v23) ?_
  clear e_v23
  refine mx_S.pu (pc2 := 75) (lv2 := [(0, .ref l0), (1, .int l1)]) (st2 := [.int l1, .ref v23, .ref l0, .int v22, .ref l0]) hm dX13_both_74 rfl ?_
  replace hf := mx_sv_el hf; obtain ⟨v24, e_v24, hf⟩ := hf
  refine sx_ald hm dX13_both_75 e_v24 ?_
  clear e_v24
  replace hf := mx_gd_el hf; obtain ⟨c25, hf⟩ := hf
  replace hf := mx_sv_el hf; obtain ⟨u26, e_u26, hf⟩ := hf
  refine sx_cv hm dX13_both_76 rs_RX13_546 mt_X13_worked [.int v24] [.int v22, .ref l0] (b := l0) (ci := 13) rfl rfl rfl c25 (Nat.le_of_ble_eq_true rfl) (Nat.le_of_ble_eq_true rfl) (by omega) (by omega) (hrc.2.2.1 (by omega) (by omega) l0 v24 h e_u26) ?_
  clear e_u26
  show mx_S X F L 443 79 [(0, .ref l0), (1, .int l1)] [.int u26.1, .int v22, .ref l0] u26.2 0 0 (some (.int r.1), r.2, 0, 0)
  replace hf := mx_gd_el hf; obtain ⟨c27, hf⟩ := hf
  replace hf := mx_sv_el hf; obtain ⟨u28, e_u28, hf⟩ := hf
  refine sx_cv hm dX13_both_79 rs_RX13_585 mt_X13_side [.int v22, .int u26.1] [] (b := l0) (ci := 13) rfl rfl rfl c27 (Nat.le_of_ble_eq_true rfl) (Nat.le_of_ble_eq_true rfl) (by omega) (by omega) (f_X13_side_ok X (by omega) (by omega) nn l0 v22 u26.1 u26.2 e_u28) ?_
  clear e_u28
  show mx_S X F L 443 82 [(0, .ref l0), (1, .int l1)] [.int u28.1] u28.2 0 0 (some (.int r.1), r.2, 0, 0)
  refine sx_ic (v := 1) hm dX13_both_82 (by decide) ?_
  rcases mx_if_el hf with ⟨c35, hf⟩ | ⟨c35, hf⟩
  · refine sb_ic_eq hm dX13_both_83 (tgt := 103) rfl (fun _ => ?_) (fun z => absurd c35 z)
    refine sx_ic (v := 1) hm dX13_both_103 (by decide) ?_
    cases hf
    exact sx_ire hm dX13_both_104 rfl rfl
  · refine sb_ic_eq hm dX13_both_83 (tgt := 103) rfl (fun z => absurd z c35) (fun _ => ?_)
    refine mx_S.pu (pc2 := 87) (lv2 := [(0, .ref l0), (1, .int l1)]) (st2 := [.ref l0]) hm dX13_both_86 rfl ?_
    refine sx_bi (v := 6) hm dX13_both_87 (by decide) ?_
    refine mx_S.pu (pc2 := 90) (lv2 := [(0, .ref l0), (1, .int l1)]) (st2 := [.ref l0, .int 6, .ref l0]) hm dX13_both_89 rfl ?_
    replace hf := mx_sv_el hf; obtain ⟨v29, e_v29, hf⟩ := hf
    refine sx_get hm dX13_both_90 rs_RX13_34 (xgr_el e_v29) ?_
    clear e_v29
    refine mx_S.pu (pc2 := 94) (lv2 := [(0, .ref l0), (1, .int l1)]) (st2 := [.ref l0, .ref v29, .int 6, .ref l0]) hm dX13_both_93 rfl ?_
    replace hf := mx_sv_el hf; obtain ⟨v30, e_v30, hf⟩ := hf
    refine sx_get hm dX13_both_94 rs_RX13_40 (xgr_el e_v30) ?_
    clear e_v30
    refine mx_S.pu (pc2 := 98) (lv2 := [(0, .ref l0), (1, .int l1)]) (st2 := [.int l1, .ref v30, .ref v29, .int 6, .ref l0]) hm dX13_both_97 rfl ?_
    replace hf := mx_sv_el hf; obtain ⟨v31, e_v31, hf⟩ := hf
    refine sx_ald hm dX13_both_98 e_v31 ?_
    clear e_v31
    replace hf := mx_sv_el hf; obtain ⟨v32, e_v32, hf⟩ := hf
    refine sx_ald hm dX13_both_99 e_v32 ?_
    clear e_v32
    replace hf := mx_gd_el hf; obtain ⟨c33, hf⟩ := hf
    replace hf := mx_sv_el hf; obtain ⟨u34, e_u34, hf⟩ := hf
    refine sx_cv hm dX13_both_100 rs_RX13_379 mt_X13_wrong [.int 6, .int v32] [] (b := l0) (ci := 13) rfl rfl rfl c33 (Nat.le_of_ble_eq_true rfl) (Nat.le_of_ble_eq_true rfl) (by omega) (by omega) (f_X13_wrong_ok X (by omega) (by omega) nn l0 6 v32 u28.2 e_u34) ?_
    clear e_u34
    show mx_S X F L 443 103 [(0, .ref l0), (1, .int l1)] [] u34 0 0 (some (.int r.1), r.2, 0, 0)
    refine sx_ic (v := 1) hm dX13_both_103 (by decide) ?_
    cases hf
    exact sx_ire hm dX13_both_104 rfl rfl
set_option maxHeartbeats 4000000 in
set_option maxRecDepth 20000 in
theorem j_X13_both_36_ok (X : Nat × (Nat → Int32)) {F L d : Nat} (hF : 6 + (d + 1) ≤ F) (hL : 135 + (d + 1) * 27 ≤ L) (nn : Nat) {rc : tg_X13_condition} (hrc : hg5_X13_condition X d rc) (l0 : Nat) (l1 : Int32) (h : mx_H) {r : (Int32 × mx_H)} (hf : j_X13_both_36 nn rc l0 l1 h = some r) : mx_S X F L 443 36 [(0, .ref l0), (1, .int l1)] [] h 0 0 (some (.int r.1), r.2, 0, 0) := by
  have hm : mx_mt 443 = some (yX13_both, cX13_both, 7, (some .int)) := mt_X13_both
  unfold j_X13_both_36 at hf
  refine mx_S.pu (pc2 := 37) (lv2 := [(0, .ref l0), (1, .int l1)]) (st2 := [.ref l0]) hm dX13_both_36 rfl ?_
  refine mx_S.pu (pc2 := 38) (lv2 := [(0, .ref l0), (1, .int l1)]) (st2 := [.int l1, .ref l0]) hm dX13_both_37 rfl ?_
  replace hf := mx_gd_el hf; obtain ⟨c36, hf⟩ := hf
  replace hf := mx_sv_el hf; obtain ⟨u37, e_u37, hf⟩ := hf
  refine sx_cv hm dX13_both_38 rs_RX13_573 mt_X13_led [.int l1] [] (b := l0) (ci := 13) rfl rfl rfl c36 (Nat.le_of_ble_eq_true rfl) (Nat.le_of_ble_eq_true rfl) (by omega) (by omega) (f_X13_led_ok X (by omega) (by omega) nn l0 l1 h e_u37) ?_
  clear e_u37
  show mx_S X F L 443 41 [(0, .ref l0), (1, .int l1)] [.int u37.1] u37.2 0 0 (some (.int r.1), r.2, 0, 0)
  refine sx_ic (v := 1) hm dX13_both_41 (by decide) ?_
  rcases mx_if_el hf with ⟨c44, hf⟩ | ⟨c44, hf⟩
  · refine sb_ic_eq hm dX13_both_42 (tgt := 62) rfl (fun _ => ?_) (fun z => absurd c44 z)
    exact j_X13_both_62_ok X hF hL nn hrc l0 l1 u37.2 hf
  · refine sb_ic_eq hm dX13_both_42 (tgt := 62) rfl (fun z => absurd z c44) (fun _ => ?_)
    refine mx_S.pu (pc2 := 46) (lv2 := [(0, .ref l0), (1, .int l1)]) (st2 := [.ref l0]) hm dX13_both_45 rfl ?_
    refine sx_bi (v := 6) hm dX13_both_46 (by decide) ?_
    refine mx_S.pu (pc2 := 49) (lv2 := [(0, .ref l0), (1, .int l1)]) (st2 := [.ref l0, .int 6, .ref l0]) hm dX13_both_48 rfl ?_
    replace hf := mx_sv_el hf; obtain ⟨v38, e_v38, hf⟩ := hf
    refine sx_get hm dX13_both_49 rs_RX13_34 (xgr_el e_v38) ?_
    clear e_v38
    refine mx_S.pu (pc2 := 53) (lv2 := [(0, .ref l0), (1, .int l1)]) (st2 := [.ref l0, .ref v38, .int 6, .ref l0]) hm dX13_both_52 rfl ?_
    replace hf := mx_sv_el hf; obtain ⟨v39, e_v39, hf⟩ := hf
    refine sx_get hm dX13_both_53 rs_RX13_37 (xgr_el e_v39) ?_
    clear e_v39
    refine mx_S.pu (pc2 := 57) (lv2 := [(0, .ref l0), (1, .int l1)]) (st2 := [.int l1, .ref v39, .ref v38, .int 6, .ref l0]) hm dX13_both_56 rfl ?_
    replace hf := mx_sv_el hf; obtain ⟨v40, e_v40, hf⟩ := hf
    refine sx_ald hm dX13_both_57 e_v40 ?_
    clear e_v40
    replace hf := mx_sv_el hf; obtain ⟨v41, e_v41, hf⟩ := hf
    refine sx_ald hm dX13_both_58 e_v41 ?_
    clear e_v41
    replace hf := mx_gd_el hf; obtain ⟨c42, hf⟩ := hf
    replace hf := mx_sv_el hf; obtain ⟨u43, e_u43, hf⟩ := hf
    refine sx_cv hm dX13_both_59 rs_RX13_379 mt_X13_wrong [.int 6, .int v41] [] (b := l0) (ci := 13) rfl rfl rfl c42 (Nat.le_of_ble_eq_true rfl) (Nat.le_of_ble_eq_true rfl) (by omega) (by omega) (f_X13_wrong_ok X (by omega) (by omega) nn l0 6 v41 u37.2 e_u43) ?_
    clear e_u43
    show mx_S X F L 443 62 [(0, .ref l0), (1, .int l1)] [] u43 0 0 (some (.int r.1), r.2, 0, 0)
    exact j_X13_both_62_ok X hF hL nn hrc l0 l1 u43 hf
set_option maxHeartbeats 4000000 in
set_option maxRecDepth 20000 in
theorem o_X13_both_ok (X : Nat × (Nat → Int32)) {F L d : Nat} (hF : 6 + (d + 1) ≤ F) (hL : 135 + (d + 1) * 27 ≤ L) (nn : Nat) {rc : tg_X13_condition} (hrc : hg5_X13_condition X d rc) (a0 : Nat) (a1 : Int32) (h : mx_H) {r : (Int32 × mx_H)} (hf : o_X13_both nn rc a0 a1 h = some r) : mx_R X F L 443 [.ref a0, .int a1] h (some (.int r.1), r.2, 0, 0) := by
  have hm : mx_mt 443 = some (yX13_both, cX13_both, 7, (some .int)) := mt_X13_both
  show mx_S X F L 443 0 [(0, .ref a0), (1, .int a1)] [] h 0 0 (some (.int r.1), r.2, 0, 0)
  unfold o_X13_both at hf
  refine mx_S.pu (pc2 := 1) (lv2 := [(0, .ref a0), (1, .int a1)]) (st2 := [.ref a0]) hm dX13_both_0 rfl ?_
  replace hf := mx_sv_el hf; obtain ⟨v45, e_v45, hf⟩ := hf
  refine sx_get hm dX13_both_1 rs_RX13_25 (xgr_el e_v45) ?_
  clear e_v45
  refine mx_S.pu (pc2 := 5) (lv2 := [(0, .ref a0), (1, .int a1)]) (st2 := [.ref a0, .ref v45]) hm dX13_both_4 rfl ?_
  replace hf := mx_sv_el hf; obtain ⟨v46, e_v46, hf⟩ := hf
  refine sx_get hm dX13_both_5 rs_RX13_31 (xgr_el e_v46) ?_
  clear e_v46
  refine mx_S.pu (pc2 := 9) (lv2 := [(0, .ref a0), (1, .int a1)]) (st2 := [.int a1, .ref v46, .ref v45]) hm dX13_both_8 rfl ?_
  replace hf := mx_sv_el hf; obtain ⟨v47, e_v47, hf⟩ := hf
  refine sx_ald hm dX13_both_9 e_v47 ?_
  clear e_v47
  replace hf := mx_sv_el hf; obtain ⟨v48, e_v48, hf⟩ := hf
  refine sx_ald hm dX13_both_10 e_v48 ?_
  clear e_v48
  refine mx_S.pu (pc2 := 12) (lv2 := [(2, .int v48), (0, .ref a0), (1, .int a1)]) (st2 := []) hm dX13_both_11 rfl ?_
  refine mx_S.pu (pc2 := 13) (lv2 := [(2, .int v48), (0, .ref a0), (1, .int a1)]) (st2 := [.int v48]) hm dX13_both_12 rfl ?_
  refine sx_ic (v := 0) hm dX13_both_13 (by decide) ?_
  refine sx_bi (v := 38) hm dX13_both_14 (by decide) ?_
  refine sx_bi (v := 38) hm dX13_both_16 (by decide) ?_
  replace hf := mx_sv_el hf; obtain ⟨u49, e_u49, hf⟩ := hf
  refine sx_cs hm dX13_both_18 rs_RX13_454 mt_X13_sign [.int 0, .int 38, .int 38] [.int v48] rfl rfl (Nat.le_of_ble_eq_true rfl) (Nat.le_of_ble_eq_true rfl) (by omega) (by omega) (f_X13_sign_ok X (by omega) (by omega) nn 0 38 38 h e_u49) ?_
  clear e_u49
  show mx_S X F L 443 21 [(2, .int v48), (0, .ref a0), (1, .int a1)] [.int u49.1, .int v48] u49.2 0 0 (some (.int r.1), r.2, 0, 0)
  rcases mx_if_el hf with ⟨c71, hf⟩ | ⟨c71, hf⟩
  · refine sb_ic_eq hm dX13_both_21 (tgt := 36) rfl (fun _ => ?_) (fun z => absurd c71 z)
    refine mx_S.ext [(0, .ref a0), (1, .int a1)] (mx_sub_pos [1, 2] rfl (show ([2, 0, 1] : List Nat).Nodup by decide)) ?_
    exact j_X13_both_36_ok X hF hL nn hrc a0 a1 u49.2 hf
  · refine sb_ic_eq hm dX13_both_21 (tgt := 36) rfl (fun z => absurd z c71) (fun _ => ?_)
    refine mx_S.pu (pc2 := 25) (lv2 := [(2, .int v48), (0, .ref a0), (1, .int a1)]) (st2 := [.int v48]) hm dX13_both_24 rfl ?_
    refine sx_ic (v := 0) hm dX13_both_25 (by decide) ?_
    refine sx_bi (v := 124) hm dX13_both_26 (by decide) ?_
    refine sx_bi (v := 124) hm dX13_both_28 (by decide) ?_
    replace hf := mx_sv_el hf; obtain ⟨u50, e_u50, hf⟩ := hf
    refine sx_cs hm dX13_both_30 rs_RX13_454 mt_X13_sign [.int 0, .int 124, .int 124] [.int v48] rfl rfl (Nat.le_of_ble_eq_true rfl) (Nat.le_of_ble_eq_true rfl) (by omega) (by omega) (f_X13_sign_ok X (by omega) (by omega) nn 0 124 124 u49.2 e_u50) ?_
    clear e_u50
    show mx_S X F L 443 33 [(2, .int v48), (0, .ref a0), (1, .int a1)] [.int u50.1, .int v48] u50.2 0 0 (some (.int r.1), r.2, 0, 0)
    rcases mx_if_el hf with ⟨c70, hf⟩ | ⟨c70, hf⟩
    · refine sb_ic_ne hm dX13_both_33 (tgt := 105) rfl (fun _ => ?_) (fun z => absurd c70 z)
      refine mx_S.pu (pc2 := 106) (lv2 := [(2, .int v48), (0, .ref a0), (1, .int a1)]) (st2 := [.ref a0]) hm dX13_both_105 rfl ?_
      refine mx_S.pu (pc2 := 107) (lv2 := [(2, .int v48), (0, .ref a0), (1, .int a1)]) (st2 := [.int a1, .ref a0]) hm dX13_both_106 rfl ?_
      replace hf := mx_gd_el hf; obtain ⟨c51, hf⟩ := hf
      replace hf := mx_sv_el hf; obtain ⟨u52, e_u52, hf⟩ := hf
      refine sx_cv hm dX13_both_107 rs_RX13_573 mt_X13_led [.int a1] [] (b := a0) (ci := 13) rfl rfl rfl c51 (Nat.le_of_ble_eq_true rfl) (Nat.le_of_ble_eq_true rfl) (by omega) (by omega) (f_X13_led_ok X (by omega) (by omega) nn a0 a1 u50.2 e_u52) ?_
      clear e_u52
      show mx_S X F L 443 110 [(2, .int v48), (0, .ref a0), (1, .int a1)] [.int u52.1] u52.2 0 0 (some (.int r.1), r.2, 0, 0)
      refine mx_S.pu (pc2 := 111) (lv2 := [(3, .int u52.1), (2, .int v48), (0, .ref a0), (1, .int a1)]) (st2 := []) hm dX13_both_110 rfl ?_
      refine mx_S.pu (pc2 := 112) (lv2 := [(3, .int u52.1), (2, .int v48), (0, .ref a0), (1, .int a1)]) (st2 := [.ref a0]) hm dX13_both_111 rfl ?_
      refine mx_S.pu (pc2 := 113) (lv2 := [(3, .int u52.1), (2, .int v48), (0, .ref a0), (1, .int a1)]) (st2 := [.ref a0, .ref a0]) hm dX13_both_112 rfl ?_
      replace hf := mx_sv_el hf; obtain ⟨v53, e_v53, hf⟩ := hf
      refine sx_get hm dX13_both_113 rs_RX13_40 (xgr_el e_v53) ?_
      clear e_v53
      refine mx_S.pu (pc2 := 117) (lv2 := [(3, .int u52.1), (2, .int v48), (0, .ref a0), (1, .int a1)]) (st2 := [.int a1, .ref v53, .ref a0]) hm dX13_both_116 rfl ?_
      replace hf := mx_sv_el hf; obtain ⟨v54, e_v54, hf⟩ := hf
      refine sx_ald hm dX13_both_117 e_v54 ?_
      clear e_v54
      refine mx_S.pu (pc2 := 119) (lv2 := [(3, .int u52.1), (2, .int v48), (0, .ref a0), (1, .int a1)]) (st2 := [.ref a0, .int v54, .ref a0]) hm dX13_both_118 rfl ?_
      refine mx_S.pu (pc2 := 120) (lv2 := [(3, .int u52.1), (2, .int v48), (0, .ref a0), (1, .int a1)]) (st2 := [.ref a0, .ref a0, .int v54, .ref a0]) hm dX13_both_119 rfl ?_
      replace hf := mx_sv_el hf; obtain ⟨v55, e_v55, hf⟩ := hf
      refine sx_get hm dX13_both_120 rs_RX13_40 (xgr_el e_v55) ?_
      clear e_v55
      refine mx_S.pu (pc2 := 124) (lv2 := [(3, .int u52.1), (2, .int v48), (0, .ref a0), (1, .int a1)]) (st2 := [.int a1, .ref v55, .ref a0, .int v54, .ref a0]) hm dX13_both_123 rfl ?_
      replace hf := mx_sv_el hf; obtain ⟨v56, e_v56, hf⟩ := hf
      refine sx_ald hm dX13_both_124 e_v56 ?_
      clear e_v56
      replace hf := mx_gd_el hf; obtain ⟨c57, hf⟩ := hf
      replace hf := mx_sv_el hf; obtain ⟨u58, e_u58, hf⟩ := hf
      refine sx_cv hm dX13_both_125 rs_RX13_546 mt_X13_worked [.int v56] [.int v54, .ref a0] (b := a0) (ci := 13) rfl rfl rfl c57 (Nat.le_of_ble_eq_true rfl) (Nat.le_of_ble_eq_true rfl) (by omega) (by omega) (hrc.2.2.1 (by omega) (by omega) a0 v56 u52.2 e_u58) ?_
      clear e_u58
      show mx_S X F L 443 128 [(3, .int u52.1), (2, .int v48), (0, .ref a0), (1, .int a1)] [.int u58.1, .int v54, .ref a0] u58.2 0 0 (some (.int r.1), r.2, 0, 0)
      replace hf := mx_gd_el hf; obtain ⟨c59, hf⟩ := hf
      replace hf := mx_sv_el hf; obtain ⟨u60, e_u60, hf⟩ := hf
      refine sx_cv hm dX13_both_128 rs_RX13_585 mt_X13_side [.int v54, .int u58.1] [] (b := a0) (ci := 13) rfl rfl rfl c59 (Nat.le_of_ble_eq_true rfl) (Nat.le_of_ble_eq_true rfl) (by omega) (by omega) (f_X13_side_ok X (by omega) (by omega) nn a0 v54 u58.1 u58.2 e_u60) ?_
      clear e_u60
      show mx_S X F L 443 131 [(3, .int u52.1), (2, .int v48), (0, .ref a0), (1, .int a1)] [.int u60.1] u60.2 0 0 (some (.int r.1), r.2, 0, 0)
      refine mx_S.pu (pc2 := 133) (lv2 := [(4, .int u60.1), (3, .int u52.1), (2, .int v48), (0, .ref a0), (1, .int a1)]) (st2 := []) hm dX13_both_131 rfl ?_
      refine mx_S.pu (pc2 := 134) (lv2 := [(4, .int u60.1), (3, .int u52.1), (2, .int v48), (0, .ref a0), (1, .int a1)]) (st2 := [.ref a0]) hm dX13_both_133 rfl ?_
      replace hf := mx_sv_el hf; obtain ⟨v61, e_v61, hf⟩ := hf
      refine sx_get hm dX13_both_134 rs_RX13_319 (xgi_el e_v61) ?_
      clear e_v61
      rcases mx_if_el hf with ⟨c69, hf⟩ | ⟨c69, hf⟩
      · refine sb_if_eq hm dX13_both_137 (tgt := 142) rfl (fun _ => ?_) (fun z => absurd c69 z)
        refine mx_S.pu (pc2 := 143) (lv2 := [(4, .int u60.1), (3, .int u52.1), (2, .int v48), (0, .ref a0), (1, .int a1)]) (st2 := [.int v48]) hm dX13_both_142 rfl ?_
        refine sx_ic (v := 0) hm dX13_both_143 (by decide) ?_
        refine sx_bi (v := 61) hm dX13_both_144 (by decide) ?_
        refine sx_bi (v := 61) hm dX13_both_146 (by decide) ?_
        replace hf := mx_sv_el hf; obtain ⟨u62, e_u62, hf⟩ := hf
        refine sx_cs hm dX13_both_148 rs_RX13_454 mt_X13_sign [.int 0, .int 61, .int 61] [.int v48] rfl rfl (Nat.le_of_ble_eq_true rfl) (Nat.le_of_ble_eq_true rfl) (by omega) (by omega) (f_X13_sign_ok X (by omega) (by omega) nn 0 61 61 u60.2 e_u62) ?_
        clear e_u62
        show mx_S X F L 443 151 [(4, .int u60.1), (3, .int u52.1), (2, .int v48), (0, .ref a0), (1, .int a1)] [.int u62.1, .int v48] u62.2 0 0 (some (.int r.1), r.2, 0, 0)
        rcases mx_if_el hf with ⟨c68, hf⟩ | ⟨c68, hf⟩
        · refine sb_ic_eq hm dX13_both_151 (tgt := 166) rfl (fun _ => ?_) (fun z => absurd c68 z)
          refine mx_S.ext [(0, .ref a0), (1, .int a1), (3, .int u52.1), (4, .int u60.1)] (mx_sub_pos [3, 4, 1, 0] rfl (show ([4, 3, 2, 0, 1] : List Nat).Nodup by decide)) ?_
          exact j_X13_both_166_ok X hF hL nn hrc a0 a1 u52.1 u60.1 u62.2 hf
        · refine sb_ic_eq hm dX13_both_151 (tgt := 166) rfl (fun z => absurd z c68) (fun _ => ?_)
          refine mx_S.pu (pc2 := 155) (lv2 := [(4, .int u60.1), (3, .int u52.1), (2, .int v48), (0, .ref a0), (1, .int a1)]) (st2 := [.int v48]) hm dX13_both_154 rfl ?_
          refine sx_ic (v := 0) hm dX13_both_155 (by decide) ?_
          refine sx_bi (v := 33) hm dX13_both_156 (by decide) ?_
          refine sx_bi (v := 61) hm dX13_both_158 (by decide) ?_
          replace hf := mx_sv_el hf; obtain ⟨u63, e_u63, hf⟩ := hf
          refine sx_cs hm dX13_both_160 rs_RX13_454 mt_X13_sign [.int 0, .int 33, .int 61] [.int v48] rfl rfl (Nat.le_of_ble_eq_true rfl) (Nat.le_of_ble_eq_true rfl) (by omega) (by omega) (f_X13_sign_ok X (by omega) (by omega) nn 0 33 61 u62.2 e_u63) ?_
          clear e_u63
          show mx_S X F L 443 163 [(4, .int u60.1), (3, .int u52.1), (2, .int v48), (0, .ref a0), (1, .int a1)] [.int u63.1, .int v48] u63.2 0 0 (some (.int r.1), r.2, 0, 0)
          rcases mx_if_el hf with ⟨c67, hf⟩ | ⟨c67, hf⟩
          · refine sb_ic_ne hm dX13_both_163 (tgt := 190) rfl (fun _ => ?_) (fun z => absurd c67 z)
            refine mx_S.pu (pc2 := 191) (lv2 := [(4, .int u60.1), (3, .int u52.1), (2, .int v48), (0, .ref a0), (1, .int a1)]) (st2 := [.int v48]) hm dX13_both_190 rfl ?_
            refine sx_bi (v := 38) hm dX13_both_191 (by decide) ?_
            rcases mx_if_el hf with ⟨c66, hf⟩ | ⟨c66, hf⟩
            · refine sb_ic_eq hm dX13_both_193 (tgt := 208) rfl (fun _ => ?_) (fun z => absurd c66 z)
              refine mx_S.ext [(0, .ref a0), (1, .int a1), (3, .int u52.1), (4, .int u60.1)] (mx_sub_pos [3, 4, 1, 0] rfl (show ([4, 3, 2, 0, 1] : List Nat).Nodup by decide)) ?_
              exact j_X13_both_208_ok X hF hL nn hrc a0 a1 u52.1 u60.1 u63.2 hf
            · refine sb_ic_eq hm dX13_both_193 (tgt := 208) rfl (fun z => absurd z c66) (fun _ => ?_)
              refine mx_S.pu (pc2 := 197) (lv2 := [(4, .int u60.1), (3, .int u52.1), (2, .int v48), (0, .ref a0), (1, .int a1)]) (st2 := [.int v48]) hm dX13_both_196 rfl ?_
              refine sx_bi (v := 124) hm dX13_both_197 (by decide) ?_
              rcases mx_if_el hf with ⟨c65, hf⟩ | ⟨c65, hf⟩
              · refine sb_ic_eq hm dX13_both_199 (tgt := 208) rfl (fun _ => ?_) (fun z => absurd c65 z)
                refine mx_S.ext [(0, .ref a0), (1, .int a1), (3, .int u52.1), (4, .int u60.1)] (mx_sub_pos [3, 4, 1, 0] rfl (show ([4, 3, 2, 0, 1] : List Nat).Nodup by decide)) ?_
                exact j_X13_both_208_ok X hF hL nn hrc a0 a1 u52.1 u60.1 u63.2 hf
              · refine sb_ic_eq hm dX13_both_199 (tgt := 208) rfl (fun z => absurd z c65) (fun _ => ?_)
                refine mx_S.pu (pc2 := 203) (lv2 := [(4, .int u60.1), (3, .int u52.1), (2, .int v48), (0, .ref a0), (1, .int a1)]) (st2 := [.int v48]) hm dX13_both_202 rfl ?_
                refine sx_bi (v := 94) hm dX13_both_203 (by decide) ?_
                rcases mx_if_el hf with ⟨c64, hf⟩ | ⟨c64, hf⟩
                · refine sb_ic_ne hm dX13_both_205 (tgt := 212) rfl (fun _ => ?_) (fun z => absurd c64 z)
                  refine sx_ic (v := 0) hm dX13_both_212 (by decide) ?_
                  refine mx_S.ext [(0, .ref a0), (1, .int a1), (3, .int u52.1), (4, .int u60.1)] (mx_sub_pos [3, 4, 1, 0] rfl (show ([4, 3, 2, 0, 1] : List Nat).Nodup by decide)) ?_
                  exact j_X13_both_213_ok X hF hL nn hrc a0 a1 u52.1 u60.1 0 u63.2 hf
                · refine sb_ic_ne hm dX13_both_205 (tgt := 212) rfl (fun z => absurd z c64) (fun _ => ?_)
                  refine mx_S.ext [(0, .ref a0), (1, .int a1), (3, .int u52.1), (4, .int u60.1)] (mx_sub_pos [3, 4, 1, 0] rfl (show ([4, 3, 2, 0, 1] : List Nat).Nodup by decide)) ?_
                  exact j_X13_both_208_ok X hF hL nn hrc a0 a1 u52.1 u60.1 u63.2 hf
          · refine sb_ic_ne hm dX13_both_163 (tgt := 190) rfl (fun z => absurd z c67) (fun _ => ?_)
            refine mx_S.ext [(0, .ref a0), (1, .int a1), (3, .int u52.1), (4, .int u60.1)] (mx_sub_pos [3, 4, 1, 0] rfl (show ([4, 3, 2, 0, 1] : List Nat).Nodup by decide)) ?_
            exact j_X13_both_166_ok X hF hL nn hrc a0 a1 u52.1 u60.1 u63.2 hf
      · refine sb_if_eq hm dX13_both_137 (tgt := 142) rfl (fun z => absurd z c69) (fun _ => ?_)
        refine sx_ic (v := 0) hm dX13_both_140 (by decide) ?_
        cases hf
        exact sx_ire hm dX13_both_141 rfl rfl
    · refine sb_ic_ne hm dX13_both_33 (tgt := 105) rfl (fun z => absurd z c70) (fun _ => ?_)
      refine mx_S.ext [(0, .ref a0), (1, .int a1)] (mx_sub_pos [1, 2] rfl (show ([2, 0, 1] : List Nat).Nodup by decide)) ?_
      exact j_X13_both_36_ok X hF hL nn hrc a0 a1 u50.2 hf
set_option maxHeartbeats 4000000 in
set_option maxRecDepth 20000 in
theorem j_X13_invoked_237_ok (X : Nat × (Nat → Int32)) {F L d : Nat} (hF : 6 + (d + 1) ≤ F) (hL : 135 + (d + 1) * 27 ≤ L) (nn : Nat) {rc : tg_X13_condition} (hrc : hg5_X13_condition X d rc) (s0 : Int32) (s1 : Int32) (s2 : Int32) (s3 : Nat) (h : mx_H) {r : (Int32 × mx_H)} (hf : j_X13_invoked_237 nn rc s0 s1 s2 s3 h = some r) : mx_S X F L 446 237 [] [.int s0, .int s1, .int s2, .ref s3] h 0 0 (some (.int r.1), r.2, 0, 0) := by
  have hm : mx_mt 446 = some (yX13_invoked, cX13_invoked, 6, (some .int)) := mt_X13_invoked
  unfold j_X13_invoked_237 at hf
  replace hf := mx_gd_el hf; obtain ⟨c1, hf⟩ := hf
  replace hf := mx_sv_el hf; obtain ⟨u2, e_u2, hf⟩ := hf
  refine sx_cv hm dX13_invoked_237 rs_RX13_564 mt_X13_called [.int s2, .int s1, .int s0] [] (b := s3) (ci := 13) rfl rfl rfl c1 (Nat.le_of_ble_eq_true rfl) (Nat.le_of_ble_eq_true rfl) (by omega) (by omega) (hrc.2.2.2.2.2.2 (by omega) (by omega) s3 s2 s1 s0 h e_u2) ?_
  clear e_u2
  show mx_S X F L 446 240 [] [.int u2.1] u2.2 0 0 (some (.int r.1), r.2, 0, 0)
  refine mx_S.pu (pc2 := 242) (lv2 := [(5, .int u2.1)]) (st2 := []) hm dX13_invoked_240 rfl ?_
  refine mx_S.pu (pc2 := 244) (lv2 := [(5, .int u2.1)]) (st2 := [.int u2.1]) hm dX13_invoked_242 rfl ?_
  cases hf
  exact sx_ire hm dX13_invoked_244 rfl rfl
set_option maxHeartbeats 4000000 in
set_option maxRecDepth 20000 in
theorem j_X13_invoked_232_ok (X : Nat × (Nat → Int32)) {F L d : Nat} (hF : 6 + (d + 1) ≤ F) (hL : 135 + (d + 1) * 27 ≤ L) (nn : Nat) {rc : tg_X13_condition} (hrc : hg5_X13_condition X d rc) (s0 : Int32) (s1 : Int32) (s2 : Nat) (h : mx_H) {r : (Int32 × mx_H)} (hf : j_X13_invoked_232 nn rc s0 s1 s2 h = some r) : mx_S X F L 446 232 [] [.int s0, .int s1, .ref s2] h 0 0 (some (.int r.1), r.2, 0, 0) := by
  have hm : mx_mt 446 = some (yX13_invoked, cX13_invoked, 6, (some .int)) := mt_X13_invoked
  unfold j_X13_invoked_232 at hf
  refine sx_ic (v := 1) hm dX13_invoked_232 (by decide) ?_
  refine mx_S.pu (pc2 := 237) (lv2 := []) (st2 := [.int 1, .int s0, .int s1, .ref s2]) hm dX13_invoked_233 rfl ?_
  exact j_X13_invoked_237_ok X hF hL nn hrc 1 s0 s1 s2 h hf
set_option maxHeartbeats 4000000 in
set_option maxRecDepth 20000 in
theorem j_X13_invoked_228_ok (X : Nat × (Nat → Int32)) {F L d : Nat} (hF : 6 + (d + 1) ≤ F) (hL : 135 + (d + 1) * 27 ≤ L) (nn : Nat) {rc : tg_X13_condition} (hrc : hg5_X13_condition X d rc) (l3 : Int32) (s0 : Int32) (s1 : Int32) (s2 : Int32) (s3 : Nat) (h : mx_H) {r : (Int32 × mx_H)} (hf : j_X13_invoked_228 nn rc l3 s0 s1 s2 s3 h = some r) : mx_S X F L 446 228 [(3, .int l3)] [.int s0, .int s1, .int s2, .ref s3] h 0 0 (some (.int r.1), r.2, 0, 0) := by
  have hm : mx_mt 446 = some (yX13_invoked, cX13_invoked, 6, (some .int)) := mt_X13_invoked
  unfold j_X13_invoked_228 at hf
  refine mx_S.pu (pc2 := 229) (lv2 := [(3, .int l3)]) (st2 := [.int l3, .int s0, .int s1, .int s2, .ref s3]) hm dX13_invoked_228 rfl ?_
  rcases mx_if_el hf with ⟨c3, hf⟩ | ⟨c3, hf⟩
  · refine sb_ic_ne hm dX13_invoked_229 (tgt := 236) rfl (fun _ => ?_) (fun z => absurd c3 z)
    refine sx_ic (v := 0) hm dX13_invoked_236 (by decide) ?_
    refine mx_S.ext [] (mx_sub_pos [] rfl (show ([3] : List Nat).Nodup by decide)) ?_
    exact j_X13_invoked_237_ok X hF hL nn hrc 0 s1 s2 s3 h hf
  · refine sb_ic_ne hm dX13_invoked_229 (tgt := 236) rfl (fun z => absurd z c3) (fun _ => ?_)
    refine mx_S.ext [] (mx_sub_pos [] rfl (show ([3] : List Nat).Nodup by decide)) ?_
    exact j_X13_invoked_232_ok X hF hL nn hrc s1 s2 s3 h hf
set_option maxHeartbeats 4000000 in
set_option maxRecDepth 20000 in
theorem j_X13_invoked_193_ok (X : Nat × (Nat → Int32)) {F L d : Nat} (hF : 6 + (d + 1) ≤ F) (hL : 135 + (d + 1) * 27 ≤ L) (nn : Nat) {rc : tg_X13_condition} (hrc : hg5_X13_condition X d rc) (l0 : Nat) (l1 : Int32) (l3 : Int32) (h : mx_H) {r : (Int32 × mx_H)} (hf : j_X13_invoked_193 nn rc l0 l1 l3 h = some r) : mx_S X F L 446 193 [(0, .ref l0), (1, .int l1), (3, .int l3)] [] h 0 0 (some (.int r.1), r.2, 0, 0) := by
  have hm : mx_mt 446 = some (yX13_invoked, cX13_invoked, 6, (some .int)) := mt_X13_invoked
  unfold j_X13_invoked_193 at hf
  refine mx_S.pu (pc2 := 194) (lv2 := [(0, .ref l0), (1, .int l1), (3, .int l3)]) (st2 := [.ref l0]) hm dX13_invoked_193 rfl ?_
  refine mx_S.pu (pc2 := 195) (lv2 := [(0, .ref l0), (1, .int l1), (3, .int l3)]) (st2 := [.int l1, .ref l0]) hm dX13_invoked_194 rfl ?_
  refine mx_S.pu (pc2 := 196) (lv2 := [(0, .ref l0), (1, .int l1), (3, .int l3)]) (st2 := [.ref l0, .int l1, .ref l0]) hm dX13_invoked_195 rfl ?_
  replace hf := mx_sv_el hf; obtain ⟨v4, e_v4, hf⟩ := hf
  refine sx_get hm dX13_invoked_196 rs_RX13_52 (xgr_el e_v4) ?_
  clear e_v4
  refine mx_S.pu (pc2 := 200) (lv2 := [(0, .ref l0), (1, .int l1), (3, .int l3)]) (st2 := [.int l1, .ref v4, .int l1, .ref l0]) hm dX13_invoked_199 rfl ?_
  replace hf := mx_sv_el hf; obtain ⟨v5, e_v5, hf⟩ := hf
  refine sx_ald hm dX13_invoked_200 e_v5 ?_
  clear e_v5
  refine mx_S.pu (pc2 := 202) (lv2 := [(0, .ref l0), (1, .int l1), (3, .int l3)]) (st2 := [.ref l0, .int v5, .int l1, .ref l0]) hm dX13_invoked_201 rfl ?_
  replace hf := mx_sv_el hf; obtain ⟨v6, e_v6, hf⟩ := hf
  refine sx_get hm dX13_invoked_202 rs_RX13_319 (xgi_el e_v6) ?_
  clear e_v6
  rcases mx_if_el hf with ⟨c12, hf⟩ | ⟨c12, hf⟩
  · refine sb_if_ne hm dX13_invoked_205 (tgt := 232) rfl (fun _ => ?_) (fun z => absurd c12 z)
    refine mx_S.ext [] (mx_sub_pos [] rfl (show ([0, 1, 3] : List Nat).Nodup by decide)) ?_
    exact j_X13_invoked_232_ok X hF hL nn hrc v5 l1 l0 h hf
  · refine sb_if_ne hm dX13_invoked_205 (tgt := 232) rfl (fun z => absurd z c12) (fun _ => ?_)
    refine mx_S.pu (pc2 := 209) (lv2 := [(0, .ref l0), (1, .int l1), (3, .int l3)]) (st2 := [.ref l0, .int v5, .int l1, .ref l0]) hm dX13_invoked_208 rfl ?_
    replace hf := mx_sv_el hf; obtain ⟨v7, e_v7, hf⟩ := hf
    refine sx_get hm dX13_invoked_209 rs_RX13_74 (xgr_el e_v7) ?_
    clear e_v7
    refine mx_S.pu (pc2 := 213) (lv2 := [(0, .ref l0), (1, .int l1), (3, .int l3)]) (st2 := [.ref l0, .ref v7, .int v5, .int l1, .ref l0]) hm dX13_invoked_212 rfl ?_
    replace hf := mx_sv_el hf; obtain ⟨v8, e_v8, hf⟩ := hf
    refine sx_get hm dX13_invoked_213 rs_RX13_52 (xgr_el e_v8) ?_
    clear e_v8
    refine mx_S.pu (pc2 := 217) (lv2 := [(0, .ref l0), (1, .int l1), (3, .int l3)]) (st2 := [.int l1, .ref v8, .ref v7, .int v5, .int l1, .ref l0]) hm dX13_invoked_216 rfl ?_
    replace hf := mx_sv_el hf; obtain ⟨v9, e_v9, hf⟩ := hf
    refine sx_ald hm dX13_invoked_217 e_v9 ?_
    clear e_v9
    replace hf := mx_sv_el hf; obtain ⟨v10, e_v10, hf⟩ := hf
    refine sx_ald hm dX13_invoked_218 e_v10 ?_
    clear e_v10
    refine sx_ic (v := 2) hm dX13_invoked_219 (by decide) ?_
    rcases mx_if_el hf with ⟨c11, hf⟩ | ⟨c11, hf⟩
    · refine sb_ic_ne hm dX13_invoked_220 (tgt := 227) rfl (fun _ => ?_) (fun z => absurd c11 z)
      refine sx_ic (v := 0) hm dX13_invoked_227 (by decide) ?_
      refine mx_S.ext [(3, .int l3)] (mx_sub_pos [2] rfl (show ([0, 1, 3] : List Nat).Nodup by decide)) ?_
      exact j_X13_invoked_228_ok X hF hL nn hrc l3 0 v5 l1 l0 h hf
    · refine sb_ic_ne hm dX13_invoked_220 (tgt := 227) rfl (fun z => absurd z c11) (fun _ => ?_)
      refine sx_ic (v := 1) hm dX13_invoked_223 (by decide) ?_
      refine mx_S.pu (pc2 := 228) (lv2 := [(0, .ref l0), (1, .int l1), (3, .int l3)]) (st2 := [.int 1, .int v5, .int l1, .ref l0]) hm dX13_invoked_224 rfl ?_
      refine mx_S.ext [(3, .int l3)] (mx_sub_pos [2] rfl (show ([0, 1, 3] : List Nat).Nodup by decide)) ?_
      exact j_X13_invoked_228_ok X hF hL nn hrc l3 1 v5 l1 l0 h hf
set_option maxHeartbeats 4000000 in
set_option maxRecDepth 20000 in
theorem j_X13_invoked_152_ok (X : Nat × (Nat → Int32)) {F L d : Nat} (hF : 6 + (d + 1) ≤ F) (hL : 135 + (d + 1) * 27 ≤ L) (nn : Nat) {rc : tg_X13_condition} (hrc : hg5_X13_condition X d rc) (l0 : Nat) (l1 : Int32) (l3 : Int32) (l4 : Int32) (s0 : Int32) (s1 : Int32) (s2 : Nat) (h : mx_H) {r : (Int32 × mx_H)} (hf : j_X13_invoked_152 nn rc l0 l1 l3 l4 s0 s1 s2 h = some r) : mx_S X F L 446 152 [(0, .ref l0), (1, .int l1), (3, .int l3), (4, .int l4)] [.int s0, .int s1, .ref s2] h 0 0 (some (.int r.1), r.2, 0, 0) := by
  have hm : mx_mt 446 = some (yX13_invoked, cX13_invoked, 6, (some .int)) := mt_X13_invoked
  unfold j_X13_invoked_152 at hf
  replace hf := mx_sv_el hf; obtain ⟨h13, e_h13, hf⟩ := hf
  refine sx_ast hm dX13_invoked_152 e_h13 ?_
  clear e_h13
  refine mx_S.pu (pc2 := 154) (lv2 := [(0, .ref l0), (1, .int l1), (3, .int l3), (4, .int l4)]) (st2 := [.ref l0]) hm dX13_invoked_153 rfl ?_
  replace hf := mx_sv_el hf; obtain ⟨v14, e_v14, hf⟩ := hf
  refine sx_get hm dX13_invoked_154 rs_RX13_52 (xgr_el e_v14) ?_
  clear e_v14
  refine mx_S.pu (pc2 := 158) (lv2 := [(0, .ref l0), (1, .int l1), (3, .int l3), (4, .int l4)]) (st2 := [.int l1, .ref v14]) hm dX13_invoked_157 rfl ?_
  refine mx_S.pu (pc2 := 159) (lv2 := [(0, .ref l0), (1, .int l1), (3, .int l3), (4, .int l4)]) (st2 := [.ref l0, .int l1, .ref v14]) hm dX13_invoked_158 rfl ?_
  refine mx_S.pu (pc2 := 161) (lv2 := [(0, .ref l0), (1, .int l1), (3, .int l3), (4, .int l4)]) (st2 := [.int l4, .ref l0, .int l1, .ref v14]) hm dX13_invoked_159 rfl ?_
  refine mx_S.pu (pc2 := 162) (lv2 := [(0, .ref l0), (1, .int l1), (3, .int l3), (4, .int l4)]) (st2 := [.ref l0, .int l4, .ref l0, .int l1, .ref v14]) hm dX13_invoked_161 rfl ?_
  replace hf := mx_sv_el hf; obtain ⟨v15, e_v15, hf⟩ := hf
  refine sx_get hm dX13_invoked_162 rs_RX13_31 (xgr_el e_v15) ?_
  clear e_v15
  refine mx_S.pu (pc2 := 166) (lv2 := [(0, .ref l0), (1, .int l1), (3, .int l3), (4, .int l4)]) (st2 := [.int l1, .ref v15, .int l4, .ref l0, .int l1, .ref v14]) hm dX13_invoked_165 rfl ?_
  replace hf := mx_sv_el hf; obtain ⟨v16, e_v16, hf⟩ := hf
  refine sx_ald hm dX13_invoked_166 e_v16 ?_
  clear e_v16
  refine sx_ic (v := 1) hm dX13_invoked_167 (by decide) ?_
  replace hf := mx_gd_el hf; obtain ⟨c17, hf⟩ := hf
  replace hf := mx_sv_el hf; obtain ⟨u18, e_u18, hf⟩ := hf
  refine sx_cv hm dX13_invoked_168 rs_RX13_507 mt_X13_memberOf [.int l4, .int v16, .int 1] [.int l1, .ref v14] (b := l0) (ci := 13) rfl rfl rfl c17 (Nat.le_of_ble_eq_true rfl) (Nat.le_of_ble_eq_true rfl) (by omega) (by omega) (f_X13_memberOf_ok X (by omega) (by omega) nn l0 l4 v16 1 h13 e_u18) ?_
  clear e_u18
  show mx_S X F L 446 171 [(0, .ref l0), (1, .int l1), (3, .int l3), (4, .int l4)] [.int u18.1, .int l1, .ref v14] u18.2 0 0 (some (.int r.1), r.2, 0, 0)
  replace hf := mx_sv_el hf; obtain ⟨h19, e_h19, hf⟩ := hf
  refine sx_ast hm dX13_invoked_171 e_h19 ?_
  clear e_h19
  refine mx_S.pu (pc2 := 173) (lv2 := [(0, .ref l0), (1, .int l1), (3, .int l3), (4, .int l4)]) (st2 := [.ref l0]) hm dX13_invoked_172 rfl ?_
  replace hf := mx_sv_el hf; obtain ⟨v20, e_v20, hf⟩ := hf
  refine sx_get hm dX13_invoked_173 rs_RX13_52 (xgr_el e_v20) ?_
  clear e_v20
  refine mx_S.pu (pc2 := 177) (lv2 := [(0, .ref l0), (1, .int l1), (3, .int l3), (4, .int l4)]) (st2 := [.int l1, .ref v20]) hm dX13_invoked_176 rfl ?_
  replace hf := mx_sv_el hf; obtain ⟨v21, e_v21, hf⟩ := hf
  refine sx_ald hm dX13_invoked_177 e_v21 ?_
  clear e_v21
  refine sx_ic (v := (-1)) hm dX13_invoked_178 (by decide) ?_
  rcases mx_if_el hf with ⟨c26, hf⟩ | ⟨c26, hf⟩
  · refine sb_ic_ne hm dX13_invoked_179 (tgt := 193) rfl (fun _ => ?_) (fun z => absurd c26 z)
    refine mx_S.ext [(0, .ref l0), (1, .int l1), (3, .int l3)] (mx_sub_pos [0, 1, 2] rfl (show ([0, 1, 3, 4] : List Nat).Nodup by decide)) ?_
    exact j_X13_invoked_193_ok X hF hL nn hrc l0 l1 l3 h19 hf
  · refine sb_ic_ne hm dX13_invoked_179 (tgt := 193) rfl (fun z => absurd z c26) (fun _ => ?_)
    refine mx_S.pu (pc2 := 183) (lv2 := [(0, .ref l0), (1, .int l1), (3, .int l3), (4, .int l4)]) (st2 := [.ref l0]) hm dX13_invoked_182 rfl ?_
    refine sx_ic (v := 5) hm dX13_invoked_183 (by decide) ?_
    refine mx_S.pu (pc2 := 185) (lv2 := [(0, .ref l0), (1, .int l1), (3, .int l3), (4, .int l4)]) (st2 := [.ref l0, .int 5, .ref l0]) hm dX13_invoked_184 rfl ?_
    replace hf := mx_sv_el hf; obtain ⟨v22, e_v22, hf⟩ := hf
    refine sx_get hm dX13_invoked_185 rs_RX13_31 (xgr_el e_v22) ?_
    clear e_v22
    refine mx_S.pu (pc2 := 189) (lv2 := [(0, .ref l0), (1, .int l1), (3, .int l3), (4, .int l4)]) (st2 := [.int l1, .ref v22, .int 5, .ref l0]) hm dX13_invoked_188 rfl ?_
    replace hf := mx_sv_el hf; obtain ⟨v23, e_v23, hf⟩ := hf
    refine sx_ald hm dX13_invoked_189 e_v23 ?_
    clear e_v23
    replace hf := mx_gd_el hf; obtain ⟨c24, hf⟩ := hf
    replace hf := mx_sv_el hf; obtain ⟨u25, e_u25, hf⟩ := hf
    refine sx_cv hm dX13_invoked_190 rs_RX13_379 mt_X13_wrong [.int 5, .int v23] [] (b := l0) (ci := 13) rfl rfl rfl c24 (Nat.le_of_ble_eq_true rfl) (Nat.le_of_ble_eq_true rfl) (by omega) (by omega) (f_X13_wrong_ok X (by omega) (by omega) nn l0 5 v23 h19 e_u25) ?_
    clear e_u25
    show mx_S X F L 446 193 [(0, .ref l0), (1, .int l1), (3, .int l3), (4, .int l4)] [] u25 0 0 (some (.int r.1), r.2, 0, 0)
    refine mx_S.ext [(0, .ref l0), (1, .int l1), (3, .int l3)] (mx_sub_pos [0, 1, 2] rfl (show ([0, 1, 3, 4] : List Nat).Nodup by decide)) ?_
    exact j_X13_invoked_193_ok X hF hL nn hrc l0 l1 l3 u25 hf
set_option maxHeartbeats 4000000 in
set_option maxRecDepth 20000 in
theorem j_X13_invoked_128_ok (X : Nat × (Nat → Int32)) {F L d : Nat} (hF : 6 + (d + 1) ≤ F) (hL : 135 + (d + 1) * 27 ≤ L) (nn : Nat) {rc : tg_X13_condition} (hrc : hg5_X13_condition X d rc) (l0 : Nat) (l1 : Int32) (l3 : Int32) (l4 : Int32) (h : mx_H) {r : (Int32 × mx_H)} (hf : j_X13_invoked_128 nn rc l0 l1 l3 l4 h = some r) : mx_S X F L 446 128 [(0, .ref l0), (1, .int l1), (3, .int l3), (4, .int l4)] [] h 0 0 (some (.int r.1), r.2, 0, 0) := by
  have hm : mx_mt 446 = some (yX13_invoked, cX13_invoked, 6, (some .int)) := mt_X13_invoked
  unfold j_X13_invoked_128 at hf
  refine mx_S.pu (pc2 := 129) (lv2 := [(0, .ref l0), (1, .int l1), (3, .int l3), (4, .int l4)]) (st2 := [.ref l0]) hm dX13_invoked_128 rfl ?_
  replace hf := mx_sv_el hf; obtain ⟨v27, e_v27, hf⟩ := hf
  refine sx_get hm dX13_invoked_129 rs_RX13_319 (xgi_el e_v27) ?_
  clear e_v27
  rcases mx_if_el hf with ⟨c30, hf⟩ | ⟨c30, hf⟩
  · refine sb_if_eq hm dX13_invoked_132 (tgt := 137) rfl (fun _ => ?_) (fun z => absurd c30 z)
    refine mx_S.pu (pc2 := 138) (lv2 := [(0, .ref l0), (1, .int l1), (3, .int l3), (4, .int l4)]) (st2 := [.ref l0]) hm dX13_invoked_137 rfl ?_
    replace hf := mx_sv_el hf; obtain ⟨v28, e_v28, hf⟩ := hf
    refine sx_get hm dX13_invoked_138 rs_RX13_55 (xgr_el e_v28) ?_
    clear e_v28
    refine mx_S.pu (pc2 := 142) (lv2 := [(0, .ref l0), (1, .int l1), (3, .int l3), (4, .int l4)]) (st2 := [.int l1, .ref v28]) hm dX13_invoked_141 rfl ?_
    refine mx_S.pu (pc2 := 143) (lv2 := [(0, .ref l0), (1, .int l1), (3, .int l3), (4, .int l4)]) (st2 := [.int l3, .int l1, .ref v28]) hm dX13_invoked_142 rfl ?_
    rcases mx_if_el hf with ⟨c29, hf⟩ | ⟨c29, hf⟩
    · refine sb_if_eq hm dX13_invoked_143 (tgt := 151) rfl (fun _ => ?_) (fun z => absurd c29 z)
      refine sx_ic (v := (-1)) hm dX13_invoked_151 (by decide) ?_
      exact j_X13_invoked_152_ok X hF hL nn hrc l0 l1 l3 l4 (-1) l1 v28 h hf
    · refine sb_if_eq hm dX13_invoked_143 (tgt := 151) rfl (fun z => absurd z c29) (fun _ => ?_)
      refine mx_S.pu (pc2 := 148) (lv2 := [(0, .ref l0), (1, .int l1), (3, .int l3), (4, .int l4)]) (st2 := [.int l4, .int l1, .ref v28]) hm dX13_invoked_146 rfl ?_
      refine mx_S.pu (pc2 := 152) (lv2 := [(0, .ref l0), (1, .int l1), (3, .int l3), (4, .int l4)]) (st2 := [.int l4, .int l1, .ref v28]) hm dX13_invoked_148 rfl ?_
      exact j_X13_invoked_152_ok X hF hL nn hrc l0 l1 l3 l4 l4 l1 v28 h hf
  · refine sb_if_eq hm dX13_invoked_132 (tgt := 137) rfl (fun z => absurd z c30) (fun _ => ?_)
    refine sx_ic (v := 0) hm dX13_invoked_135 (by decide) ?_
    cases hf
    exact sx_ire hm dX13_invoked_136 rfl rfl
set_option maxHeartbeats 4000000 in
set_option maxRecDepth 20000 in
theorem j_X13_invoked_119_ok (X : Nat × (Nat → Int32)) {F L d : Nat} (hF : 6 + (d + 1) ≤ F) (hL : 135 + (d + 1) * 27 ≤ L) (nn : Nat) {rc : tg_X13_condition} (hrc : hg5_X13_condition X d rc) (l0 : Nat) (l1 : Int32) (l3 : Int32) (l5 : Int32) (h : mx_H) {r : (Int32 × mx_H)} (hf : j_X13_invoked_119 nn rc l0 l1 l3 l5 h = some r) : mx_S X F L 446 119 [(0, .ref l0), (1, .int l1), (3, .int l3), (5, .int l5)] [] h 0 0 (some (.int r.1), r.2, 0, 0) := by
  have hm : mx_mt 446 = some (yX13_invoked, cX13_invoked, 6, (some .int)) := mt_X13_invoked
  unfold j_X13_invoked_119 at hf
  refine mx_S.pu (pc2 := 121) (lv2 := [(0, .ref l0), (1, .int l1), (3, .int l3), (5, .int l5)]) (st2 := [.int l5]) hm dX13_invoked_119 rfl ?_
  refine sx_bi (v := 8) hm dX13_invoked_121 (by decide) ?_
  replace hf := xl_el hf; obtain ⟨v31, e_v31, hf⟩ := hf
  refine mx_S.pu (pc2 := 124) (lv2 := [(0, .ref l0), (1, .int l1), (3, .int l3), (5, .int l5)]) (st2 := [.int v31]) hm dX13_invoked_123 (by rw [← e_v31]; rfl) ?_
  clear e_v31
  refine sx_ic (v := 2) hm dX13_invoked_124 (by decide) ?_
  replace hf := xl_el hf; obtain ⟨v32, e_v32, hf⟩ := hf
  refine sx_idiv (v := v32) hm dX13_invoked_125 (by decide) e_v32 ?_
  clear e_v32
  refine mx_S.pu (pc2 := 128) (lv2 := [(4, .int v32), (0, .ref l0), (1, .int l1), (3, .int l3), (5, .int l5)]) (st2 := []) hm dX13_invoked_126 rfl ?_
  refine mx_S.ext [(0, .ref l0), (1, .int l1), (3, .int l3), (4, .int v32)] (mx_sub_pos [1, 2, 3, 0] rfl (show ([4, 0, 1, 3, 5] : List Nat).Nodup by decide)) ?_
  exact j_X13_invoked_128_ok X hF hL nn hrc l0 l1 l3 v32 h hf
set_option maxHeartbeats 4000000 in
set_option maxRecDepth 20000 in
theorem j_X13_invoked_86_ok (X : Nat × (Nat → Int32)) {F L d : Nat} (hF : 6 + (d + 1) ≤ F) (hL : 135 + (d + 1) * 27 ≤ L) (nn : Nat) {rc : tg_X13_condition} (hrc : hg5_X13_condition X d rc) (l0 : Nat) (l1 : Int32) (h : mx_H) {r : (Int32 × mx_H)} (hf : j_X13_invoked_86 nn rc l0 l1 h = some r) : mx_S X F L 446 86 [(0, .ref l0), (1, .int l1)] [] h 0 0 (some (.int r.1), r.2, 0, 0) := by
  have hm : mx_mt 446 = some (yX13_invoked, cX13_invoked, 6, (some .int)) := mt_X13_invoked
  unfold j_X13_invoked_86 at hf
  refine mx_S.pu (pc2 := 87) (lv2 := [(0, .ref l0), (1, .int l1)]) (st2 := [.ref l0]) hm dX13_invoked_86 rfl ?_
  refine sx_bi (v := 6) hm dX13_invoked_87 (by decide) ?_
  refine mx_S.pu (pc2 := 90) (lv2 := [(0, .ref l0), (1, .int l1)]) (st2 := [.ref l0, .int 6, .ref l0]) hm dX13_invoked_89 rfl ?_
  replace hf := mx_sv_el hf; obtain ⟨v33, e_v33, hf⟩ := hf
  refine sx_get hm dX13_invoked_90 rs_RX13_43 (xgr_el e_v33) ?_
  clear e_v33
  refine mx_S.pu (pc2 := 94) (lv2 := [(0, .ref l0), (1, .int l1)]) (st2 := [.int l1, .ref v33, .int 6, .ref l0]) hm dX13_invoked_93 rfl ?_
  replace hf := mx_sv_el hf; obtain ⟨v34, e_v34, hf⟩ := hf
  refine sx_ald hm dX13_invoked_94 e_v34 ?_
  clear e_v34
  replace hf := mx_gd_el hf; obtain ⟨c35, hf⟩ := hf
  replace hf := mx_sv_el hf; obtain ⟨u36, e_u36, hf⟩ := hf
  refine sx_cv hm dX13_invoked_95 rs_RX13_379 mt_X13_wrong [.int 6, .int v34] [] (b := l0) (ci := 13) rfl rfl rfl c35 (Nat.le_of_ble_eq_true rfl) (Nat.le_of_ble_eq_true rfl) (by omega) (by omega) (f_X13_wrong_ok X (by omega) (by omega) nn l0 6 v34 h e_u36) ?_
  clear e_u36
  show mx_S X F L 446 98 [(0, .ref l0), (1, .int l1)] [] u36 0 0 (some (.int r.1), r.2, 0, 0)
  refine sx_ic (v := 0) hm dX13_invoked_98 (by decide) ?_
  cases hf
  exact sx_ire hm dX13_invoked_99 rfl rfl
set_option maxHeartbeats 4000000 in
set_option maxRecDepth 20000 in
theorem j_X13_invoked_46_ok (X : Nat × (Nat → Int32)) {F L d : Nat} (hF : 6 + (d + 1) ≤ F) (hL : 135 + (d + 1) * 27 ≤ L) (nn : Nat) {rc : tg_X13_condition} (hrc : hg5_X13_condition X d rc) (l0 : Nat) (l1 : Int32) (l2 : Int32) (l3 : Int32) (l4 : Int32) (h : mx_H) {r : (Int32 × mx_H)} (hf : j_X13_invoked_46 nn rc l0 l1 l2 l3 l4 h = some r) : mx_S X F L 446 46 [(0, .ref l0), (1, .int l1), (2, .int l2), (3, .int l3), (4, .int l4)] [] h 0 0 (some (.int r.1), r.2, 0, 0) := by
  have hm : mx_mt 446 = some (yX13_invoked, cX13_invoked, 6, (some .int)) := mt_X13_invoked
  unfold j_X13_invoked_46 at hf
  refine mx_S.pu (pc2 := 47) (lv2 := [(0, .ref l0), (1, .int l1), (2, .int l2), (3, .int l3), (4, .int l4)]) (st2 := [.ref l0]) hm dX13_invoked_46 rfl ?_
  replace hf := mx_sv_el hf; obtain ⟨v37, e_v37, hf⟩ := hf
  refine sx_get hm dX13_invoked_47 rs_RX13_49 (xgr_el e_v37) ?_
  clear e_v37
  refine mx_S.pu (pc2 := 51) (lv2 := [(0, .ref l0), (1, .int l1), (2, .int l2), (3, .int l3), (4, .int l4)]) (st2 := [.int l2, .ref v37]) hm dX13_invoked_50 rfl ?_
  refine sx_ic (v := 3) hm dX13_invoked_51 (by decide) ?_
  replace hf := mx_sv_el hf; obtain ⟨h38, e_h38, hf⟩ := hf
  refine sx_ast hm dX13_invoked_52 e_h38 ?_
  clear e_h38
  refine mx_S.pu (pc2 := 128) (lv2 := [(0, .ref l0), (1, .int l1), (2, .int l2), (3, .int l3), (4, .int l4)]) (st2 := []) hm dX13_invoked_53 rfl ?_
  refine mx_S.ext [(0, .ref l0), (1, .int l1), (3, .int l3), (4, .int l4)] (mx_sub_pos [0, 1, 3, 4] rfl (show ([0, 1, 2, 3, 4] : List Nat).Nodup by decide)) ?_
  exact j_X13_invoked_128_ok X hF hL nn hrc l0 l1 l3 l4 h38 hf
set_option maxHeartbeats 4000000 in
set_option maxRecDepth 20000 in
theorem o_X13_invoked_ok (X : Nat × (Nat → Int32)) {F L d : Nat} (hF : 6 + (d + 1) ≤ F) (hL : 135 + (d + 1) * 27 ≤ L) (nn : Nat) {rc : tg_X13_condition} (hrc : hg5_X13_condition X d rc) (a0 : Nat) (a1 : Int32) (h : mx_H) {r : (Int32 × mx_H)} (hf : o_X13_invoked nn rc a0 a1 h = some r) : mx_R X F L 446 [.ref a0, .int a1] h (some (.int r.1), r.2, 0, 0) := by
  have hm : mx_mt 446 = some (yX13_invoked, cX13_invoked, 6, (some .int)) := mt_X13_invoked
  show mx_S X F L 446 0 [(0, .ref a0), (1, .int a1)] [] h 0 0 (some (.int r.1), r.2, 0, 0)
  unfold o_X13_invoked at hf
  refine mx_S.pu (pc2 := 1) (lv2 := [(0, .ref a0), (1, .int a1)]) (st2 := [.ref a0]) hm dX13_invoked_0 rfl ?_
  replace hf := mx_sv_el hf; obtain ⟨v39, e_v39, hf⟩ := hf
  refine sx_get hm dX13_invoked_1 rs_RX13_37 (xgr_el e_v39) ?_
  clear e_v39
  refine mx_S.pu (pc2 := 5) (lv2 := [(0, .ref a0), (1, .int a1)]) (st2 := [.int a1, .ref v39]) hm dX13_invoked_4 rfl ?_
  replace hf := mx_sv_el hf; obtain ⟨v40, e_v40, hf⟩ := hf
  refine sx_ald hm dX13_invoked_5 e_v40 ?_
  clear e_v40
  refine mx_S.pu (pc2 := 7) (lv2 := [(2, .int v40), (0, .ref a0), (1, .int a1)]) (st2 := []) hm dX13_invoked_6 rfl ?_
  refine mx_S.pu (pc2 := 8) (lv2 := [(2, .int v40), (0, .ref a0), (1, .int a1)]) (st2 := [.ref a0]) hm dX13_invoked_7 rfl ?_
  refine mx_S.pu (pc2 := 9) (lv2 := [(2, .int v40), (0, .ref a0), (1, .int a1)]) (st2 := [.int a1, .ref a0]) hm dX13_invoked_8 rfl ?_
  replace hf := mx_gd_el hf; obtain ⟨c41, hf⟩ := hf
  replace hf := mx_sv_el hf; obtain ⟨u42, e_u42, hf⟩ := hf
  refine sx_cv hm dX13_invoked_9 rs_RX13_552 mt_X13_isByClass [.int a1] [] (b := a0) (ci := 13) rfl rfl rfl c41 (Nat.le_of_ble_eq_true rfl) (Nat.le_of_ble_eq_true rfl) (by omega) (by omega) (f_X13_isByClass_ok X (by omega) (by omega) nn a0 a1 h e_u42) ?_
  clear e_u42
  show mx_S X F L 446 12 [(2, .int v40), (0, .ref a0), (1, .int a1)] [.int u42.1] u42.2 0 0 (some (.int r.1), r.2, 0, 0)
  refine mx_S.pu (pc2 := 13) (lv2 := [(3, .int u42.1), (2, .int v40), (0, .ref a0), (1, .int a1)]) (st2 := []) hm dX13_invoked_12 rfl ?_
  refine mx_S.pu (pc2 := 14) (lv2 := [(3, .int u42.1), (2, .int v40), (0, .ref a0), (1, .int a1)]) (st2 := [.int u42.1]) hm dX13_invoked_13 rfl ?_
  rcases mx_if_el hf with ⟨c65, hf⟩ | ⟨c65, hf⟩
  · refine sb_if_eq hm dX13_invoked_14 (tgt := 56) rfl (fun _ => ?_) (fun z => absurd c65 z)
    refine mx_S.pu (pc2 := 57) (lv2 := [(3, .int u42.1), (2, .int v40), (0, .ref a0), (1, .int a1)]) (st2 := [.ref a0]) hm dX13_invoked_56 rfl ?_
    refine mx_S.pu (pc2 := 58) (lv2 := [(3, .int u42.1), (2, .int v40), (0, .ref a0), (1, .int a1)]) (st2 := [.int a1, .ref a0]) hm dX13_invoked_57 rfl ?_
    replace hf := mx_gd_el hf; obtain ⟨c43, hf⟩ := hf
    replace hf := mx_sv_el hf; obtain ⟨u44, e_u44, hf⟩ := hf
    refine sx_cv hm dX13_invoked_58 rs_RX13_573 mt_X13_led [.int a1] [] (b := a0) (ci := 13) rfl rfl rfl c43 (Nat.le_of_ble_eq_true rfl) (Nat.le_of_ble_eq_true rfl) (by omega) (by omega) (f_X13_led_ok X (by omega) (by omega) nn a0 a1 u42.2 e_u44) ?_
    clear e_u44
    show mx_S X F L 446 61 [(3, .int u42.1), (2, .int v40), (0, .ref a0), (1, .int a1)] [.int u44.1] u44.2 0 0 (some (.int r.1), r.2, 0, 0)
    refine mx_S.pu (pc2 := 63) (lv2 := [(5, .int u44.1), (3, .int u42.1), (2, .int v40), (0, .ref a0), (1, .int a1)]) (st2 := []) hm dX13_invoked_61 rfl ?_
    refine mx_S.pu (pc2 := 64) (lv2 := [(5, .int u44.1), (3, .int u42.1), (2, .int v40), (0, .ref a0), (1, .int a1)]) (st2 := [.ref a0]) hm dX13_invoked_63 rfl ?_
    replace hf := mx_sv_el hf; obtain ⟨v45, e_v45, hf⟩ := hf
    refine sx_get hm dX13_invoked_64 rs_RX13_319 (xgi_el e_v45) ?_
    clear e_v45
    rcases mx_if_el hf with ⟨c55, hf⟩ | ⟨c55, hf⟩
    · refine sb_if_eq hm dX13_invoked_67 (tgt := 72) rfl (fun _ => ?_) (fun z => absurd c55 z)
      refine mx_S.pu (pc2 := 74) (lv2 := [(5, .int u44.1), (3, .int u42.1), (2, .int v40), (0, .ref a0), (1, .int a1)]) (st2 := [.int u44.1]) hm dX13_invoked_72 rfl ?_
      refine sx_ic (v := 2) hm dX13_invoked_74 (by decide) ?_
      rcases mx_if_el hf with ⟨c54, hf⟩ | ⟨c54, hf⟩
      · refine sb_ic_eq hm dX13_invoked_75 (tgt := 86) rfl (fun _ => ?_) (fun z => absurd c54 z)
        refine mx_S.ext [(0, .ref a0), (1, .int a1)] (mx_sub_pos [3, 4] rfl (show ([5, 3, 2, 0, 1] : List Nat).Nodup by decide)) ?_
        exact j_X13_invoked_86_ok X hF hL nn hrc a0 a1 u44.2 hf
      · refine sb_ic_eq hm dX13_invoked_75 (tgt := 86) rfl (fun z => absurd z c54) (fun _ => ?_)
        refine mx_S.pu (pc2 := 80) (lv2 := [(5, .int u44.1), (3, .int u42.1), (2, .int v40), (0, .ref a0), (1, .int a1)]) (st2 := [.int u44.1]) hm dX13_invoked_78 rfl ?_
        replace hf := mx_sv_el hf; obtain ⟨u46, e_u46, hf⟩ := hf
        refine sx_cs hm dX13_invoked_80 rs_RX13_543 mt_X13_isThing [.int u44.1] [] rfl rfl (Nat.le_of_ble_eq_true rfl) (Nat.le_of_ble_eq_true rfl) (by omega) (by omega) (f_X13_isThing_ok X (by omega) (by omega) nn u44.1 u44.2 e_u46) ?_
        clear e_u46
        show mx_S X F L 446 83 [(5, .int u44.1), (3, .int u42.1), (2, .int v40), (0, .ref a0), (1, .int a1)] [.int u46.1] u46.2 0 0 (some (.int r.1), r.2, 0, 0)
        rcases mx_if_el hf with ⟨c53, hf⟩ | ⟨c53, hf⟩
        · refine sb_if_ne hm dX13_invoked_83 (tgt := 100) rfl (fun _ => ?_) (fun z => absurd c53 z)
          refine mx_S.pu (pc2 := 102) (lv2 := [(5, .int u44.1), (3, .int u42.1), (2, .int v40), (0, .ref a0), (1, .int a1)]) (st2 := [.int u44.1]) hm dX13_invoked_100 rfl ?_
          replace hf := mx_sv_el hf; obtain ⟨u47, e_u47, hf⟩ := hf
          refine sx_cs hm dX13_invoked_102 rs_RX13_485 mt_X13_isArray [.int u44.1] [] rfl rfl (Nat.le_of_ble_eq_true rfl) (Nat.le_of_ble_eq_true rfl) (by omega) (by omega) (f_X13_isArray_ok X (by omega) (by omega) nn u44.1 u46.2 e_u47) ?_
          clear e_u47
          show mx_S X F L 446 105 [(5, .int u44.1), (3, .int u42.1), (2, .int v40), (0, .ref a0), (1, .int a1)] [.int u47.1] u47.2 0 0 (some (.int r.1), r.2, 0, 0)
          rcases mx_if_el hf with ⟨c52, hf⟩ | ⟨c52, hf⟩
          · refine sb_if_eq hm dX13_invoked_105 (tgt := 119) rfl (fun _ => ?_) (fun z => absurd c52 z)
            refine mx_S.ext [(0, .ref a0), (1, .int a1), (3, .int u42.1), (5, .int u44.1)] (mx_sub_pos [3, 4, 1, 0] rfl (show ([5, 3, 2, 0, 1] : List Nat).Nodup by decide)) ?_
            exact j_X13_invoked_119_ok X hF hL nn hrc a0 a1 u42.1 u44.1 u47.2 hf
          · refine sb_if_eq hm dX13_invoked_105 (tgt := 119) rfl (fun z => absurd z c52) (fun _ => ?_)
            refine mx_S.pu (pc2 := 109) (lv2 := [(5, .int u44.1), (3, .int u42.1), (2, .int v40), (0, .ref a0), (1, .int a1)]) (st2 := [.ref a0]) hm dX13_invoked_108 rfl ?_
            refine sx_ic (v := 5) hm dX13_invoked_109 (by decide) ?_
            refine mx_S.pu (pc2 := 111) (lv2 := [(5, .int u44.1), (3, .int u42.1), (2, .int v40), (0, .ref a0), (1, .int a1)]) (st2 := [.ref a0, .int 5, .ref a0]) hm dX13_invoked_110 rfl ?_
            replace hf := mx_sv_el hf; obtain ⟨v48, e_v48, hf⟩ := hf
            refine sx_get hm dX13_invoked_111 rs_RX13_31 (xgr_el e_v48) ?_
            clear e_v48
            refine mx_S.pu (pc2 := 115) (lv2 := [(5, .int u44.1), (3, .int u42.1), (2, .int v40), (0, .ref a0), (1, .int a1)]) (st2 := [.int a1, .ref v48, .int 5, .ref a0]) hm dX13_invoked_114 rfl ?_
            replace hf := mx_sv_el hf; obtain ⟨v49, e_v49, hf⟩ := hf
            refine sx_ald hm dX13_invoked_115 e_v49 ?_
            clear e_v49
            replace hf := mx_gd_el hf; obtain ⟨c50, hf⟩ := hf
            replace hf := mx_sv_el hf; obtain ⟨u51, e_u51, hf⟩ := hf
            refine sx_cv hm dX13_invoked_116 rs_RX13_379 mt_X13_wrong [.int 5, .int v49] [] (b := a0) (ci := 13) rfl rfl rfl c50 (Nat.le_of_ble_eq_true rfl) (Nat.le_of_ble_eq_true rfl) (by omega) (by omega) (f_X13_wrong_ok X (by omega) (by omega) nn a0 5 v49 u47.2 e_u51) ?_
            clear e_u51
            show mx_S X F L 446 119 [(5, .int u44.1), (3, .int u42.1), (2, .int v40), (0, .ref a0), (1, .int a1)] [] u51 0 0 (some (.int r.1), r.2, 0, 0)
            refine mx_S.ext [(0, .ref a0), (1, .int a1), (3, .int u42.1), (5, .int u44.1)] (mx_sub_pos [3, 4, 1, 0] rfl (show ([5, 3, 2, 0, 1] : List Nat).Nodup by decide)) ?_
            exact j_X13_invoked_119_ok X hF hL nn hrc a0 a1 u42.1 u44.1 u51 hf
        · refine sb_if_ne hm dX13_invoked_83 (tgt := 100) rfl (fun z => absurd z c53) (fun _ => ?_)
          refine mx_S.ext [(0, .ref a0), (1, .int a1)] (mx_sub_pos [3, 4] rfl (show ([5, 3, 2, 0, 1] : List Nat).Nodup by decide)) ?_
          exact j_X13_invoked_86_ok X hF hL nn hrc a0 a1 u46.2 hf
    · refine sb_if_eq hm dX13_invoked_67 (tgt := 72) rfl (fun z => absurd z c55) (fun _ => ?_)
      refine sx_ic (v := 0) hm dX13_invoked_70 (by decide) ?_
      cases hf
      exact sx_ire hm dX13_invoked_71 rfl rfl
  · refine sb_if_eq hm dX13_invoked_14 (tgt := 56) rfl (fun z => absurd z c65) (fun _ => ?_)
    refine mx_S.pu (pc2 := 18) (lv2 := [(3, .int u42.1), (2, .int v40), (0, .ref a0), (1, .int a1)]) (st2 := [.ref a0]) hm dX13_invoked_17 rfl ?_
    refine mx_S.pu (pc2 := 19) (lv2 := [(3, .int u42.1), (2, .int v40), (0, .ref a0), (1, .int a1)]) (st2 := [.ref a0, .ref a0]) hm dX13_invoked_18 rfl ?_
    replace hf := mx_sv_el hf; obtain ⟨v56, e_v56, hf⟩ := hf
    refine sx_get hm dX13_invoked_19 rs_RX13_31 (xgr_el e_v56) ?_
    clear e_v56
    refine mx_S.pu (pc2 := 23) (lv2 := [(3, .int u42.1), (2, .int v40), (0, .ref a0), (1, .int a1)]) (st2 := [.int v40, .ref v56, .ref a0]) hm dX13_invoked_22 rfl ?_
    replace hf := mx_sv_el hf; obtain ⟨v57, e_v57, hf⟩ := hf
    refine sx_ald hm dX13_invoked_23 e_v57 ?_
    clear e_v57
    replace hf := mx_gd_el hf; obtain ⟨c58, hf⟩ := hf
    replace hf := mx_sv_el hf; obtain ⟨u59, e_u59, hf⟩ := hf
    refine sx_cv hm dX13_invoked_24 rs_RX13_494 mt_X13_classOf [.int v57] [] (b := a0) (ci := 13) rfl rfl rfl c58 (Nat.le_of_ble_eq_true rfl) (Nat.le_of_ble_eq_true rfl) (by omega) (by omega) (f_X13_classOf_ok X (by omega) (by omega) nn a0 v57 u42.2 e_u59) ?_
    clear e_u59
    show mx_S X F L 446 27 [(3, .int u42.1), (2, .int v40), (0, .ref a0), (1, .int a1)] [.int u59.1] u59.2 0 0 (some (.int r.1), r.2, 0, 0)
    refine mx_S.pu (pc2 := 29) (lv2 := [(4, .int u59.1), (3, .int u42.1), (2, .int v40), (0, .ref a0), (1, .int a1)]) (st2 := []) hm dX13_invoked_27 rfl ?_
    refine mx_S.pu (pc2 := 31) (lv2 := [(4, .int u59.1), (3, .int u42.1), (2, .int v40), (0, .ref a0), (1, .int a1)]) (st2 := [.int u59.1]) hm dX13_invoked_29 rfl ?_
    refine sx_ic (v := (-1)) hm dX13_invoked_31 (by decide) ?_
    rcases mx_if_el hf with ⟨c64, hf⟩ | ⟨c64, hf⟩
    · refine sb_ic_ne hm dX13_invoked_32 (tgt := 46) rfl (fun _ => ?_) (fun z => absurd c64 z)
      refine mx_S.ext [(0, .ref a0), (1, .int a1), (2, .int v40), (3, .int u42.1), (4, .int u59.1)] (mx_sub_pos [3, 4, 2, 1, 0] rfl (show ([4, 3, 2, 0, 1] : List Nat).Nodup by decide)) ?_
      exact j_X13_invoked_46_ok X hF hL nn hrc a0 a1 v40 u42.1 u59.1 u59.2 hf
    · refine sb_ic_ne hm dX13_invoked_32 (tgt := 46) rfl (fun z => absurd z c64) (fun _ => ?_)
      refine mx_S.pu (pc2 := 36) (lv2 := [(4, .int u59.1), (3, .int u42.1), (2, .int v40), (0, .ref a0), (1, .int a1)]) (st2 := [.ref a0]) hm dX13_invoked_35 rfl ?_
      refine sx_ic (v := 5) hm dX13_invoked_36 (by decide) ?_
      refine mx_S.pu (pc2 := 38) (lv2 := [(4, .int u59.1), (3, .int u42.1), (2, .int v40), (0, .ref a0), (1, .int a1)]) (st2 := [.ref a0, .int 5, .ref a0]) hm dX13_invoked_37 rfl ?_
      replace hf := mx_sv_el hf; obtain ⟨v60, e_v60, hf⟩ := hf
      refine sx_get hm dX13_invoked_38 rs_RX13_31 (xgr_el e_v60) ?_
      clear e_v60
      refine mx_S.pu (pc2 := 42) (lv2 := [(4, .int u59.1), (3, .int u42.1), (2, .int v40), (0, .ref a0), (1, .int a1)]) (st2 := [.int v40, .ref v60, .int 5, .ref a0]) hm dX13_invoked_41 rfl ?_
      replace hf := mx_sv_el hf; obtain ⟨v61, e_v61, hf⟩ := hf
      refine sx_ald hm dX13_invoked_42 e_v61 ?_
      clear e_v61
      replace hf := mx_gd_el hf; obtain ⟨c62, hf⟩ := hf
      replace hf := mx_sv_el hf; obtain ⟨u63, e_u63, hf⟩ := hf
      refine sx_cv hm dX13_invoked_43 rs_RX13_379 mt_X13_wrong [.int 5, .int v61] [] (b := a0) (ci := 13) rfl rfl rfl c62 (Nat.le_of_ble_eq_true rfl) (Nat.le_of_ble_eq_true rfl) (by omega) (by omega) (f_X13_wrong_ok X (by omega) (by omega) nn a0 5 v61 u59.2 e_u63) ?_
      clear e_u63
      show mx_S X F L 446 46 [(4, .int u59.1), (3, .int u42.1), (2, .int v40), (0, .ref a0), (1, .int a1)] [] u63 0 0 (some (.int r.1), r.2, 0, 0)
      refine mx_S.ext [(0, .ref a0), (1, .int a1), (2, .int v40), (3, .int u42.1), (4, .int u59.1)] (mx_sub_pos [3, 4, 2, 1, 0] rfl (show ([4, 3, 2, 0, 1] : List Nat).Nodup by decide)) ?_
      exact j_X13_invoked_46_ok X hF hL nn hrc a0 a1 v40 u42.1 u59.1 u63 hf
set_option maxHeartbeats 4000000 in
set_option maxRecDepth 20000 in
theorem j_X13_called_138_ok (X : Nat × (Nat → Int32)) {F L d : Nat} (hF : 6 + (d + 1) ≤ F) (hL : 135 + (d + 1) * 27 ≤ L) (nn : Nat) {rc : tg_X13_condition} (hrc : hg5_X13_condition X d rc) (l0 : Nat) (l2 : Int32) (h : mx_H) {r : (Int32 × mx_H)} (hf : j_X13_called_138 nn rc l0 l2 h = some r) : mx_S X F L 447 138 [(0, .ref l0), (2, .int l2)] [] h 0 0 (some (.int r.1), r.2, 0, 0) := by
  have hm : mx_mt 447 = some (yX13_called, cX13_called, 8, (some .int)) := mt_X13_called
  unfold j_X13_called_138 at hf
  refine mx_S.pu (pc2 := 139) (lv2 := [(0, .ref l0), (2, .int l2)]) (st2 := [.ref l0]) hm dX13_called_138 rfl ?_
  replace hf := mx_sv_el hf; obtain ⟨v1, e_v1, hf⟩ := hf
  refine sx_get hm dX13_called_139 rs_RX13_89 (xgr_el e_v1) ?_
  clear e_v1
  refine mx_S.pu (pc2 := 143) (lv2 := [(0, .ref l0), (2, .int l2)]) (st2 := [.int l2, .ref v1]) hm dX13_called_142 rfl ?_
  replace hf := mx_sv_el hf; obtain ⟨v2, e_v2, hf⟩ := hf
  refine sx_ald hm dX13_called_143 e_v2 ?_
  clear e_v2
  cases hf
  exact sx_ire hm dX13_called_144 rfl rfl
set_option maxHeartbeats 4000000 in
set_option maxRecDepth 20000 in
theorem j_X13_called_126_ok (X : Nat × (Nat → Int32)) {F L d : Nat} (hF : 6 + (d + 1) ≤ F) (hL : 135 + (d + 1) * 27 ≤ L) (nn : Nat) {rc : tg_X13_condition} (hrc : hg5_X13_condition X d rc) (l0 : Nat) (l1 : Int32) (l2 : Int32) (h : mx_H) {r : (Int32 × mx_H)} (hf : j_X13_called_126 nn rc l0 l1 l2 h = some r) : mx_S X F L 447 126 [(0, .ref l0), (1, .int l1), (2, .int l2)] [] h 0 0 (some (.int r.1), r.2, 0, 0) := by
  have hm : mx_mt 447 = some (yX13_called, cX13_called, 8, (some .int)) := mt_X13_called
  unfold j_X13_called_126 at hf
  refine mx_S.pu (pc2 := 127) (lv2 := [(0, .ref l0), (1, .int l1), (2, .int l2)]) (st2 := [.ref l0]) hm dX13_called_126 rfl ?_
  refine sx_bi (v := 6) hm dX13_called_127 (by decide) ?_
  refine mx_S.pu (pc2 := 130) (lv2 := [(0, .ref l0), (1, .int l1), (2, .int l2)]) (st2 := [.ref l0, .int 6, .ref l0]) hm dX13_called_129 rfl ?_
  replace hf := mx_sv_el hf; obtain ⟨v3, e_v3, hf⟩ := hf
  refine sx_get hm dX13_called_130 rs_RX13_31 (xgr_el e_v3) ?_
  clear e_v3
  refine mx_S.pu (pc2 := 134) (lv2 := [(0, .ref l0), (1, .int l1), (2, .int l2)]) (st2 := [.int l1, .ref v3, .int 6, .ref l0]) hm dX13_called_133 rfl ?_
  replace hf := mx_sv_el hf; obtain ⟨v4, e_v4, hf⟩ := hf
  refine sx_ald hm dX13_called_134 e_v4 ?_
  clear e_v4
  replace hf := mx_gd_el hf; obtain ⟨c5, hf⟩ := hf
  replace hf := mx_sv_el hf; obtain ⟨u6, e_u6, hf⟩ := hf
  refine sx_cv hm dX13_called_135 rs_RX13_379 mt_X13_wrong [.int 6, .int v4] [] (b := l0) (ci := 13) rfl rfl rfl c5 (Nat.le_of_ble_eq_true rfl) (Nat.le_of_ble_eq_true rfl) (by omega) (by omega) (f_X13_wrong_ok X (by omega) (by omega) nn l0 6 v4 h e_u6) ?_
  clear e_u6
  show mx_S X F L 447 138 [(0, .ref l0), (1, .int l1), (2, .int l2)] [] u6 0 0 (some (.int r.1), r.2, 0, 0)
  refine mx_S.ext [(0, .ref l0), (2, .int l2)] (mx_sub_pos [0, 2] rfl (show ([0, 1, 2] : List Nat).Nodup by decide)) ?_
  exact j_X13_called_138_ok X hF hL nn hrc l0 l2 u6 hf
set_option maxHeartbeats 4000000 in
set_option maxRecDepth 20000 in
theorem j_X13_called_110_ok (X : Nat × (Nat → Int32)) {F L d : Nat} (hF : 6 + (d + 1) ≤ F) (hL : 135 + (d + 1) * 27 ≤ L) (nn : Nat) {rc : tg_X13_condition} (hrc : hg5_X13_condition X d rc) (l0 : Nat) (l1 : Int32) (l2 : Int32) (l4 : Int32) (l5 : Int32) (h : mx_H) {r : (Int32 × mx_H)} (hf : j_X13_called_110 nn rc l0 l1 l2 l4 l5 h = some r) : mx_S X F L 447 110 [(0, .ref l0), (1, .int l1), (2, .int l2), (4, .int l4), (5, .int l5)] [] h 0 0 (some (.int r.1), r.2, 0, 0) := by
  have hm : mx_mt 447 = some (yX13_called, cX13_called, 8, (some .int)) := mt_X13_called
  unfold j_X13_called_110 at hf
  refine mx_S.pu (pc2 := 112) (lv2 := [(0, .ref l0), (1, .int l1), (2, .int l2), (4, .int l4), (5, .int l5)]) (st2 := [.int l4]) hm dX13_called_110 rfl ?_
  rcases mx_if_el hf with ⟨c10, hf⟩ | ⟨c10, hf⟩
  · refine sb_if_eq hm dX13_called_112 (tgt := 126) rfl (fun _ => ?_) (fun z => absurd c10 z)
    refine mx_S.ext [(0, .ref l0), (1, .int l1), (2, .int l2)] (mx_sub_pos [0, 1, 2] rfl (show ([0, 1, 2, 4, 5] : List Nat).Nodup by decide)) ?_
    exact j_X13_called_126_ok X hF hL nn hrc l0 l1 l2 h hf
  · refine sb_if_eq hm dX13_called_112 (tgt := 126) rfl (fun z => absurd z c10) (fun _ => ?_)
    refine mx_S.pu (pc2 := 117) (lv2 := [(0, .ref l0), (1, .int l1), (2, .int l2), (4, .int l4), (5, .int l5)]) (st2 := [.int l5]) hm dX13_called_115 rfl ?_
    refine mx_S.pu (pc2 := 118) (lv2 := [(0, .ref l0), (1, .int l1), (2, .int l2), (4, .int l4), (5, .int l5)]) (st2 := [.ref l0, .int l5]) hm dX13_called_117 rfl ?_
    replace hf := mx_sv_el hf; obtain ⟨v7, e_v7, hf⟩ := hf
    refine sx_get hm dX13_called_118 rs_RX13_95 (xgr_el e_v7) ?_
    clear e_v7
    refine mx_S.pu (pc2 := 122) (lv2 := [(0, .ref l0), (1, .int l1), (2, .int l2), (4, .int l4), (5, .int l5)]) (st2 := [.int l2, .ref v7, .int l5]) hm dX13_called_121 rfl ?_
    replace hf := mx_sv_el hf; obtain ⟨v8, e_v8, hf⟩ := hf
    refine sx_ald hm dX13_called_122 e_v8 ?_
    clear e_v8
    rcases mx_if_el hf with ⟨c9, hf⟩ | ⟨c9, hf⟩
    · refine sb_ic_eq hm dX13_called_123 (tgt := 138) rfl (fun _ => ?_) (fun z => absurd c9 z)
      refine mx_S.ext [(0, .ref l0), (2, .int l2)] (mx_sub_pos [0, 2] rfl (show ([0, 1, 2, 4, 5] : List Nat).Nodup by decide)) ?_
      exact j_X13_called_138_ok X hF hL nn hrc l0 l2 h hf
    · refine sb_ic_eq hm dX13_called_123 (tgt := 138) rfl (fun z => absurd z c9) (fun _ => ?_)
      refine mx_S.ext [(0, .ref l0), (1, .int l1), (2, .int l2)] (mx_sub_pos [0, 1, 2] rfl (show ([0, 1, 2, 4, 5] : List Nat).Nodup by decide)) ?_
      exact j_X13_called_126_ok X hF hL nn hrc l0 l1 l2 h hf
set_option maxHeartbeats 4000000 in
set_option maxRecDepth 20000 in
theorem j_X13_called_93_ok (X : Nat × (Nat → Int32)) {F L d : Nat} (hF : 6 + (d + 1) ≤ F) (hL : 135 + (d + 1) * 27 ≤ L) (nn : Nat) {rc : tg_X13_condition} (hrc : hg5_X13_condition X d rc) {kk_23 : Nat → Int32 → Int32 → Int32 → Int32 → Int32 → mx_H → Option (Int32 × mx_H)} (hk_23 : ∀ (l0 : Nat) (l1 : Int32) (l2 : Int32) (l4 : Int32) (l5 : Int32) (l6 : Int32) (h : mx_H) (r : (Int32 × mx_H)), kk_23 l0 l1 l2 l4 l5 l6 h = some r → mx_S X F L 447 23 [(0, .ref l0), (1, .int l1), (2, .int l2), (4, .int l4), (5, .int l5), (6, .int l6)] [] h 0 0 (some (.int r.1), r.2, 0, 0)) (l0 : Nat) (l1 : Int32) (l2 : Int32) (l5 : Int32) (l6 : Int32) (s0 : Int32) (h : mx_H) {r : (Int32 × mx_H)} (hf : j_X13_called_93 nn rc kk_23 l0 l1 l2 l5 l6 s0 h = some r) : mx_S X F L 447 93 [(0, .ref l0), (1, .int l1), (2, .int l2), (5, .int l5), (6, .int l6)] [.int s0] h 0 0 (some (.int r.1), r.2, 0, 0) := by
  have hm : mx_mt 447 = some (yX13_called, cX13_called, 8, (some .int)) := mt_X13_called
  unfold j_X13_called_93 at hf
  refine mx_S.pu (pc2 := 95) (lv2 := [(4, .int s0), (0, .ref l0), (1, .int l1), (2, .int l2), (5, .int l5), (6, .int l6)]) (st2 := []) hm dX13_called_93 rfl ?_
  replace hf := xl_el hf; obtain ⟨v11, e_v11, hf⟩ := hf
  refine mx_S.pu (pc2 := 98) (lv2 := [(5, .int v11), (4, .int s0), (0, .ref l0), (1, .int l1), (2, .int l2), (6, .int l6)]) (st2 := []) hm dX13_called_95 (by rw [← e_v11]; rfl) ?_
  clear e_v11
  refine mx_S.pu (pc2 := 99) (lv2 := [(5, .int v11), (4, .int s0), (0, .ref l0), (1, .int l1), (2, .int l2), (6, .int l6)]) (st2 := [.ref l0]) hm dX13_called_98 rfl ?_
  replace hf := mx_sv_el hf; obtain ⟨v12, e_v12, hf⟩ := hf
  refine sx_get hm dX13_called_99 rs_RX13_46 (xgr_el e_v12) ?_
  clear e_v12
  refine mx_S.pu (pc2 := 104) (lv2 := [(5, .int v11), (4, .int s0), (0, .ref l0), (1, .int l1), (2, .int l2), (6, .int l6)]) (st2 := [.int l6, .ref v12]) hm dX13_called_102 rfl ?_
  replace hf := mx_sv_el hf; obtain ⟨v13, e_v13, hf⟩ := hf
  refine sx_ald hm dX13_called_104 e_v13 ?_
  clear e_v13
  refine mx_S.pu (pc2 := 107) (lv2 := [(6, .int v13), (5, .int v11), (4, .int s0), (0, .ref l0), (1, .int l1), (2, .int l2)]) (st2 := []) hm dX13_called_105 rfl ?_
  refine mx_S.pu (pc2 := 23) (lv2 := [(6, .int v13), (5, .int v11), (4, .int s0), (0, .ref l0), (1, .int l1), (2, .int l2)]) (st2 := []) hm dX13_called_107 rfl ?_
  refine mx_S.ext [(0, .ref l0), (1, .int l1), (2, .int l2), (4, .int s0), (5, .int v11), (6, .int v13)] (mx_sub_pos [3, 4, 5, 2, 1, 0] rfl (show ([6, 5, 4, 0, 1, 2] : List Nat).Nodup by decide)) ?_
  exact hk_23 l0 l1 l2 s0 v11 v13 h _ hf
set_option maxHeartbeats 4000000 in
set_option maxRecDepth 20000 in
theorem j_X13_called_92_ok (X : Nat × (Nat → Int32)) {F L d : Nat} (hF : 6 + (d + 1) ≤ F) (hL : 135 + (d + 1) * 27 ≤ L) (nn : Nat) {rc : tg_X13_condition} (hrc : hg5_X13_condition X d rc) {kk_23 : Nat → Int32 → Int32 → Int32 → Int32 → Int32 → mx_H → Option (Int32 × mx_H)} (hk_23 : ∀ (l0 : Nat) (l1 : Int32) (l2 : Int32) (l4 : Int32) (l5 : Int32) (l6 : Int32) (h : mx_H) (r : (Int32 × mx_H)), kk_23 l0 l1 l2 l4 l5 l6 h = some r → mx_S X F L 447 23 [(0, .ref l0), (1, .int l1), (2, .int l2), (4, .int l4), (5, .int l5), (6, .int l6)] [] h 0 0 (some (.int r.1), r.2, 0, 0)) (l0 : Nat) (l1 : Int32) (l2 : Int32) (l5 : Int32) (l6 : Int32) (h : mx_H) {r : (Int32 × mx_H)} (hf : j_X13_called_92 nn rc kk_23 l0 l1 l2 l5 l6 h = some r) : mx_S X F L 447 92 [(0, .ref l0), (1, .int l1), (2, .int l2), (5, .int l5), (6, .int l6)] [] h 0 0 (some (.int r.1), r.2, 0, 0) := by
  have hm : mx_mt 447 = some (yX13_called, cX13_called, 8, (some .int)) := mt_X13_called
  unfold j_X13_called_92 at hf
  refine sx_ic (v := 0) hm dX13_called_92 (by decide) ?_
  exact j_X13_called_93_ok X hF hL nn hrc hk_23 l0 l1 l2 l5 l6 0 h hf
set_option maxHeartbeats 4000000 in
set_option maxRecDepth 20000 in
theorem w_X13_called_23_ok (X : Nat × (Nat → Int32)) {F L d : Nat} (hF : 6 + (d + 1) ≤ F) (hL : 135 + (d + 1) * 27 ≤ L) (nn : Nat) {rc : tg_X13_condition} (hrc : hg5_X13_condition X d rc) : ∀ (k : Nat) (l0 : Nat) (l1 : Int32) (l2 : Int32) (l4 : Int32) (l5 : Int32) (l6 : Int32) (h : mx_H) (r : (Int32 × mx_H)), w_X13_called_23 nn rc k l0 l1 l2 l4 l5 l6 h = some r → mx_S X F L 447 23 [(0, .ref l0), (1, .int l1), (2, .int l2), (4, .int l4), (5, .int l5), (6, .int l6)] [] h 0 0 (some (.int r.1), r.2, 0, 0) := by
  have hm : mx_mt 447 = some (yX13_called, cX13_called, 8, (some .int)) := mt_X13_called
  intro k
  induction k with
  | zero => intro l0 l1 l2 l4 l5 l6 h r hf; cases hf
  | succ k ih =>
    intro l0 l1 l2 l4 l5 l6 h r hf
    unfold w_X13_called_23 at hf
    refine mx_S.pu (pc2 := 25) (lv2 := [(0, .ref l0), (1, .int l1), (2, .int l2), (4, .int l4), (5, .int l5), (6, .int l6)]) (st2 := [.int l6]) hm dX13_called_23 rfl ?_
    refine sx_ic (v := (-1)) hm dX13_called_25 (by decide) ?_
    rcases mx_if_el hf with ⟨c32, hf⟩ | ⟨c32, hf⟩
    · refine sb_ic_eq hm dX13_called_26 (tgt := 110) rfl (fun _ => ?_) (fun z => absurd c32 z)
      refine mx_S.ext [(0, .ref l0), (1, .int l1), (2, .int l2), (4, .int l4), (5, .int l5)] (mx_sub_pos [0, 1, 2, 3, 4] rfl (show ([0, 1, 2, 4, 5, 6] : List Nat).Nodup by decide)) ?_
      exact j_X13_called_110_ok X hF hL nn hrc l0 l1 l2 l4 l5 h hf
    · refine sb_ic_eq hm dX13_called_26 (tgt := 110) rfl (fun z => absurd z c32) (fun _ => ?_)
      refine mx_S.pu (pc2 := 30) (lv2 := [(0, .ref l0), (1, .int l1), (2, .int l2), (4, .int l4), (5, .int l5), (6, .int l6)]) (st2 := [.ref l0]) hm dX13_called_29 rfl ?_
      replace hf := mx_sv_el hf; obtain ⟨v14, e_v14, hf⟩ := hf
      refine sx_get hm dX13_called_30 rs_RX13_319 (xgi_el e_v14) ?_
      clear e_v14
      rcases mx_if_el hf with ⟨c31, hf⟩ | ⟨c31, hf⟩
      · refine sb_if_ne hm dX13_called_33 (tgt := 110) rfl (fun _ => ?_) (fun z => absurd c31 z)
        refine mx_S.ext [(0, .ref l0), (1, .int l1), (2, .int l2), (4, .int l4), (5, .int l5)] (mx_sub_pos [0, 1, 2, 3, 4] rfl (show ([0, 1, 2, 4, 5, 6] : List Nat).Nodup by decide)) ?_
        exact j_X13_called_110_ok X hF hL nn hrc l0 l1 l2 l4 l5 h hf
      · refine sb_if_ne hm dX13_called_33 (tgt := 110) rfl (fun z => absurd z c31) (fun _ => ?_)
        refine mx_S.pu (pc2 := 37) (lv2 := [(0, .ref l0), (1, .int l1), (2, .int l2), (4, .int l4), (5, .int l5), (6, .int l6)]) (st2 := [.ref l0]) hm dX13_called_36 rfl ?_
        refine mx_S.pu (pc2 := 38) (lv2 := [(0, .ref l0), (1, .int l1), (2, .int l2), (4, .int l4), (5, .int l5), (6, .int l6)]) (st2 := [.ref l0, .ref l0]) hm dX13_called_37 rfl ?_
        replace hf := mx_sv_el hf; obtain ⟨v15, e_v15, hf⟩ := hf
        refine sx_get hm dX13_called_38 rs_RX13_37 (xgr_el e_v15) ?_
        clear e_v15
        refine mx_S.pu (pc2 := 43) (lv2 := [(0, .ref l0), (1, .int l1), (2, .int l2), (4, .int l4), (5, .int l5), (6, .int l6)]) (st2 := [.int l6, .ref v15, .ref l0]) hm dX13_called_41 rfl ?_
        replace hf := mx_sv_el hf; obtain ⟨v16, e_v16, hf⟩ := hf
        refine sx_ald hm dX13_called_43 e_v16 ?_
        clear e_v16
        replace hf := mx_gd_el hf; obtain ⟨c17, hf⟩ := hf
        replace hf := mx_sv_el hf; obtain ⟨u18, e_u18, hf⟩ := hf
        refine sx_cv hm dX13_called_44 rs_RX13_537 mt_X13_given [.int v16] [] (b := l0) (ci := 13) rfl rfl rfl c17 (Nat.le_of_ble_eq_true rfl) (Nat.le_of_ble_eq_true rfl) (by omega) (by omega) (hrc.2.1 (by omega) (by omega) l0 v16 h e_u18) ?_
        clear e_u18
        show mx_S X F L 447 47 [(0, .ref l0), (1, .int l1), (2, .int l2), (4, .int l4), (5, .int l5), (6, .int l6)] [.int u18.1] u18.2 0 0 (some (.int r.1), r.2, 0, 0)
        refine mx_S.pu (pc2 := 49) (lv2 := [(7, .int u18.1), (0, .ref l0), (1, .int l1), (2, .int l2), (4, .int l4), (5, .int l5), (6, .int l6)]) (st2 := []) hm dX13_called_47 rfl ?_
        refine mx_S.pu (pc2 := 51) (lv2 := [(7, .int u18.1), (0, .ref l0), (1, .int l1), (2, .int l2), (4, .int l4), (5, .int l5), (6, .int l6)]) (st2 := [.int l4]) hm dX13_called_49 rfl ?_
        rcases mx_if_el hf with ⟨c30, hf⟩ | ⟨c30, hf⟩
        · refine sb_if_eq hm dX13_called_51 (tgt := 92) rfl (fun _ => ?_) (fun z => absurd c30 z)
          refine mx_S.ext [(0, .ref l0), (1, .int l1), (2, .int l2), (5, .int l5), (6, .int l6)] (mx_sub_pos [1, 2, 3, 5, 6] rfl (show ([7, 0, 1, 2, 4, 5, 6] : List Nat).Nodup by decide)) ?_
          exact j_X13_called_92_ok X hF hL nn hrc ih l0 l1 l2 l5 l6 u18.2 hf
        · refine sb_if_eq hm dX13_called_51 (tgt := 92) rfl (fun z => absurd z c30) (fun _ => ?_)
          refine mx_S.pu (pc2 := 56) (lv2 := [(7, .int u18.1), (0, .ref l0), (1, .int l1), (2, .int l2), (4, .int l4), (5, .int l5), (6, .int l6)]) (st2 := [.int l5]) hm dX13_called_54 rfl ?_
          refine mx_S.pu (pc2 := 57) (lv2 := [(7, .int u18.1), (0, .ref l0), (1, .int l1), (2, .int l2), (4, .int l4), (5, .int l5), (6, .int l6)]) (st2 := [.ref l0, .int l5]) hm dX13_called_56 rfl ?_
          replace hf := mx_sv_el hf; obtain ⟨v19, e_v19, hf⟩ := hf
          refine sx_get hm dX13_called_57 rs_RX13_95 (xgr_el e_v19) ?_
          clear e_v19
          refine mx_S.pu (pc2 := 61) (lv2 := [(7, .int u18.1), (0, .ref l0), (1, .int l1), (2, .int l2), (4, .int l4), (5, .int l5), (6, .int l6)]) (st2 := [.int l2, .ref v19, .int l5]) hm dX13_called_60 rfl ?_
          replace hf := mx_sv_el hf; obtain ⟨v20, e_v20, hf⟩ := hf
          refine sx_ald hm dX13_called_61 e_v20 ?_
          clear e_v20
          rcases mx_if_el hf with ⟨c29, hf⟩ | ⟨c29, hf⟩
          · refine sb_ic_ge hm dX13_called_62 (tgt := 92) rfl (fun _ => ?_) (fun z => absurd c29 z)
            refine mx_S.ext [(0, .ref l0), (1, .int l1), (2, .int l2), (5, .int l5), (6, .int l6)] (mx_sub_pos [1, 2, 3, 5, 6] rfl (show ([7, 0, 1, 2, 4, 5, 6] : List Nat).Nodup by decide)) ?_
            exact j_X13_called_92_ok X hF hL nn hrc ih l0 l1 l2 l5 l6 u18.2 hf
          · refine sb_ic_ge hm dX13_called_62 (tgt := 92) rfl (fun z => absurd z c29) (fun _ => ?_)
            refine mx_S.pu (pc2 := 66) (lv2 := [(7, .int u18.1), (0, .ref l0), (1, .int l1), (2, .int l2), (4, .int l4), (5, .int l5), (6, .int l6)]) (st2 := [.ref l0]) hm dX13_called_65 rfl ?_
            refine mx_S.pu (pc2 := 68) (lv2 := [(7, .int u18.1), (0, .ref l0), (1, .int l1), (2, .int l2), (4, .int l4), (5, .int l5), (6, .int l6)]) (st2 := [.int u18.1, .ref l0]) hm dX13_called_66 rfl ?_
            refine mx_S.pu (pc2 := 69) (lv2 := [(7, .int u18.1), (0, .ref l0), (1, .int l1), (2, .int l2), (4, .int l4), (5, .int l5), (6, .int l6)]) (st2 := [.ref l0, .int u18.1, .ref l0]) hm dX13_called_68 rfl ?_
            replace hf := mx_sv_el hf; obtain ⟨v21, e_v21, hf⟩ := hf
            refine sx_get hm dX13_called_69 rs_RX13_113 (xgr_el e_v21) ?_
            clear e_v21
            refine mx_S.pu (pc2 := 73) (lv2 := [(7, .int u18.1), (0, .ref l0), (1, .int l1), (2, .int l2), (4, .int l4), (5, .int l5), (6, .int l6)]) (st2 := [.ref l0, .ref v21, .int u18.1, .ref l0]) hm dX13_called_72 rfl ?_
            replace hf := mx_sv_el hf; obtain ⟨v22, e_v22, hf⟩ := hf
            refine sx_get hm dX13_called_73 rs_RX13_92 (xgr_el e_v22) ?_
            clear e_v22
            refine mx_S.pu (pc2 := 77) (lv2 := [(7, .int u18.1), (0, .ref l0), (1, .int l1), (2, .int l2), (4, .int l4), (5, .int l5), (6, .int l6)]) (st2 := [.int l2, .ref v22, .ref v21, .int u18.1, .ref l0]) hm dX13_called_76 rfl ?_
            replace hf := mx_sv_el hf; obtain ⟨v23, e_v23, hf⟩ := hf
            refine sx_ald hm dX13_called_77 e_v23 ?_
            clear e_v23
            refine mx_S.pu (pc2 := 80) (lv2 := [(7, .int u18.1), (0, .ref l0), (1, .int l1), (2, .int l2), (4, .int l4), (5, .int l5), (6, .int l6)]) (st2 := [.int l5, .int v23, .ref v21, .int u18.1, .ref l0]) hm dX13_called_78 rfl ?_
            replace hf := xl_el hf; obtain ⟨v24, e_v24, hf⟩ := hf
            refine mx_S.pu (pc2 := 81) (lv2 := [(7, .int u18.1), (0, .ref l0), (1, .int l1), (2, .int l2), (4, .int l4), (5, .int l5), (6, .int l6)]) (st2 := [.int v24, .ref v21, .int u18.1, .ref l0]) hm dX13_called_80 (by rw [← e_v24]; rfl) ?_
            clear e_v24
            replace hf := mx_sv_el hf; obtain ⟨v25, e_v25, hf⟩ := hf
            refine sx_ald hm dX13_called_81 e_v25 ?_
            clear e_v25
            replace hf := mx_gd_el hf; obtain ⟨c26, hf⟩ := hf
            replace hf := mx_sv_el hf; obtain ⟨u27, e_u27, hf⟩ := hf
            refine sx_cv hm dX13_called_82 rs_RX13_491 mt_X13_fits [.int u18.1, .int v25] [] (b := l0) (ci := 13) rfl rfl rfl c26 (Nat.le_of_ble_eq_true rfl) (Nat.le_of_ble_eq_true rfl) (by omega) (by omega) (f_X13_fits_ok X (by omega) (by omega) nn l0 u18.1 v25 u18.2 e_u27) ?_
            clear e_u27
            show mx_S X F L 447 85 [(7, .int u18.1), (0, .ref l0), (1, .int l1), (2, .int l2), (4, .int l4), (5, .int l5), (6, .int l6)] [.int u27.1] u27.2 0 0 (some (.int r.1), r.2, 0, 0)
            rcases mx_if_el hf with ⟨c28, hf⟩ | ⟨c28, hf⟩
            · refine sb_if_eq hm dX13_called_85 (tgt := 92) rfl (fun _ => ?_) (fun z => absurd c28 z)
              refine mx_S.ext [(0, .ref l0), (1, .int l1), (2, .int l2), (5, .int l5), (6, .int l6)] (mx_sub_pos [1, 2, 3, 5, 6] rfl (show ([7, 0, 1, 2, 4, 5, 6] : List Nat).Nodup by decide)) ?_
              exact j_X13_called_92_ok X hF hL nn hrc ih l0 l1 l2 l5 l6 u27.2 hf
            · refine sb_if_eq hm dX13_called_85 (tgt := 92) rfl (fun z => absurd z c28) (fun _ => ?_)
              refine sx_ic (v := 1) hm dX13_called_88 (by decide) ?_
              refine mx_S.pu (pc2 := 93) (lv2 := [(7, .int u18.1), (0, .ref l0), (1, .int l1), (2, .int l2), (4, .int l4), (5, .int l5), (6, .int l6)]) (st2 := [.int 1]) hm dX13_called_89 rfl ?_
              refine mx_S.ext [(0, .ref l0), (1, .int l1), (2, .int l2), (5, .int l5), (6, .int l6)] (mx_sub_pos [1, 2, 3, 5, 6] rfl (show ([7, 0, 1, 2, 4, 5, 6] : List Nat).Nodup by decide)) ?_
              exact j_X13_called_93_ok X hF hL nn hrc ih l0 l1 l2 l5 l6 1 u27.2 hf
set_option maxHeartbeats 4000000 in
set_option maxRecDepth 20000 in
theorem o_X13_called_ok (X : Nat × (Nat → Int32)) {F L d : Nat} (hF : 6 + (d + 1) ≤ F) (hL : 135 + (d + 1) * 27 ≤ L) (nn : Nat) {rc : tg_X13_condition} (hrc : hg5_X13_condition X d rc) (a0 : Nat) (a1 : Int32) (a2 : Int32) (a3 : Int32) (h : mx_H) {r : (Int32 × mx_H)} (hf : o_X13_called nn rc a0 a1 a2 a3 h = some r) : mx_R X F L 447 [.ref a0, .int a1, .int a2, .int a3] h (some (.int r.1), r.2, 0, 0) := by
  have hm : mx_mt 447 = some (yX13_called, cX13_called, 8, (some .int)) := mt_X13_called
  show mx_S X F L 447 0 [(0, .ref a0), (1, .int a1), (2, .int a2), (3, .int a3)] [] h 0 0 (some (.int r.1), r.2, 0, 0)
  unfold o_X13_called at hf
  refine mx_S.pu (pc2 := 1) (lv2 := [(0, .ref a0), (1, .int a1), (2, .int a2), (3, .int a3)]) (st2 := [.ref a0]) hm dX13_called_0 rfl ?_
  replace hf := mx_sv_el hf; obtain ⟨v33, e_v33, hf⟩ := hf
  refine sx_get hm dX13_called_1 rs_RX13_319 (xgi_el e_v33) ?_
  clear e_v33
  rcases mx_if_el hf with ⟨c36, hf⟩ | ⟨c36, hf⟩
  · refine sb_if_eq hm dX13_called_4 (tgt := 9) rfl (fun _ => ?_) (fun z => absurd c36 z)
    refine mx_S.pu (pc2 := 10) (lv2 := [(0, .ref a0), (1, .int a1), (2, .int a2), (3, .int a3)]) (st2 := [.int a3]) hm dX13_called_9 rfl ?_
    refine mx_S.pu (pc2 := 12) (lv2 := [(4, .int a3), (0, .ref a0), (1, .int a1), (2, .int a2), (3, .int a3)]) (st2 := []) hm dX13_called_10 rfl ?_
    refine sx_ic (v := 0) hm dX13_called_12 (by decide) ?_
    refine mx_S.pu (pc2 := 15) (lv2 := [(5, .int 0), (4, .int a3), (0, .ref a0), (1, .int a1), (2, .int a2), (3, .int a3)]) (st2 := []) hm dX13_called_13 rfl ?_
    refine mx_S.pu (pc2 := 16) (lv2 := [(5, .int 0), (4, .int a3), (0, .ref a0), (1, .int a1), (2, .int a2), (3, .int a3)]) (st2 := [.ref a0]) hm dX13_called_15 rfl ?_
    replace hf := mx_sv_el hf; obtain ⟨v34, e_v34, hf⟩ := hf
    refine sx_get hm dX13_called_16 rs_RX13_40 (xgr_el e_v34) ?_
    clear e_v34
    refine mx_S.pu (pc2 := 20) (lv2 := [(5, .int 0), (4, .int a3), (0, .ref a0), (1, .int a1), (2, .int a2), (3, .int a3)]) (st2 := [.int a1, .ref v34]) hm dX13_called_19 rfl ?_
    replace hf := mx_sv_el hf; obtain ⟨v35, e_v35, hf⟩ := hf
    refine sx_ald hm dX13_called_20 e_v35 ?_
    clear e_v35
    refine mx_S.pu (pc2 := 23) (lv2 := [(6, .int v35), (5, .int 0), (4, .int a3), (0, .ref a0), (1, .int a1), (2, .int a2), (3, .int a3)]) (st2 := []) hm dX13_called_21 rfl ?_
    refine mx_S.ext [(0, .ref a0), (1, .int a1), (2, .int a2), (4, .int a3), (5, .int 0), (6, .int v35)] (mx_sub_pos [3, 4, 5, 2, 1, 0] rfl (show ([6, 5, 4, 0, 1, 2, 3] : List Nat).Nodup by decide)) ?_
    exact w_X13_called_23_ok X hF hL nn hrc nn a0 a1 a2 a3 0 v35 h _ hf
  · refine sb_if_eq hm dX13_called_4 (tgt := 9) rfl (fun z => absurd z c36) (fun _ => ?_)
    refine sx_ic (v := 0) hm dX13_called_7 (by decide) ?_
    cases hf
    exact sx_ire hm dX13_called_8 rfl rfl
theorem g_X13_condition_ok (X : Nat × (Nat → Int32)) (nn : Nat) : ∀ d, hg5_X13_condition X d (g_X13_condition nn d) := by
  intro d
  induction d with
  | zero => exact ⟨(fun {F L} _ _ a0 a1 h {r} hf => by cases hf), (fun {F L} _ _ a0 a1 h {r} hf => by cases hf), (fun {F L} _ _ a0 a1 h {r} hf => by cases hf), (fun {F L} _ _ a0 a1 h {r} hf => by cases hf), (fun {F L} _ _ a0 a1 h {r} hf => by cases hf), (fun {F L} _ _ a0 a1 h {r} hf => by cases hf), (fun {F L} _ _ a0 a1 a2 a3 h {r} hf => by cases hf)⟩
  | succ d ih => exact ⟨(fun {F L} hF hL a0 a1 h {r} hf => o_X13_condition_ok X hF hL nn ih a0 a1 h hf), (fun {F L} hF hL a0 a1 h {r} hf => o_X13_given_ok X hF hL nn ih a0 a1 h hf), (fun {F L} hF hL a0 a1 h {r} hf => o_X13_worked_ok X hF hL nn ih a0 a1 h hf), (fun {F L} hF hL a0 a1 h {r} hf => o_X13_rule_ok X hF hL nn ih a0 a1 h hf), (fun {F L} hF hL a0 a1 h {r} hf => o_X13_both_ok X hF hL nn ih a0 a1 h hf), (fun {F L} hF hL a0 a1 h {r} hf => o_X13_invoked_ok X hF hL nn ih a0 a1 h hf), (fun {F L} hF hL a0 a1 a2 a3 h {r} hf => o_X13_called_ok X hF hL nn ih a0 a1 a2 a3 h hf)⟩
theorem f_X13_condition_ok (X : Nat × (Nat → Int32)) {F L : Nat} (hF : 1606 ≤ F) (hL : 43335 ≤ L) (nn : Nat) (a0 : Nat) (a1 : Int32) (h : mx_H) {r : mx_H} (hf : f_X13_condition nn a0 a1 h = some r) : mx_R X F L 435 [.ref a0, .int a1] h (none, r, 0, 0) := (g_X13_condition_ok X nn 1600).1 (by omega) (by omega) a0 a1 h hf
theorem f_X13_given_ok (X : Nat × (Nat → Int32)) {F L : Nat} (hF : 1606 ≤ F) (hL : 43335 ≤ L) (nn : Nat) (a0 : Nat) (a1 : Int32) (h : mx_H) {r : (Int32 × mx_H)} (hf : f_X13_given nn a0 a1 h = some r) : mx_R X F L 436 [.ref a0, .int a1] h (some (.int r.1), r.2, 0, 0) := (g_X13_condition_ok X nn 1600).2.1 (by omega) (by omega) a0 a1 h hf
theorem f_X13_worked_ok (X : Nat × (Nat → Int32)) {F L : Nat} (hF : 1606 ≤ F) (hL : 43335 ≤ L) (nn : Nat) (a0 : Nat) (a1 : Int32) (h : mx_H) {r : (Int32 × mx_H)} (hf : f_X13_worked nn a0 a1 h = some r) : mx_R X F L 438 [.ref a0, .int a1] h (some (.int r.1), r.2, 0, 0) := (g_X13_condition_ok X nn 1600).2.2.1 (by omega) (by omega) a0 a1 h hf
theorem f_X13_rule_ok (X : Nat × (Nat → Int32)) {F L : Nat} (hF : 1606 ≤ F) (hL : 43335 ≤ L) (nn : Nat) (a0 : Nat) (a1 : Int32) (h : mx_H) {r : (Int32 × mx_H)} (hf : f_X13_rule nn a0 a1 h = some r) : mx_R X F L 441 [.ref a0, .int a1] h (some (.int r.1), r.2, 0, 0) := (g_X13_condition_ok X nn 1600).2.2.2.1 (by omega) (by omega) a0 a1 h hf
theorem f_X13_both_ok (X : Nat × (Nat → Int32)) {F L : Nat} (hF : 1606 ≤ F) (hL : 43335 ≤ L) (nn : Nat) (a0 : Nat) (a1 : Int32) (h : mx_H) {r : (Int32 × mx_H)} (hf : f_X13_both nn a0 a1 h = some r) : mx_R X F L 443 [.ref a0, .int a1] h (some (.int r.1), r.2, 0, 0) := (g_X13_condition_ok X nn 1600).2.2.2.2.1 (by omega) (by omega) a0 a1 h hf
theorem f_X13_invoked_ok (X : Nat × (Nat → Int32)) {F L : Nat} (hF : 1606 ≤ F) (hL : 43335 ≤ L) (nn : Nat) (a0 : Nat) (a1 : Int32) (h : mx_H) {r : (Int32 × mx_H)} (hf : f_X13_invoked nn a0 a1 h = some r) : mx_R X F L 446 [.ref a0, .int a1] h (some (.int r.1), r.2, 0, 0) := (g_X13_condition_ok X nn 1600).2.2.2.2.2.1 (by omega) (by omega) a0 a1 h hf
theorem f_X13_called_ok (X : Nat × (Nat → Int32)) {F L : Nat} (hF : 1606 ≤ F) (hL : 43335 ≤ L) (nn : Nat) (a0 : Nat) (a1 : Int32) (a2 : Int32) (a3 : Int32) (h : mx_H) {r : (Int32 × mx_H)} (hf : f_X13_called nn a0 a1 a2 a3 h = some r) : mx_R X F L 447 [.ref a0, .int a1, .int a2, .int a3] h (some (.int r.1), r.2, 0, 0) := (g_X13_condition_ok X nn 1600).2.2.2.2.2.2 (by omega) (by omega) a0 a1 a2 a3 h hf

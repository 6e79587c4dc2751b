set_option maxHeartbeats 4000000 in
set_option maxRecDepth 20000 in
theorem w_X13_call_228_ok (X : Nat × (Nat → Int32)) {F L : Nat} (hF : 12 ≤ F) (hL : 277 ≤ L) (nn : Nat) : ∀ (k : Nat) (l0 : Nat) (l5 : Int32) (l7 : Int32) (l11 : Int32) (h : mx_H) (r : mx_H), w_X13_call_228 nn k l0 l5 l7 l11 h = some r → mx_S X F L 591 228 [(0, .ref l0), (5, .int l5), (7, .int l7), (11, .int l11)] [] h 0 0 (none, r, 0, 0) := by
  have hm : mx_mt 591 = some (yX13_call, cX13_call, 12, none) := mt_X13_call
  intro k
  induction k with
  | zero => intro l0 l5 l7 l11 h r hf; cases hf
  | succ k ih =>
    intro l0 l5 l7 l11 h r hf
    unfold w_X13_call_228 at hf
    refine mx_S.pu (pc2 := 230) (lv2 := [(0, .ref l0), (5, .int l5), (7, .int l7), (11, .int l11)]) (st2 := [.int l11]) hm dX13_call_228 rfl ?_
    refine mx_S.pu (pc2 := 232) (lv2 := [(0, .ref l0), (5, .int l5), (7, .int l7), (11, .int l11)]) (st2 := [.int l5, .int l11]) hm dX13_call_230 rfl ?_
    rcases mx_if_el hf with ⟨c11, hf⟩ | ⟨c11, hf⟩
    · refine sb_ic_ge hm dX13_call_232 (tgt := 268) rfl (fun _ => ?_) (fun z => absurd c11 z)
      cases hf
      exact sx_ret hm dX13_call_268 rfl
    · refine sb_ic_ge hm dX13_call_232 (tgt := 268) rfl (fun z => absurd z c11) (fun _ => ?_)
      refine mx_S.pu (pc2 := 236) (lv2 := [(0, .ref l0), (5, .int l5), (7, .int l7), (11, .int l11)]) (st2 := [.ref l0]) hm dX13_call_235 rfl ?_
      replace hf := mx_sv_el hf; obtain ⟨v1, e_v1, hf⟩ := hf
      refine sx_get hm dX13_call_236 rs_RX13_306 (xgr_el e_v1) ?_
      clear e_v1
      refine sx_bi (v := 60) hm dX13_call_239 (by decide) ?_
      refine mx_S.pu (pc2 := 242) (lv2 := [(0, .ref l0), (5, .int l5), (7, .int l7), (11, .int l11)]) (st2 := [.ref l0, .int 60, .ref v1]) hm dX13_call_241 rfl ?_
      replace hf := mx_sv_el hf; obtain ⟨v2, e_v2, hf⟩ := hf
      refine sx_get hm dX13_call_242 rs_RX13_1058 (xgi_el e_v2) ?_
      clear e_v2
      refine sx_ic (v := 1) hm dX13_call_245 (by decide) ?_
      replace hf := xl_el hf; obtain ⟨v3, e_v3, hf⟩ := hf
      refine mx_S.pu (pc2 := 247) (lv2 := [(0, .ref l0), (5, .int l5), (7, .int l7), (11, .int l11)]) (st2 := [.int v3, .int 60, .ref v1]) hm dX13_call_246 (by rw [← e_v3]; rfl) ?_
      clear e_v3
      replace hf := xl_el hf; obtain ⟨v4, e_v4, hf⟩ := hf
      refine mx_S.pu (pc2 := 248) (lv2 := [(0, .ref l0), (5, .int l5), (7, .int l7), (11, .int l11)]) (st2 := [.int v4, .ref v1]) hm dX13_call_247 (by rw [← e_v4]; rfl) ?_
      clear e_v4
      refine mx_S.pu (pc2 := 250) (lv2 := [(0, .ref l0), (5, .int l5), (7, .int l7), (11, .int l11)]) (st2 := [.int l11, .int v4, .ref v1]) hm dX13_call_248 rfl ?_
      replace hf := xl_el hf; obtain ⟨v5, e_v5, hf⟩ := hf
      refine mx_S.pu (pc2 := 251) (lv2 := [(0, .ref l0), (5, .int l5), (7, .int l7), (11, .int l11)]) (st2 := [.int v5, .ref v1]) hm dX13_call_250 (by rw [← e_v5]; rfl) ?_
      clear e_v5
      refine mx_S.pu (pc2 := 252) (lv2 := [(0, .ref l0), (5, .int l5), (7, .int l7), (11, .int l11)]) (st2 := [.ref l0, .int v5, .ref v1]) hm dX13_call_251 rfl ?_
      replace hf := mx_sv_el hf; obtain ⟨v6, e_v6, hf⟩ := hf
      refine sx_get hm dX13_call_252 rs_RX13_306 (xgr_el e_v6) ?_
      clear e_v6
      refine mx_S.pu (pc2 := 257) (lv2 := [(0, .ref l0), (5, .int l5), (7, .int l7), (11, .int l11)]) (st2 := [.int l7, .ref v6, .int v5, .ref v1]) hm dX13_call_255 rfl ?_
      refine mx_S.pu (pc2 := 259) (lv2 := [(0, .ref l0), (5, .int l5), (7, .int l7), (11, .int l11)]) (st2 := [.int l11, .int l7, .ref v6, .int v5, .ref v1]) hm dX13_call_257 rfl ?_
      replace hf := xl_el hf; obtain ⟨v7, e_v7, hf⟩ := hf
      refine mx_S.pu (pc2 := 260) (lv2 := [(0, .ref l0), (5, .int l5), (7, .int l7), (11, .int l11)]) (st2 := [.int v7, .ref v6, .int v5, .ref v1]) hm dX13_call_259 (by rw [← e_v7]; rfl) ?_
      clear e_v7
      replace hf := mx_sv_el hf; obtain ⟨v8, e_v8, hf⟩ := hf
      refine sx_ald hm dX13_call_260 e_v8 ?_
      clear e_v8
      replace hf := mx_sv_el hf; obtain ⟨h9, e_h9, hf⟩ := hf
      refine sx_ast hm dX13_call_261 e_h9 ?_
      clear e_h9
      replace hf := xl_el hf; obtain ⟨v10, e_v10, hf⟩ := hf
      refine mx_S.pu (pc2 := 265) (lv2 := [(11, .int v10), (0, .ref l0), (5, .int l5), (7, .int l7)]) (st2 := []) hm dX13_call_262 (by rw [← e_v10]; rfl) ?_
      clear e_v10
      refine mx_S.pu (pc2 := 228) (lv2 := [(11, .int v10), (0, .ref l0), (5, .int l5), (7, .int l7)]) (st2 := []) hm dX13_call_265 rfl ?_
      refine mx_S.ext [(0, .ref l0), (5, .int l5), (7, .int l7), (11, .int v10)] (mx_sub_pos [1, 2, 3, 0] rfl (show ([11, 0, 5, 7] : List Nat).Nodup by decide)) ?_
      exact ih l0 l5 l7 v10 h9 _ hf
set_option maxHeartbeats 4000000 in
set_option maxRecDepth 20000 in
theorem j_X13_call_168_ok (X : Nat × (Nat → Int32)) {F L : Nat} (hF : 12 ≤ F) (hL : 277 ≤ L) (nn : Nat) (l0 : Nat) (l2 : Int32) (l3 : Int32) (l5 : Int32) (l6 : Int32) (l7 : Int32) (l8 : Int32) (h : mx_H) {r : mx_H} (hf : j_X13_call_168 nn l0 l2 l3 l5 l6 l7 l8 h = some r) : mx_S X F L 591 168 [(0, .ref l0), (2, .int l2), (3, .int l3), (5, .int l5), (6, .int l6), (7, .int l7), (8, .int l8)] [] h 0 0 (none, r, 0, 0) := by
  have hm : mx_mt 591 = some (yX13_call, cX13_call, 12, none) := mt_X13_call
  unfold j_X13_call_168 at hf
  refine mx_S.pu (pc2 := 169) (lv2 := [(0, .ref l0), (2, .int l2), (3, .int l3), (5, .int l5), (6, .int l6), (7, .int l7), (8, .int l8)]) (st2 := [.ref l0]) hm dX13_call_168 rfl ?_
  refine mx_S.pu (pc2 := 171) (lv2 := [(0, .ref l0), (2, .int l2), (3, .int l3), (5, .int l5), (6, .int l6), (7, .int l7), (8, .int l8)]) (st2 := [.int l8, .ref l0]) hm dX13_call_169 rfl ?_
  refine mx_S.pu (pc2 := 172) (lv2 := [(0, .ref l0), (2, .int l2), (3, .int l3), (5, .int l5), (6, .int l6), (7, .int l7), (8, .int l8)]) (st2 := [.int l3, .int l8, .ref l0]) hm dX13_call_171 rfl ?_
  refine mx_S.pu (pc2 := 173) (lv2 := [(0, .ref l0), (2, .int l2), (3, .int l3), (5, .int l5), (6, .int l6), (7, .int l7), (8, .int l8)]) (st2 := [.ref l0, .int l3, .int l8, .ref l0]) hm dX13_call_172 rfl ?_
  refine mx_S.pu (pc2 := 174) (lv2 := [(0, .ref l0), (2, .int l2), (3, .int l3), (5, .int l5), (6, .int l6), (7, .int l7), (8, .int l8)]) (st2 := [.int l2, .ref l0, .int l3, .int l8, .ref l0]) hm dX13_call_173 rfl ?_
  refine sx_ic (v := 1) hm dX13_call_174 (by decide) ?_
  replace hf := mx_gd_el hf; obtain ⟨c12, hf⟩ := hf
  replace hf := mx_sv_el hf; obtain ⟨u13, e_u13, hf⟩ := hf
  refine sx_cv hm dX13_call_175 rs_RX13_1122 mt_X13_memberPart [.int l2, .int 1] [.int l3, .int l8, .ref l0] (b := l0) (ci := 13) rfl rfl rfl c12 (Nat.le_of_ble_eq_true rfl) (Nat.le_of_ble_eq_true rfl) (by omega) (by omega) (f_X13_memberPart_ok X (by omega) (by omega) nn l0 l2 1 h e_u13) ?_
  clear e_u13
  show mx_S X F L 591 178 [(0, .ref l0), (2, .int l2), (3, .int l3), (5, .int l5), (6, .int l6), (7, .int l7), (8, .int l8)] [.int u13.1, .int l3, .int l8, .ref l0] u13.2 0 0 (none, r, 0, 0)
  refine sx_ic (v := 1) hm dX13_call_178 (by decide) ?_
  replace hf := mx_gd_el hf; obtain ⟨c14, hf⟩ := hf
  replace hf := mx_sv_el hf; obtain ⟨u15, e_u15, hf⟩ := hf
  refine sx_cv hm dX13_call_179 rs_RX13_928 mt_X13_holder [.int l8, .int l3, .int u13.1, .int 1] [] (b := l0) (ci := 13) rfl rfl rfl c14 (Nat.le_of_ble_eq_true rfl) (Nat.le_of_ble_eq_true rfl) (by omega) (by omega) (f_X13_holder_ok X (by omega) (by omega) nn l0 l8 l3 u13.1 1 u13.2 e_u15) ?_
  clear e_u15
  show mx_S X F L 591 182 [(0, .ref l0), (2, .int l2), (3, .int l3), (5, .int l5), (6, .int l6), (7, .int l7), (8, .int l8)] [.int u15.1] u15.2 0 0 (none, r, 0, 0)
  refine mx_S.pu (pc2 := 184) (lv2 := [(9, .int u15.1), (0, .ref l0), (2, .int l2), (3, .int l3), (5, .int l5), (6, .int l6), (7, .int l7), (8, .int l8)]) (st2 := []) hm dX13_call_182 rfl ?_
  refine mx_S.pu (pc2 := 185) (lv2 := [(9, .int u15.1), (0, .ref l0), (2, .int l2), (3, .int l3), (5, .int l5), (6, .int l6), (7, .int l7), (8, .int l8)]) (st2 := [.ref l0]) hm dX13_call_184 rfl ?_
  replace hf := mx_sv_el hf; obtain ⟨v16, e_v16, hf⟩ := hf
  refine sx_get hm dX13_call_185 rs_RX13_898 (xgi_el e_v16) ?_
  clear e_v16
  refine mx_S.pu (pc2 := 190) (lv2 := [(10, .int v16), (9, .int u15.1), (0, .ref l0), (2, .int l2), (3, .int l3), (5, .int l5), (6, .int l6), (7, .int l7), (8, .int l8)]) (st2 := []) hm dX13_call_188 rfl ?_
  refine mx_S.pu (pc2 := 191) (lv2 := [(10, .int v16), (9, .int u15.1), (0, .ref l0), (2, .int l2), (3, .int l3), (5, .int l5), (6, .int l6), (7, .int l7), (8, .int l8)]) (st2 := [.ref l0]) hm dX13_call_190 rfl ?_
  replace hf := mx_sv_el hf; obtain ⟨v17, e_v17, hf⟩ := hf
  refine sx_get hm dX13_call_191 rs_RX13_1058 (xgi_el e_v17) ?_
  clear e_v17
  refine sx_bi (v := 60) hm dX13_call_194 (by decide) ?_
  rcases mx_if_el hf with ⟨c25, hf⟩ | ⟨c25, hf⟩
  · refine sb_ic_ne hm dX13_call_196 (tgt := 205) rfl (fun _ => ?_) (fun z => absurd c25 z)
    refine mx_S.pu (pc2 := 206) (lv2 := [(10, .int v16), (9, .int u15.1), (0, .ref l0), (2, .int l2), (3, .int l3), (5, .int l5), (6, .int l6), (7, .int l7), (8, .int l8)]) (st2 := [.ref l0]) hm dX13_call_205 rfl ?_
    replace hf := mx_sv_el hf; obtain ⟨v18, e_v18, hf⟩ := hf
    refine sx_get hm dX13_call_206 rs_RX13_303 (xgr_el e_v18) ?_
    clear e_v18
    refine mx_S.pu (pc2 := 211) (lv2 := [(10, .int v16), (9, .int u15.1), (0, .ref l0), (2, .int l2), (3, .int l3), (5, .int l5), (6, .int l6), (7, .int l7), (8, .int l8)]) (st2 := [.int l6, .ref v18]) hm dX13_call_209 rfl ?_
    refine mx_S.pu (pc2 := 212) (lv2 := [(10, .int v16), (9, .int u15.1), (0, .ref l0), (2, .int l2), (3, .int l3), (5, .int l5), (6, .int l6), (7, .int l7), (8, .int l8)]) (st2 := [.int l6, .ref v18, .int l6, .ref v18]) hm dX13_call_211 rfl ?_
    replace hf := mx_sv_el hf; obtain ⟨v19, e_v19, hf⟩ := hf
    refine sx_ald hm dX13_call_212 e_v19 ?_
    clear e_v19
    refine mx_S.pu (pc2 := 215) (lv2 := [(10, .int v16), (9, .int u15.1), (0, .ref l0), (2, .int l2), (3, .int l3), (5, .int l5), (6, .int l6), (7, .int l7), (8, .int l8)]) (st2 := [.int l5, .int v19, .int l6, .ref v18]) hm dX13_call_213 rfl ?_
    replace hf := xl_el hf; obtain ⟨v20, e_v20, hf⟩ := hf
    refine mx_S.pu (pc2 := 216) (lv2 := [(10, .int v16), (9, .int u15.1), (0, .ref l0), (2, .int l2), (3, .int l3), (5, .int l5), (6, .int l6), (7, .int l7), (8, .int l8)]) (st2 := [.int v20, .int l6, .ref v18]) hm dX13_call_215 (by rw [← e_v20]; rfl) ?_
    clear e_v20
    replace hf := mx_sv_el hf; obtain ⟨h21, e_h21, hf⟩ := hf
    refine sx_ast hm dX13_call_216 e_h21 ?_
    clear e_h21
    refine mx_S.pu (pc2 := 218) (lv2 := [(10, .int v16), (9, .int u15.1), (0, .ref l0), (2, .int l2), (3, .int l3), (5, .int l5), (6, .int l6), (7, .int l7), (8, .int l8)]) (st2 := [.ref l0]) hm dX13_call_217 rfl ?_
    refine mx_S.pu (pc2 := 220) (lv2 := [(10, .int v16), (9, .int u15.1), (0, .ref l0), (2, .int l2), (3, .int l3), (5, .int l5), (6, .int l6), (7, .int l7), (8, .int l8)]) (st2 := [.int u15.1, .ref l0]) hm dX13_call_218 rfl ?_
    refine mx_S.pu (pc2 := 222) (lv2 := [(10, .int v16), (9, .int u15.1), (0, .ref l0), (2, .int l2), (3, .int l3), (5, .int l5), (6, .int l6), (7, .int l7), (8, .int l8)]) (st2 := [.int v16, .int u15.1, .ref l0]) hm dX13_call_220 rfl ?_
    replace hf := mx_gd_el hf; obtain ⟨c22, hf⟩ := hf
    replace hf := mx_sv_el hf; obtain ⟨u23, e_u23, hf⟩ := hf
    refine sx_cv hm dX13_call_222 rs_RX13_1061 mt_X13_enter [.int u15.1, .int v16] [] (b := l0) (ci := 13) rfl rfl rfl c22 (Nat.le_of_ble_eq_true rfl) (Nat.le_of_ble_eq_true rfl) (by omega) (by omega) (f_X13_enter_ok X (by omega) (by omega) nn l0 u15.1 v16 h21 e_u23) ?_
    clear e_u23
    show mx_S X F L 591 225 [(10, .int v16), (9, .int u15.1), (0, .ref l0), (2, .int l2), (3, .int l3), (5, .int l5), (6, .int l6), (7, .int l7), (8, .int l8)] [] u23 0 0 (none, r, 0, 0)
    refine sx_ic (v := 0) hm dX13_call_225 (by decide) ?_
    refine mx_S.pu (pc2 := 228) (lv2 := [(11, .int 0), (10, .int v16), (9, .int u15.1), (0, .ref l0), (2, .int l2), (3, .int l3), (5, .int l5), (6, .int l6), (7, .int l7), (8, .int l8)]) (st2 := []) hm dX13_call_226 rfl ?_
    refine mx_S.ext [(0, .ref l0), (5, .int l5), (7, .int l7), (11, .int 0)] (mx_sub_pos [3, 6, 8, 0] rfl (show ([11, 10, 9, 0, 2, 3, 5, 6, 7, 8] : List Nat).Nodup by decide)) ?_
    exact w_X13_call_228_ok X hF hL nn nn l0 l5 l7 0 u23 _ hf
  · refine sb_ic_ne hm dX13_call_196 (tgt := 205) rfl (fun z => absurd z c25) (fun _ => ?_)
    refine mx_S.pu (pc2 := 200) (lv2 := [(10, .int v16), (9, .int u15.1), (0, .ref l0), (2, .int l2), (3, .int l3), (5, .int l5), (6, .int l6), (7, .int l7), (8, .int l8)]) (st2 := [.ref l0]) hm dX13_call_199 rfl ?_
    refine sx_ic (v := 5) hm dX13_call_200 (by decide) ?_
    replace hf := mx_sv_el hf; obtain ⟨h24, e_h24, hf⟩ := hf
    refine sx_put hm dX13_call_201 rs_RX13_858 ft_13_138 ⟨rfl, rfl⟩ (fun z => by cases z) e_h24 ?_
    clear e_h24
    cases hf
    exact sx_ret hm dX13_call_204 rfl
set_option maxHeartbeats 4000000 in
set_option maxRecDepth 20000 in
theorem j_X13_call_166_ok (X : Nat × (Nat → Int32)) {F L : Nat} (hF : 12 ≤ F) (hL : 277 ≤ L) (nn : Nat) (l0 : Nat) (l2 : Int32) (l3 : Int32) (l5 : Int32) (l6 : Int32) (l7 : Int32) (s0 : Int32) (h : mx_H) {r : mx_H} (hf : j_X13_call_166 nn l0 l2 l3 l5 l6 l7 s0 h = some r) : mx_S X F L 591 166 [(0, .ref l0), (2, .int l2), (3, .int l3), (5, .int l5), (6, .int l6), (7, .int l7)] [.int s0] h 0 0 (none, r, 0, 0) := by
  have hm : mx_mt 591 = some (yX13_call, cX13_call, 12, none) := mt_X13_call
  unfold j_X13_call_166 at hf
  refine mx_S.pu (pc2 := 168) (lv2 := [(8, .int s0), (0, .ref l0), (2, .int l2), (3, .int l3), (5, .int l5), (6, .int l6), (7, .int l7)]) (st2 := []) hm dX13_call_166 rfl ?_
  refine mx_S.ext [(0, .ref l0), (2, .int l2), (3, .int l3), (5, .int l5), (6, .int l6), (7, .int l7), (8, .int s0)] (mx_sub_pos [1, 2, 3, 4, 5, 6, 0] rfl (show ([8, 0, 2, 3, 5, 6, 7] : List Nat).Nodup by decide)) ?_
  exact j_X13_call_168_ok X hF hL nn l0 l2 l3 l5 l6 l7 s0 h hf
set_option maxHeartbeats 4000000 in
set_option maxRecDepth 20000 in
theorem j_X13_call_72_ok (X : Nat × (Nat → Int32)) {F L : Nat} (hF : 12 ≤ F) (hL : 277 ≤ L) (nn : Nat) (l0 : Nat) (l1 : Int32) (l2 : Int32) (l3 : Int32) (s0 : Int32) (s1 : Int32) (h : mx_H) {r : mx_H} (hf : j_X13_call_72 nn l0 l1 l2 l3 s0 s1 h = some r) : mx_S X F L 591 72 [(0, .ref l0), (1, .int l1), (2, .int l2), (3, .int l3)] [.int s0, .int s1] h 0 0 (none, r, 0, 0) := by
  have hm : mx_mt 591 = some (yX13_call, cX13_call, 12, none) := mt_X13_call
  unfold j_X13_call_72 at hf
  replace hf := xl_el hf; obtain ⟨v26, e_v26, hf⟩ := hf
  refine mx_S.pu (pc2 := 73) (lv2 := [(0, .ref l0), (1, .int l1), (2, .int l2), (3, .int l3)]) (st2 := [.int v26]) hm dX13_call_72 (by rw [← e_v26]; rfl) ?_
  clear e_v26
  refine mx_S.pu (pc2 := 75) (lv2 := [(5, .int v26), (0, .ref l0), (1, .int l1), (2, .int l2), (3, .int l3)]) (st2 := []) hm dX13_call_73 rfl ?_
  refine mx_S.pu (pc2 := 76) (lv2 := [(5, .int v26), (0, .ref l0), (1, .int l1), (2, .int l2), (3, .int l3)]) (st2 := [.ref l0]) hm dX13_call_75 rfl ?_
  replace hf := mx_sv_el hf; obtain ⟨v27, e_v27, hf⟩ := hf
  refine sx_get hm dX13_call_76 rs_RX13_1058 (xgi_el e_v27) ?_
  clear e_v27
  refine sx_ic (v := 1) hm dX13_call_79 (by decide) ?_
  replace hf := xl_el hf; obtain ⟨v28, e_v28, hf⟩ := hf
  refine mx_S.pu (pc2 := 81) (lv2 := [(5, .int v26), (0, .ref l0), (1, .int l1), (2, .int l2), (3, .int l3)]) (st2 := [.int v28]) hm dX13_call_80 (by rw [← e_v28]; rfl) ?_
  clear e_v28
  refine mx_S.pu (pc2 := 83) (lv2 := [(6, .int v28), (5, .int v26), (0, .ref l0), (1, .int l1), (2, .int l2), (3, .int l3)]) (st2 := []) hm dX13_call_81 rfl ?_
  refine sx_bi (v := 60) hm dX13_call_83 (by decide) ?_
  refine mx_S.pu (pc2 := 87) (lv2 := [(6, .int v28), (5, .int v26), (0, .ref l0), (1, .int l1), (2, .int l2), (3, .int l3)]) (st2 := [.int v28, .int 60]) hm dX13_call_85 rfl ?_
  replace hf := xl_el hf; obtain ⟨v29, e_v29, hf⟩ := hf
  refine mx_S.pu (pc2 := 88) (lv2 := [(6, .int v28), (5, .int v26), (0, .ref l0), (1, .int l1), (2, .int l2), (3, .int l3)]) (st2 := [.int v29]) hm dX13_call_87 (by rw [← e_v29]; rfl) ?_
  clear e_v29
  refine sx_bi (v := 30) hm dX13_call_88 (by decide) ?_
  replace hf := xl_el hf; obtain ⟨v30, e_v30, hf⟩ := hf
  refine mx_S.pu (pc2 := 91) (lv2 := [(6, .int v28), (5, .int v26), (0, .ref l0), (1, .int l1), (2, .int l2), (3, .int l3)]) (st2 := [.int v30]) hm dX13_call_90 (by rw [← e_v30]; rfl) ?_
  clear e_v30
  refine mx_S.pu (pc2 := 92) (lv2 := [(6, .int v28), (5, .int v26), (0, .ref l0), (1, .int l1), (2, .int l2), (3, .int l3)]) (st2 := [.ref l0, .int v30]) hm dX13_call_91 rfl ?_
  replace hf := mx_sv_el hf; obtain ⟨v31, e_v31, hf⟩ := hf
  refine sx_get hm dX13_call_92 rs_RX13_303 (xgr_el e_v31) ?_
  clear e_v31
  refine mx_S.pu (pc2 := 97) (lv2 := [(6, .int v28), (5, .int v26), (0, .ref l0), (1, .int l1), (2, .int l2), (3, .int l3)]) (st2 := [.int v28, .ref v31, .int v30]) hm dX13_call_95 rfl ?_
  replace hf := mx_sv_el hf; obtain ⟨v32, e_v32, hf⟩ := hf
  refine sx_ald hm dX13_call_97 e_v32 ?_
  clear e_v32
  replace hf := xl_el hf; obtain ⟨v33, e_v33, hf⟩ := hf
  refine mx_S.pu (pc2 := 99) (lv2 := [(6, .int v28), (5, .int v26), (0, .ref l0), (1, .int l1), (2, .int l2), (3, .int l3)]) (st2 := [.int v33]) hm dX13_call_98 (by rw [← e_v33]; rfl) ?_
  clear e_v33
  refine mx_S.pu (pc2 := 101) (lv2 := [(6, .int v28), (5, .int v26), (0, .ref l0), (1, .int l1), (2, .int l2), (3, .int l3)]) (st2 := [.int v26, .int v33]) hm dX13_call_99 rfl ?_
  replace hf := xl_el hf; obtain ⟨v34, e_v34, hf⟩ := hf
  refine mx_S.pu (pc2 := 102) (lv2 := [(6, .int v28), (5, .int v26), (0, .ref l0), (1, .int l1), (2, .int l2), (3, .int l3)]) (st2 := [.int v34]) hm dX13_call_101 (by rw [← e_v34]; rfl) ?_
  clear e_v34
  refine mx_S.pu (pc2 := 104) (lv2 := [(7, .int v34), (6, .int v28), (5, .int v26), (0, .ref l0), (1, .int l1), (2, .int l2), (3, .int l3)]) (st2 := []) hm dX13_call_102 rfl ?_
  refine mx_S.pu (pc2 := 105) (lv2 := [(7, .int v34), (6, .int v28), (5, .int v26), (0, .ref l0), (1, .int l1), (2, .int l2), (3, .int l3)]) (st2 := [.ref l0]) hm dX13_call_104 rfl ?_
  refine mx_S.pu (pc2 := 106) (lv2 := [(7, .int v34), (6, .int v28), (5, .int v26), (0, .ref l0), (1, .int l1), (2, .int l2), (3, .int l3)]) (st2 := [.ref l0, .ref l0]) hm dX13_call_105 rfl ?_
  refine mx_S.pu (pc2 := 107) (lv2 := [(7, .int v34), (6, .int v28), (5, .int v26), (0, .ref l0), (1, .int l1), (2, .int l2), (3, .int l3)]) (st2 := [.int l2, .ref l0, .ref l0]) hm dX13_call_106 rfl ?_
  refine sx_ic (v := 0) hm dX13_call_107 (by decide) ?_
  replace hf := mx_gd_el hf; obtain ⟨c35, hf⟩ := hf
  replace hf := mx_sv_el hf; obtain ⟨u36, e_u36, hf⟩ := hf
  refine sx_cv hm dX13_call_108 rs_RX13_1122 mt_X13_memberPart [.int l2, .int 0] [.ref l0] (b := l0) (ci := 13) rfl rfl rfl c35 (Nat.le_of_ble_eq_true rfl) (Nat.le_of_ble_eq_true rfl) (by omega) (by omega) (f_X13_memberPart_ok X (by omega) (by omega) nn l0 l2 0 h e_u36) ?_
  clear e_u36
  show mx_S X F L 591 111 [(7, .int v34), (6, .int v28), (5, .int v26), (0, .ref l0), (1, .int l1), (2, .int l2), (3, .int l3)] [.int u36.1, .ref l0] u36.2 0 0 (none, r, 0, 0)
  replace hf := mx_gd_el hf; obtain ⟨c37, hf⟩ := hf
  replace hf := mx_sv_el hf; obtain ⟨u38, e_u38, hf⟩ := hf
  refine sx_cv hm dX13_call_111 rs_RX13_1125 mt_X13_classIn [.int u36.1] [] (b := l0) (ci := 13) rfl rfl rfl c37 (Nat.le_of_ble_eq_true rfl) (Nat.le_of_ble_eq_true rfl) (by omega) (by omega) (f_X13_classIn_ok X (by omega) (by omega) nn l0 u36.1 u36.2 e_u38) ?_
  clear e_u38
  show mx_S X F L 591 114 [(7, .int v34), (6, .int v28), (5, .int v26), (0, .ref l0), (1, .int l1), (2, .int l2), (3, .int l3)] [.int u38.1] u38.2 0 0 (none, r, 0, 0)
  refine mx_S.pu (pc2 := 116) (lv2 := [(8, .int u38.1), (7, .int v34), (6, .int v28), (5, .int v26), (0, .ref l0), (1, .int l1), (2, .int l2), (3, .int l3)]) (st2 := []) hm dX13_call_114 rfl ?_
  refine mx_S.pu (pc2 := 117) (lv2 := [(8, .int u38.1), (7, .int v34), (6, .int v28), (5, .int v26), (0, .ref l0), (1, .int l1), (2, .int l2), (3, .int l3)]) (st2 := [.int l1]) hm dX13_call_116 rfl ?_
  refine sx_si (v := 182) hm dX13_call_117 (by decide) ?_
  rcases mx_if_el hf with ⟨c49, hf⟩ | ⟨c49, hf⟩
  · refine sb_ic_ne hm dX13_call_120 (tgt := 168) rfl (fun _ => ?_) (fun z => absurd c49 z)
    refine mx_S.ext [(0, .ref l0), (2, .int l2), (3, .int l3), (5, .int v26), (6, .int v28), (7, .int v34), (8, .int u38.1)] (mx_sub_pos [4, 6, 7, 3, 2, 1, 0] rfl (show ([8, 7, 6, 5, 0, 1, 2, 3] : List Nat).Nodup by decide)) ?_
    exact j_X13_call_168_ok X hF hL nn l0 l2 l3 v26 v28 v34 u38.1 u38.2 hf
  · refine sb_ic_ne hm dX13_call_120 (tgt := 168) rfl (fun z => absurd z c49) (fun _ => ?_)
    refine mx_S.pu (pc2 := 124) (lv2 := [(8, .int u38.1), (7, .int v34), (6, .int v28), (5, .int v26), (0, .ref l0), (1, .int l1), (2, .int l2), (3, .int l3)]) (st2 := [.ref l0]) hm dX13_call_123 rfl ?_
    replace hf := mx_sv_el hf; obtain ⟨v39, e_v39, hf⟩ := hf
    refine sx_get hm dX13_call_124 rs_RX13_306 (xgr_el e_v39) ?_
    clear e_v39
    refine mx_S.pu (pc2 := 129) (lv2 := [(8, .int u38.1), (7, .int v34), (6, .int v28), (5, .int v26), (0, .ref l0), (1, .int l1), (2, .int l2), (3, .int l3)]) (st2 := [.int v34, .ref v39]) hm dX13_call_127 rfl ?_
    replace hf := mx_sv_el hf; obtain ⟨v40, e_v40, hf⟩ := hf
    refine sx_ald hm dX13_call_129 e_v40 ?_
    clear e_v40
    refine mx_S.pu (pc2 := 132) (lv2 := [(9, .int v40), (8, .int u38.1), (7, .int v34), (6, .int v28), (5, .int v26), (0, .ref l0), (1, .int l1), (2, .int l2), (3, .int l3)]) (st2 := []) hm dX13_call_130 rfl ?_
    refine mx_S.pu (pc2 := 134) (lv2 := [(9, .int v40), (8, .int u38.1), (7, .int v34), (6, .int v28), (5, .int v26), (0, .ref l0), (1, .int l1), (2, .int l2), (3, .int l3)]) (st2 := [.int v40]) hm dX13_call_132 rfl ?_
    rcases mx_if_el hf with ⟨c48, hf⟩ | ⟨c48, hf⟩
    · refine sb_if_ne hm dX13_call_134 (tgt := 143) rfl (fun _ => ?_) (fun z => absurd c48 z)
      refine mx_S.pu (pc2 := 144) (lv2 := [(9, .int v40), (8, .int u38.1), (7, .int v34), (6, .int v28), (5, .int v26), (0, .ref l0), (1, .int l1), (2, .int l2), (3, .int l3)]) (st2 := [.ref l0]) hm dX13_call_143 rfl ?_
      replace hf := mx_sv_el hf; obtain ⟨v41, e_v41, hf⟩ := hf
      refine sx_get hm dX13_call_144 rs_RX13_279 (xgr_el e_v41) ?_
      clear e_v41
      refine mx_S.pu (pc2 := 149) (lv2 := [(9, .int v40), (8, .int u38.1), (7, .int v34), (6, .int v28), (5, .int v26), (0, .ref l0), (1, .int l1), (2, .int l2), (3, .int l3)]) (st2 := [.int v40, .ref v41]) hm dX13_call_147 rfl ?_
      replace hf := mx_sv_el hf; obtain ⟨v42, e_v42, hf⟩ := hf
      refine sx_ald hm dX13_call_149 e_v42 ?_
      clear e_v42
      refine sx_bi (v := 99) hm dX13_call_150 (by decide) ?_
      rcases mx_if_el hf with ⟨c45, hf⟩ | ⟨c45, hf⟩
      · refine sb_ic_lt hm dX13_call_152 (tgt := 159) rfl (fun _ => ?_) (fun z => absurd c45 z)
        refine mx_S.pu (pc2 := 160) (lv2 := [(9, .int v40), (8, .int u38.1), (7, .int v34), (6, .int v28), (5, .int v26), (0, .ref l0), (1, .int l1), (2, .int l2), (3, .int l3)]) (st2 := [.ref l0]) hm dX13_call_159 rfl ?_
        replace hf := mx_sv_el hf; obtain ⟨v43, e_v43, hf⟩ := hf
        refine sx_get hm dX13_call_160 rs_RX13_279 (xgr_el e_v43) ?_
        clear e_v43
        refine mx_S.pu (pc2 := 165) (lv2 := [(9, .int v40), (8, .int u38.1), (7, .int v34), (6, .int v28), (5, .int v26), (0, .ref l0), (1, .int l1), (2, .int l2), (3, .int l3)]) (st2 := [.int v40, .ref v43]) hm dX13_call_163 rfl ?_
        replace hf := mx_sv_el hf; obtain ⟨v44, e_v44, hf⟩ := hf
        refine sx_ald hm dX13_call_165 e_v44 ?_
        clear e_v44
        refine mx_S.ext [(0, .ref l0), (2, .int l2), (3, .int l3), (5, .int v26), (6, .int v28), (7, .int v34)] (mx_sub_pos [5, 7, 8, 4, 3, 2] rfl (show ([9, 8, 7, 6, 5, 0, 1, 2, 3] : List Nat).Nodup by decide)) ?_
        exact j_X13_call_166_ok X hF hL nn l0 l2 l3 v26 v28 v34 v44 u38.2 hf
      · refine sb_ic_lt hm dX13_call_152 (tgt := 159) rfl (fun z => absurd z c45) (fun _ => ?_)
        refine sx_ic (v := 0) hm dX13_call_155 (by decide) ?_
        refine mx_S.pu (pc2 := 166) (lv2 := [(9, .int v40), (8, .int u38.1), (7, .int v34), (6, .int v28), (5, .int v26), (0, .ref l0), (1, .int l1), (2, .int l2), (3, .int l3)]) (st2 := [.int 0]) hm dX13_call_156 rfl ?_
        refine mx_S.ext [(0, .ref l0), (2, .int l2), (3, .int l3), (5, .int v26), (6, .int v28), (7, .int v34)] (mx_sub_pos [5, 7, 8, 4, 3, 2] rfl (show ([9, 8, 7, 6, 5, 0, 1, 2, 3] : List Nat).Nodup by decide)) ?_
        exact j_X13_call_166_ok X hF hL nn l0 l2 l3 v26 v28 v34 0 u38.2 hf
    · refine sb_if_ne hm dX13_call_134 (tgt := 143) rfl (fun z => absurd z c48) (fun _ => ?_)
      refine mx_S.pu (pc2 := 138) (lv2 := [(9, .int v40), (8, .int u38.1), (7, .int v34), (6, .int v28), (5, .int v26), (0, .ref l0), (1, .int l1), (2, .int l2), (3, .int l3)]) (st2 := [.ref l0]) hm dX13_call_137 rfl ?_
      refine sx_ic (v := 2) hm dX13_call_138 (by decide) ?_
      replace hf := mx_gd_el hf; obtain ⟨c46, hf⟩ := hf
      replace hf := mx_sv_el hf; obtain ⟨u47, e_u47, hf⟩ := hf
      refine sx_cv hm dX13_call_139 rs_RX13_1093 mt_X13_fails [.int 2] [] (b := l0) (ci := 13) rfl rfl rfl c46 (Nat.le_of_ble_eq_true rfl) (Nat.le_of_ble_eq_true rfl) (by omega) (by omega) (f_X13_fails_ok X (by omega) (by omega) nn l0 2 u38.2 e_u47) ?_
      clear e_u47
      show mx_S X F L 591 142 [(9, .int v40), (8, .int u38.1), (7, .int v34), (6, .int v28), (5, .int v26), (0, .ref l0), (1, .int l1), (2, .int l2), (3, .int l3)] [] u47 0 0 (none, r, 0, 0)
      cases hf
      exact sx_ret hm dX13_call_142 rfl
set_option maxHeartbeats 4000000 in
set_option maxRecDepth 20000 in
theorem f_X13_call_ok (X : Nat × (Nat → Int32)) {F L : Nat} (hF : 12 ≤ F) (hL : 277 ≤ L) (nn : Nat) (a0 : Nat) (a1 : Int32) (a2 : Int32) (h : mx_H) {r : mx_H} (hf : f_X13_call nn a0 a1 a2 h = some r) : mx_R X F L 591 [.ref a0, .int a1, .int a2] h (none, r, 0, 0) := by
  have hm : mx_mt 591 = some (yX13_call, cX13_call, 12, none) := mt_X13_call
  show mx_S X F L 591 0 [(0, .ref a0), (1, .int a1), (2, .int a2)] [] h 0 0 (none, r, 0, 0)
  unfold f_X13_call at hf
  refine mx_S.pu (pc2 := 1) (lv2 := [(0, .ref a0), (1, .int a1), (2, .int a2)]) (st2 := [.ref a0]) hm dX13_call_0 rfl ?_
  replace hf := mx_sv_el hf; obtain ⟨v50, e_v50, hf⟩ := hf
  refine sx_get hm dX13_call_1 rs_RX13_294 (xgr_el e_v50) ?_
  clear e_v50
  refine mx_S.pu (pc2 := 5) (lv2 := [(0, .ref a0), (1, .int a1), (2, .int a2)]) (st2 := [.ref a0, .ref v50]) hm dX13_call_4 rfl ?_
  replace hf := mx_sv_el hf; obtain ⟨v51, e_v51, hf⟩ := hf
  refine sx_get hm dX13_call_5 rs_RX13_1058 (xgi_el e_v51) ?_
  clear e_v51
  refine sx_ic (v := 1) hm dX13_call_8 (by decide) ?_
  replace hf := xl_el hf; obtain ⟨v52, e_v52, hf⟩ := hf
  refine mx_S.pu (pc2 := 10) (lv2 := [(0, .ref a0), (1, .int a1), (2, .int a2)]) (st2 := [.int v52, .ref v50]) hm dX13_call_9 (by rw [← e_v52]; rfl) ?_
  clear e_v52
  replace hf := mx_sv_el hf; obtain ⟨v53, e_v53, hf⟩ := hf
  refine sx_ald hm dX13_call_10 e_v53 ?_
  clear e_v53
  refine sx_bi (v := 8) hm dX13_call_11 (by decide) ?_
  replace hf := xl_el hf; obtain ⟨v54, e_v54, hf⟩ := hf
  refine mx_S.pu (pc2 := 14) (lv2 := [(0, .ref a0), (1, .int a1), (2, .int a2)]) (st2 := [.int v54]) hm dX13_call_13 (by rw [← e_v54]; rfl) ?_
  clear e_v54
  refine mx_S.pu (pc2 := 15) (lv2 := [(3, .int v54), (0, .ref a0), (1, .int a1), (2, .int a2)]) (st2 := []) hm dX13_call_14 rfl ?_
  refine sx_si (v := 6000) hm dX13_call_15 (by decide) ?_
  refine mx_S.pu (pc2 := 19) (lv2 := [(3, .int v54), (0, .ref a0), (1, .int a1), (2, .int a2)]) (st2 := [.int v54, .int 6000]) hm dX13_call_18 rfl ?_
  replace hf := xl_el hf; obtain ⟨v55, e_v55, hf⟩ := hf
  refine mx_S.pu (pc2 := 20) (lv2 := [(3, .int v54), (0, .ref a0), (1, .int a1), (2, .int a2)]) (st2 := [.int v55]) hm dX13_call_19 (by rw [← e_v55]; rfl) ?_
  clear e_v55
  refine mx_S.pu (pc2 := 21) (lv2 := [(3, .int v54), (0, .ref a0), (1, .int a1), (2, .int a2)]) (st2 := [.ref a0, .int v55]) hm dX13_call_20 rfl ?_
  replace hf := mx_sv_el hf; obtain ⟨v56, e_v56, hf⟩ := hf
  refine sx_get hm dX13_call_21 rs_RX13_215 (xgr_el e_v56) ?_
  clear e_v56
  refine sx_si (v := 256) hm dX13_call_24 (by decide) ?_
  refine mx_S.pu (pc2 := 28) (lv2 := [(3, .int v54), (0, .ref a0), (1, .int a1), (2, .int a2)]) (st2 := [.int v54, .int 256, .ref v56, .int v55]) hm dX13_call_27 rfl ?_
  replace hf := xl_el hf; obtain ⟨v57, e_v57, hf⟩ := hf
  refine mx_S.pu (pc2 := 29) (lv2 := [(3, .int v54), (0, .ref a0), (1, .int a1), (2, .int a2)]) (st2 := [.int v57, .ref v56, .int v55]) hm dX13_call_28 (by rw [← e_v57]; rfl) ?_
  clear e_v57
  refine mx_S.pu (pc2 := 30) (lv2 := [(3, .int v54), (0, .ref a0), (1, .int a1), (2, .int a2)]) (st2 := [.ref a0, .int v57, .ref v56, .int v55]) hm dX13_call_29 rfl ?_
  refine mx_S.pu (pc2 := 31) (lv2 := [(3, .int v54), (0, .ref a0), (1, .int a1), (2, .int a2)]) (st2 := [.int a2, .ref a0, .int v57, .ref v56, .int v55]) hm dX13_call_30 rfl ?_
  refine sx_ic (v := 2) hm dX13_call_31 (by decide) ?_
  replace hf := mx_gd_el hf; obtain ⟨c58, hf⟩ := hf
  replace hf := mx_sv_el hf; obtain ⟨u59, e_u59, hf⟩ := hf
  refine sx_cv hm dX13_call_32 rs_RX13_1122 mt_X13_memberPart [.int a2, .int 2] [.int v57, .ref v56, .int v55] (b := a0) (ci := 13) rfl rfl rfl c58 (Nat.le_of_ble_eq_true rfl) (Nat.le_of_ble_eq_true rfl) (by omega) (by omega) (f_X13_memberPart_ok X (by omega) (by omega) nn a0 a2 2 h e_u59) ?_
  clear e_u59
  show mx_S X F L 591 35 [(3, .int v54), (0, .ref a0), (1, .int a1), (2, .int a2)] [.int u59.1, .int v57, .ref v56, .int v55] u59.2 0 0 (none, r, 0, 0)
  replace hf := xl_el hf; obtain ⟨v60, e_v60, hf⟩ := hf
  refine mx_S.pu (pc2 := 36) (lv2 := [(3, .int v54), (0, .ref a0), (1, .int a1), (2, .int a2)]) (st2 := [.int v60, .ref v56, .int v55]) hm dX13_call_35 (by rw [← e_v60]; rfl) ?_
  clear e_v60
  replace hf := mx_sv_el hf; obtain ⟨v61, e_v61, hf⟩ := hf
  refine sx_ald hm dX13_call_36 e_v61 ?_
  clear e_v61
  replace hf := xl_el hf; obtain ⟨v62, e_v62, hf⟩ := hf
  refine mx_S.pu (pc2 := 38) (lv2 := [(3, .int v54), (0, .ref a0), (1, .int a1), (2, .int a2)]) (st2 := [.int v62]) hm dX13_call_37 (by rw [← e_v62]; rfl) ?_
  clear e_v62
  refine mx_S.pu (pc2 := 40) (lv2 := [(4, .int v62), (3, .int v54), (0, .ref a0), (1, .int a1), (2, .int a2)]) (st2 := []) hm dX13_call_38 rfl ?_
  refine mx_S.pu (pc2 := 41) (lv2 := [(4, .int v62), (3, .int v54), (0, .ref a0), (1, .int a1), (2, .int a2)]) (st2 := [.ref a0]) hm dX13_call_40 rfl ?_
  replace hf := mx_sv_el hf; obtain ⟨v63, e_v63, hf⟩ := hf
  refine sx_get hm dX13_call_41 rs_RX13_209 (xgr_el e_v63) ?_
  clear e_v63
  refine mx_S.pu (pc2 := 46) (lv2 := [(4, .int v62), (3, .int v54), (0, .ref a0), (1, .int a1), (2, .int a2)]) (st2 := [.int v62, .ref v63]) hm dX13_call_44 rfl ?_
  refine sx_ic (v := 2) hm dX13_call_46 (by decide) ?_
  replace hf := xl_el hf; obtain ⟨v64, e_v64, hf⟩ := hf
  refine mx_S.pu (pc2 := 48) (lv2 := [(4, .int v62), (3, .int v54), (0, .ref a0), (1, .int a1), (2, .int a2)]) (st2 := [.int v64, .ref v63]) hm dX13_call_47 (by rw [← e_v64]; rfl) ?_
  clear e_v64
  refine mx_S.pu (pc2 := 49) (lv2 := [(4, .int v62), (3, .int v54), (0, .ref a0), (1, .int a1), (2, .int a2)]) (st2 := [.ref a0, .int v64, .ref v63]) hm dX13_call_48 rfl ?_
  replace hf := mx_sv_el hf; obtain ⟨v65, e_v65, hf⟩ := hf
  refine sx_get hm dX13_call_49 rs_RX13_209 (xgr_el e_v65) ?_
  clear e_v65
  refine mx_S.pu (pc2 := 54) (lv2 := [(4, .int v62), (3, .int v54), (0, .ref a0), (1, .int a1), (2, .int a2)]) (st2 := [.int v62, .ref v65, .int v64, .ref v63]) hm dX13_call_52 rfl ?_
  refine sx_ic (v := 1) hm dX13_call_54 (by decide) ?_
  replace hf := xl_el hf; obtain ⟨v66, e_v66, hf⟩ := hf
  refine mx_S.pu (pc2 := 56) (lv2 := [(4, .int v62), (3, .int v54), (0, .ref a0), (1, .int a1), (2, .int a2)]) (st2 := [.int v66, .ref v65, .int v64, .ref v63]) hm dX13_call_55 (by rw [← e_v66]; rfl) ?_
  clear e_v66
  replace hf := mx_sv_el hf; obtain ⟨v67, e_v67, hf⟩ := hf
  refine sx_ald hm dX13_call_56 e_v67 ?_
  clear e_v67
  replace hf := mx_sv_el hf; obtain ⟨u68, e_u68, hf⟩ := hf
  refine sx_cs hm dX13_call_57 rs_RX13_785 mt_X13_parametersIn [.ref v63, .int v64, .int v67] [] rfl rfl (Nat.le_of_ble_eq_true rfl) (Nat.le_of_ble_eq_true rfl) (by omega) (by omega) (f_X13_parametersIn_ok X (by omega) (by omega) nn v63 v64 v67 u59.2 e_u68) ?_
  clear e_u68
  show mx_S X F L 591 60 [(4, .int v62), (3, .int v54), (0, .ref a0), (1, .int a1), (2, .int a2)] [.int u68.1] u68.2 0 0 (none, r, 0, 0)
  refine mx_S.pu (pc2 := 61) (lv2 := [(4, .int v62), (3, .int v54), (0, .ref a0), (1, .int a1), (2, .int a2)]) (st2 := [.int a1, .int u68.1]) hm dX13_call_60 rfl ?_
  refine sx_si (v := 182) hm dX13_call_61 (by decide) ?_
  rcases mx_if_el hf with ⟨c69, hf⟩ | ⟨c69, hf⟩
  · refine sb_ic_ne hm dX13_call_64 (tgt := 71) rfl (fun _ => ?_) (fun z => absurd c69 z)
    refine sx_ic (v := 0) hm dX13_call_71 (by decide) ?_
    refine mx_S.ext [(0, .ref a0), (1, .int a1), (2, .int a2), (3, .int v54)] (mx_sub_pos [2, 3, 4, 1] rfl (show ([4, 3, 0, 1, 2] : List Nat).Nodup by decide)) ?_
    exact j_X13_call_72_ok X hF hL nn a0 a1 a2 v54 0 u68.1 u68.2 hf
  · refine sb_ic_ne hm dX13_call_64 (tgt := 71) rfl (fun z => absurd z c69) (fun _ => ?_)
    refine sx_ic (v := 1) hm dX13_call_67 (by decide) ?_
    refine mx_S.pu (pc2 := 72) (lv2 := [(4, .int v62), (3, .int v54), (0, .ref a0), (1, .int a1), (2, .int a2)]) (st2 := [.int 1, .int u68.1]) hm dX13_call_68 rfl ?_
    refine mx_S.ext [(0, .ref a0), (1, .int a1), (2, .int a2), (3, .int v54)] (mx_sub_pos [2, 3, 4, 1] rfl (show ([4, 3, 0, 1, 2] : List Nat).Nodup by decide)) ?_
    exact j_X13_call_72_ok X hF hL nn a0 a1 a2 v54 1 u68.1 u68.2 hf
set_option maxHeartbeats 4000000 in
set_option maxRecDepth 20000 in
theorem f_X13_cell_ok (X : Nat × (Nat → Int32)) {F L : Nat} (hF : 0 ≤ F) (hL : 0 ≤ L) (nn : Nat) (a0 : Nat) (a1 : Int32) (h : mx_H) {r : (Int32 × mx_H)} (hf : f_X13_cell nn a0 a1 h = some r) : mx_R X F L 581 [.ref a0, .int a1] h (some (.int r.1), r.2, 0, 0) := by
  have hm : mx_mt 581 = some (yX13_cell, cX13_cell, 2, (some .int)) := mt_X13_cell
  show mx_S X F L 581 0 [(0, .ref a0), (1, .int a1)] [] h 0 0 (some (.int r.1), r.2, 0, 0)
  unfold f_X13_cell at hf
  refine mx_S.pu (pc2 := 1) (lv2 := [(0, .ref a0), (1, .int a1)]) (st2 := [.ref a0]) hm dX13_cell_0 rfl ?_
  replace hf := mx_sv_el hf; obtain ⟨v1, e_v1, hf⟩ := hf
  refine sx_get hm dX13_cell_1 rs_RX13_306 (xgr_el e_v1) ?_
  clear e_v1
  refine sx_bi (v := 60) hm dX13_cell_4 (by decide) ?_
  refine mx_S.pu (pc2 := 7) (lv2 := [(0, .ref a0), (1, .int a1)]) (st2 := [.ref a0, .int 60, .ref v1]) hm dX13_cell_6 rfl ?_
  replace hf := mx_sv_el hf; obtain ⟨v2, e_v2, hf⟩ := hf
  refine sx_get hm dX13_cell_7 rs_RX13_1058 (xgi_el e_v2) ?_
  clear e_v2
  refine sx_ic (v := 1) hm dX13_cell_10 (by decide) ?_
  replace hf := xl_el hf; obtain ⟨v3, e_v3, hf⟩ := hf
  refine mx_S.pu (pc2 := 12) (lv2 := [(0, .ref a0), (1, .int a1)]) (st2 := [.int v3, .int 60, .ref v1]) hm dX13_cell_11 (by rw [← e_v3]; rfl) ?_
  clear e_v3
  replace hf := xl_el hf; obtain ⟨v4, e_v4, hf⟩ := hf
  refine mx_S.pu (pc2 := 13) (lv2 := [(0, .ref a0), (1, .int a1)]) (st2 := [.int v4, .ref v1]) hm dX13_cell_12 (by rw [← e_v4]; rfl) ?_
  clear e_v4
  refine mx_S.pu (pc2 := 14) (lv2 := [(0, .ref a0), (1, .int a1)]) (st2 := [.int a1, .int v4, .ref v1]) hm dX13_cell_13 rfl ?_
  replace hf := xl_el hf; obtain ⟨v5, e_v5, hf⟩ := hf
  refine mx_S.pu (pc2 := 15) (lv2 := [(0, .ref a0), (1, .int a1)]) (st2 := [.int v5, .ref v1]) hm dX13_cell_14 (by rw [← e_v5]; rfl) ?_
  clear e_v5
  replace hf := mx_sv_el hf; obtain ⟨v6, e_v6, hf⟩ := hf
  refine sx_ald hm dX13_cell_15 e_v6 ?_
  clear e_v6
  cases hf
  exact sx_ire hm dX13_cell_16 rfl rfl
set_option maxHeartbeats 4000000 in
set_option maxRecDepth 20000 in
theorem f_X13_storesIn_ok (X : Nat × (Nat → Int32)) {F L : Nat} (hF : 10 ≤ F) (hL : 227 ≤ L) (nn : Nat) (a0 : Nat) (a1 : Int32) (a2 : Int32) (h : mx_H) {r : (Int32 × mx_H)} (hf : f_X13_storesIn nn a0 a1 a2 h = some r) : mx_R X F L 587 [.ref a0, .int a1, .int a2] h (some (.int r.1), r.2, 0, 0) := by
  have hm : mx_mt 587 = some (yX13_storesIn, cX13_storesIn, 3, (some .boolean)) := mt_X13_storesIn
  show mx_S X F L 587 0 [(0, .ref a0), (1, .int a1), (2, .int a2)] [] h 0 0 (some (.int r.1), r.2, 0, 0)
  unfold f_X13_storesIn at hf
  refine mx_S.pu (pc2 := 1) (lv2 := [(0, .ref a0), (1, .int a1), (2, .int a2)]) (st2 := [.ref a0]) hm dX13_storesIn_0 rfl ?_
  refine mx_S.pu (pc2 := 2) (lv2 := [(0, .ref a0), (1, .int a1), (2, .int a2)]) (st2 := [.int a1, .ref a0]) hm dX13_storesIn_1 rfl ?_
  refine mx_S.pu (pc2 := 3) (lv2 := [(0, .ref a0), (1, .int a1), (2, .int a2)]) (st2 := [.int a2, .int a1, .ref a0]) hm dX13_storesIn_2 rfl ?_
  replace hf := mx_gd_el hf; obtain ⟨c1, hf⟩ := hf
  replace hf := mx_sv_el hf; obtain ⟨u2, e_u2, hf⟩ := hf
  refine sx_cv hm dX13_storesIn_3 rs_RX13_1069 mt_X13_isOne [.int a1, .int a2] [] (b := a0) (ci := 13) rfl rfl rfl c1 (Nat.le_of_ble_eq_true rfl) (Nat.le_of_ble_eq_true rfl) (by omega) (by omega) (f_X13_isOne_ok X (by omega) (by omega) nn a0 a1 a2 h e_u2) ?_
  clear e_u2
  show mx_S X F L 587 6 [(0, .ref a0), (1, .int a1), (2, .int a2)] [.int u2.1] u2.2 0 0 (some (.int r.1), r.2, 0, 0)
  replace hf := mx_gd_el hf; obtain ⟨c3, hf⟩ := hf
  cases hf
  exact sx_ire hm dX13_storesIn_6 rfl (xbq_ok c3).1
set_option maxHeartbeats 4000000 in
set_option maxRecDepth 20000 in
theorem j_X13_element_141_ok (X : Nat × (Nat → Int32)) {F L : Nat} (hF : 12 ≤ F) (hL : 277 ≤ L) (nn : Nat) (l0 : Nat) (h : mx_H) {r : mx_H} (hf : j_X13_element_141 nn l0 h = some r) : mx_S X F L 586 141 [(0, .ref l0)] [] h 0 0 (none, r, 0, 0) := by
  have hm : mx_mt 586 = some (yX13_element, cX13_element, 5, none) := mt_X13_element
  unfold j_X13_element_141 at hf
  refine mx_S.pu (pc2 := 142) (lv2 := [(0, .ref l0)]) (st2 := [.ref l0]) hm dX13_element_141 rfl ?_
  refine sx_ic (v := 1) hm dX13_element_142 (by decide) ?_
  replace hf := mx_gd_el hf; obtain ⟨c1, hf⟩ := hf
  replace hf := mx_sv_el hf; obtain ⟨u2, e_u2, hf⟩ := hf
  refine sx_cv hm dX13_element_143 rs_RX13_1116 mt_X13_on [.int 1] [] (b := l0) (ci := 13) rfl rfl rfl c1 (Nat.le_of_ble_eq_true rfl) (Nat.le_of_ble_eq_true rfl) (by omega) (by omega) (f_X13_on_ok X (by omega) (by omega) nn l0 1 h e_u2) ?_
  clear e_u2
  show mx_S X F L 586 146 [(0, .ref l0)] [] u2 0 0 (none, r, 0, 0)
  cases hf
  exact sx_ret hm dX13_element_146 rfl
set_option maxHeartbeats 4000000 in
set_option maxRecDepth 20000 in
theorem j_X13_element_99_ok (X : Nat × (Nat → Int32)) {F L : Nat} (hF : 12 ≤ F) (hL : 277 ≤ L) (nn : Nat) (l0 : Nat) (l1 : Int32) (l2 : Int32) (l3 : Int32) (l4 : Int32) (h : mx_H) {r : mx_H} (hf : j_X13_element_99 nn l0 l1 l2 l3 l4 h = some r) : mx_S X F L 586 99 [(0, .ref l0), (1, .int l1), (2, .int l2), (3, .int l3), (4, .int l4)] [] h 0 0 (none, r, 0, 0) := by
  have hm : mx_mt 586 = some (yX13_element, cX13_element, 5, none) := mt_X13_element
  unfold j_X13_element_99 at hf
  refine mx_S.pu (pc2 := 100) (lv2 := [(0, .ref l0), (1, .int l1), (2, .int l2), (3, .int l3), (4, .int l4)]) (st2 := [.int l1]) hm dX13_element_99 rfl ?_
  refine sx_bi (v := 50) hm dX13_element_100 (by decide) ?_
  rcases mx_if_el hf with ⟨c15, hf⟩ | ⟨c15, hf⟩
  · refine sb_ic_le hm dX13_element_102 (tgt := 123) rfl (fun _ => ?_) (fun z => absurd c15 z)
    refine mx_S.pu (pc2 := 124) (lv2 := [(0, .ref l0), (1, .int l1), (2, .int l2), (3, .int l3), (4, .int l4)]) (st2 := [.ref l0]) hm dX13_element_123 rfl ?_
    refine mx_S.pu (pc2 := 125) (lv2 := [(0, .ref l0), (1, .int l1), (2, .int l2), (3, .int l3), (4, .int l4)]) (st2 := [.ref l0, .ref l0]) hm dX13_element_124 rfl ?_
    replace hf := mx_sv_el hf; obtain ⟨v3, e_v3, hf⟩ := hf
    refine sx_get hm dX13_element_125 rs_RX13_288 (xgr_el e_v3) ?_
    clear e_v3
    refine mx_S.pu (pc2 := 129) (lv2 := [(0, .ref l0), (1, .int l1), (2, .int l2), (3, .int l3), (4, .int l4)]) (st2 := [.ref l0, .ref v3, .ref l0]) hm dX13_element_128 rfl ?_
    replace hf := mx_sv_el hf; obtain ⟨v4, e_v4, hf⟩ := hf
    refine sx_get hm dX13_element_129 rs_RX13_282 (xgr_el e_v4) ?_
    clear e_v4
    refine mx_S.pu (pc2 := 134) (lv2 := [(0, .ref l0), (1, .int l1), (2, .int l2), (3, .int l3), (4, .int l4)]) (st2 := [.int l4, .ref v4, .ref v3, .ref l0]) hm dX13_element_132 rfl ?_
    replace hf := mx_sv_el hf; obtain ⟨v5, e_v5, hf⟩ := hf
    refine sx_ald hm dX13_element_134 e_v5 ?_
    clear e_v5
    refine mx_S.pu (pc2 := 136) (lv2 := [(0, .ref l0), (1, .int l1), (2, .int l2), (3, .int l3), (4, .int l4)]) (st2 := [.int l3, .int v5, .ref v3, .ref l0]) hm dX13_element_135 rfl ?_
    replace hf := xl_el hf; obtain ⟨v6, e_v6, hf⟩ := hf
    refine mx_S.pu (pc2 := 137) (lv2 := [(0, .ref l0), (1, .int l1), (2, .int l2), (3, .int l3), (4, .int l4)]) (st2 := [.int v6, .ref v3, .ref l0]) hm dX13_element_136 (by rw [← e_v6]; rfl) ?_
    clear e_v6
    replace hf := mx_sv_el hf; obtain ⟨v7, e_v7, hf⟩ := hf
    refine sx_ald hm dX13_element_137 e_v7 ?_
    clear e_v7
    replace hf := mx_gd_el hf; obtain ⟨c8, hf⟩ := hf
    replace hf := mx_sv_el hf; obtain ⟨u9, e_u9, hf⟩ := hf
    refine sx_cv hm dX13_element_138 rs_RX13_1072 mt_X13_give [.int v7] [] (b := l0) (ci := 13) rfl rfl rfl c8 (Nat.le_of_ble_eq_true rfl) (Nat.le_of_ble_eq_true rfl) (by omega) (by omega) (f_X13_give_ok X (by omega) (by omega) nn l0 v7 h e_u9) ?_
    clear e_u9
    show mx_S X F L 586 141 [(0, .ref l0), (1, .int l1), (2, .int l2), (3, .int l3), (4, .int l4)] [] u9 0 0 (none, r, 0, 0)
    refine mx_S.ext [(0, .ref l0)] (mx_sub_pos [0] rfl (show ([0, 1, 2, 3, 4] : List Nat).Nodup by decide)) ?_
    exact j_X13_element_141_ok X hF hL nn l0 u9 hf
  · refine sb_ic_le hm dX13_element_102 (tgt := 123) rfl (fun z => absurd z c15) (fun _ => ?_)
    refine mx_S.pu (pc2 := 106) (lv2 := [(0, .ref l0), (1, .int l1), (2, .int l2), (3, .int l3), (4, .int l4)]) (st2 := [.ref l0]) hm dX13_element_105 rfl ?_
    replace hf := mx_sv_el hf; obtain ⟨v10, e_v10, hf⟩ := hf
    refine sx_get hm dX13_element_106 rs_RX13_288 (xgr_el e_v10) ?_
    clear e_v10
    refine mx_S.pu (pc2 := 110) (lv2 := [(0, .ref l0), (1, .int l1), (2, .int l2), (3, .int l3), (4, .int l4)]) (st2 := [.ref l0, .ref v10]) hm dX13_element_109 rfl ?_
    replace hf := mx_sv_el hf; obtain ⟨v11, e_v11, hf⟩ := hf
    refine sx_get hm dX13_element_110 rs_RX13_282 (xgr_el e_v11) ?_
    clear e_v11
    refine mx_S.pu (pc2 := 115) (lv2 := [(0, .ref l0), (1, .int l1), (2, .int l2), (3, .int l3), (4, .int l4)]) (st2 := [.int l4, .ref v11, .ref v10]) hm dX13_element_113 rfl ?_
    replace hf := mx_sv_el hf; obtain ⟨v12, e_v12, hf⟩ := hf
    refine sx_ald hm dX13_element_115 e_v12 ?_
    clear e_v12
    refine mx_S.pu (pc2 := 117) (lv2 := [(0, .ref l0), (1, .int l1), (2, .int l2), (3, .int l3), (4, .int l4)]) (st2 := [.int l3, .int v12, .ref v10]) hm dX13_element_116 rfl ?_
    replace hf := xl_el hf; obtain ⟨v13, e_v13, hf⟩ := hf
    refine mx_S.pu (pc2 := 118) (lv2 := [(0, .ref l0), (1, .int l1), (2, .int l2), (3, .int l3), (4, .int l4)]) (st2 := [.int v13, .ref v10]) hm dX13_element_117 (by rw [← e_v13]; rfl) ?_
    clear e_v13
    refine mx_S.pu (pc2 := 119) (lv2 := [(0, .ref l0), (1, .int l1), (2, .int l2), (3, .int l3), (4, .int l4)]) (st2 := [.int l2, .int v13, .ref v10]) hm dX13_element_118 rfl ?_
    replace hf := mx_sv_el hf; obtain ⟨h14, e_h14, hf⟩ := hf
    refine sx_ast hm dX13_element_119 e_h14 ?_
    clear e_h14
    refine mx_S.pu (pc2 := 141) (lv2 := [(0, .ref l0), (1, .int l1), (2, .int l2), (3, .int l3), (4, .int l4)]) (st2 := []) hm dX13_element_120 rfl ?_
    refine mx_S.ext [(0, .ref l0)] (mx_sub_pos [0] rfl (show ([0, 1, 2, 3, 4] : List Nat).Nodup by decide)) ?_
    exact j_X13_element_141_ok X hF hL nn l0 h14 hf
set_option maxHeartbeats 4000000 in
set_option maxRecDepth 20000 in
theorem j_X13_element_54_ok (X : Nat × (Nat → Int32)) {F L : Nat} (hF : 12 ≤ F) (hL : 277 ≤ L) (nn : Nat) (l0 : Nat) (h : mx_H) {r : mx_H} (hf : j_X13_element_54 nn l0 h = some r) : mx_S X F L 586 54 [(0, .ref l0)] [] h 0 0 (none, r, 0, 0) := by
  have hm : mx_mt 586 = some (yX13_element, cX13_element, 5, none) := mt_X13_element
  unfold j_X13_element_54 at hf
  refine mx_S.pu (pc2 := 55) (lv2 := [(0, .ref l0)]) (st2 := [.ref l0]) hm dX13_element_54 rfl ?_
  refine sx_ic (v := 3) hm dX13_element_55 (by decide) ?_
  replace hf := mx_gd_el hf; obtain ⟨c16, hf⟩ := hf
  replace hf := mx_sv_el hf; obtain ⟨u17, e_u17, hf⟩ := hf
  refine sx_cv hm dX13_element_56 rs_RX13_1093 mt_X13_fails [.int 3] [] (b := l0) (ci := 13) rfl rfl rfl c16 (Nat.le_of_ble_eq_true rfl) (Nat.le_of_ble_eq_true rfl) (by omega) (by omega) (f_X13_fails_ok X (by omega) (by omega) nn l0 3 h e_u17) ?_
  clear e_u17
  show mx_S X F L 586 59 [(0, .ref l0)] [] u17 0 0 (none, r, 0, 0)
  refine mx_S.pu (pc2 := 146) (lv2 := [(0, .ref l0)]) (st2 := []) hm dX13_element_59 rfl ?_
  cases hf
  exact sx_ret hm dX13_element_146 rfl
set_option maxHeartbeats 4000000 in
set_option maxRecDepth 20000 in
theorem j_X13_element_14_ok (X : Nat × (Nat → Int32)) {F L : Nat} (hF : 12 ≤ F) (hL : 277 ≤ L) (nn : Nat) (l0 : Nat) (l1 : Int32) (s0 : Int32) (h : mx_H) {r : mx_H} (hf : j_X13_element_14 nn l0 l1 s0 h = some r) : mx_S X F L 586 14 [(0, .ref l0), (1, .int l1)] [.int s0] h 0 0 (none, r, 0, 0) := by
  have hm : mx_mt 586 = some (yX13_element, cX13_element, 5, none) := mt_X13_element
  unfold j_X13_element_14 at hf
  refine mx_S.pu (pc2 := 15) (lv2 := [(2, .int s0), (0, .ref l0), (1, .int l1)]) (st2 := []) hm dX13_element_14 rfl ?_
  refine mx_S.pu (pc2 := 16) (lv2 := [(2, .int s0), (0, .ref l0), (1, .int l1)]) (st2 := [.ref l0]) hm dX13_element_15 rfl ?_
  replace hf := mx_gd_el hf; obtain ⟨c18, hf⟩ := hf
  replace hf := mx_sv_el hf; obtain ⟨u19, e_u19, hf⟩ := hf
  refine sx_cv hm dX13_element_16 rs_RX13_1087 mt_X13_drop [] [] (b := l0) (ci := 13) rfl rfl rfl c18 (Nat.le_of_ble_eq_true rfl) (Nat.le_of_ble_eq_true rfl) (by omega) (by omega) (f_X13_drop_ok X (by omega) (by omega) nn l0 h e_u19) ?_
  clear e_u19
  show mx_S X F L 586 19 [(2, .int s0), (0, .ref l0), (1, .int l1)] [.int u19.1] u19.2 0 0 (none, r, 0, 0)
  refine mx_S.pu (pc2 := 20) (lv2 := [(3, .int u19.1), (2, .int s0), (0, .ref l0), (1, .int l1)]) (st2 := []) hm dX13_element_19 rfl ?_
  refine mx_S.pu (pc2 := 21) (lv2 := [(3, .int u19.1), (2, .int s0), (0, .ref l0), (1, .int l1)]) (st2 := [.ref l0]) hm dX13_element_20 rfl ?_
  replace hf := mx_gd_el hf; obtain ⟨c20, hf⟩ := hf
  replace hf := mx_sv_el hf; obtain ⟨u21, e_u21, hf⟩ := hf
  refine sx_cv hm dX13_element_21 rs_RX13_1087 mt_X13_drop [] [] (b := l0) (ci := 13) rfl rfl rfl c20 (Nat.le_of_ble_eq_true rfl) (Nat.le_of_ble_eq_true rfl) (by omega) (by omega) (f_X13_drop_ok X (by omega) (by omega) nn l0 u19.2 e_u21) ?_
  clear e_u21
  show mx_S X F L 586 24 [(3, .int u19.1), (2, .int s0), (0, .ref l0), (1, .int l1)] [.int u21.1] u21.2 0 0 (none, r, 0, 0)
  refine mx_S.pu (pc2 := 26) (lv2 := [(4, .int u21.1), (3, .int u19.1), (2, .int s0), (0, .ref l0), (1, .int l1)]) (st2 := []) hm dX13_element_24 rfl ?_
  refine mx_S.pu (pc2 := 28) (lv2 := [(4, .int u21.1), (3, .int u19.1), (2, .int s0), (0, .ref l0), (1, .int l1)]) (st2 := [.int u21.1]) hm dX13_element_26 rfl ?_
  rcases mx_if_el hf with ⟨c38, hf⟩ | ⟨c38, hf⟩
  · refine sb_if_ne hm dX13_element_28 (tgt := 39) rfl (fun _ => ?_) (fun z => absurd c38 z)
    refine mx_S.pu (pc2 := 40) (lv2 := [(4, .int u21.1), (3, .int u19.1), (2, .int s0), (0, .ref l0), (1, .int l1)]) (st2 := [.int u19.1]) hm dX13_element_39 rfl ?_
    rcases mx_if_el hf with ⟨c35, hf⟩ | ⟨c35, hf⟩
    · refine sb_if_lt hm dX13_element_40 (tgt := 54) rfl (fun _ => ?_) (fun z => absurd c35 z)
      refine mx_S.ext [(0, .ref l0)] (mx_sub_pos [3] rfl (show ([4, 3, 2, 0, 1] : List Nat).Nodup by decide)) ?_
      exact j_X13_element_54_ok X hF hL nn l0 u21.2 hf
    · refine sb_if_lt hm dX13_element_40 (tgt := 54) rfl (fun z => absurd z c35) (fun _ => ?_)
      refine mx_S.pu (pc2 := 44) (lv2 := [(4, .int u21.1), (3, .int u19.1), (2, .int s0), (0, .ref l0), (1, .int l1)]) (st2 := [.int u19.1]) hm dX13_element_43 rfl ?_
      refine mx_S.pu (pc2 := 45) (lv2 := [(4, .int u21.1), (3, .int u19.1), (2, .int s0), (0, .ref l0), (1, .int l1)]) (st2 := [.ref l0, .int u19.1]) hm dX13_element_44 rfl ?_
      replace hf := mx_sv_el hf; obtain ⟨v22, e_v22, hf⟩ := hf
      refine sx_get hm dX13_element_45 rs_RX13_285 (xgr_el e_v22) ?_
      clear e_v22
      refine mx_S.pu (pc2 := 50) (lv2 := [(4, .int u21.1), (3, .int u19.1), (2, .int s0), (0, .ref l0), (1, .int l1)]) (st2 := [.int u21.1, .ref v22, .int u19.1]) hm dX13_element_48 rfl ?_
      replace hf := mx_sv_el hf; obtain ⟨v23, e_v23, hf⟩ := hf
      refine sx_ald hm dX13_element_50 e_v23 ?_
      clear e_v23
      rcases mx_if_el hf with ⟨c34, hf⟩ | ⟨c34, hf⟩
      · refine sb_ic_lt hm dX13_element_51 (tgt := 62) rfl (fun _ => ?_) (fun z => absurd c34 z)
        refine mx_S.pu (pc2 := 63) (lv2 := [(4, .int u21.1), (3, .int u19.1), (2, .int s0), (0, .ref l0), (1, .int l1)]) (st2 := [.int l1]) hm dX13_element_62 rfl ?_
        refine sx_bi (v := 83) hm dX13_element_63 (by decide) ?_
        rcases mx_if_el hf with ⟨c33, hf⟩ | ⟨c33, hf⟩
        · refine sb_ic_ne hm dX13_element_65 (tgt := 99) rfl (fun _ => ?_) (fun z => absurd c33 z)
          refine mx_S.ext [(0, .ref l0), (1, .int l1), (2, .int s0), (3, .int u19.1), (4, .int u21.1)] (mx_sub_pos [3, 4, 2, 1, 0] rfl (show ([4, 3, 2, 0, 1] : List Nat).Nodup by decide)) ?_
          exact j_X13_element_99_ok X hF hL nn l0 l1 s0 u19.1 u21.1 u21.2 hf
        · refine sb_ic_ne hm dX13_element_65 (tgt := 99) rfl (fun z => absurd z c33) (fun _ => ?_)
          refine mx_S.pu (pc2 := 69) (lv2 := [(4, .int u21.1), (3, .int u19.1), (2, .int s0), (0, .ref l0), (1, .int l1)]) (st2 := [.int s0]) hm dX13_element_68 rfl ?_
          rcases mx_if_el hf with ⟨c32, hf⟩ | ⟨c32, hf⟩
          · refine sb_if_eq hm dX13_element_69 (tgt := 99) rfl (fun _ => ?_) (fun z => absurd c32 z)
            refine mx_S.ext [(0, .ref l0), (1, .int l1), (2, .int s0), (3, .int u19.1), (4, .int u21.1)] (mx_sub_pos [3, 4, 2, 1, 0] rfl (show ([4, 3, 2, 0, 1] : List Nat).Nodup by decide)) ?_
            exact j_X13_element_99_ok X hF hL nn l0 l1 s0 u19.1 u21.1 u21.2 hf
          · refine sb_if_eq hm dX13_element_69 (tgt := 99) rfl (fun z => absurd z c32) (fun _ => ?_)
            refine mx_S.pu (pc2 := 73) (lv2 := [(4, .int u21.1), (3, .int u19.1), (2, .int s0), (0, .ref l0), (1, .int l1)]) (st2 := [.ref l0]) hm dX13_element_72 rfl ?_
            refine mx_S.pu (pc2 := 74) (lv2 := [(4, .int u21.1), (3, .int u19.1), (2, .int s0), (0, .ref l0), (1, .int l1)]) (st2 := [.int s0, .ref l0]) hm dX13_element_73 rfl ?_
            refine mx_S.pu (pc2 := 75) (lv2 := [(4, .int u21.1), (3, .int u19.1), (2, .int s0), (0, .ref l0), (1, .int l1)]) (st2 := [.ref l0, .int s0, .ref l0]) hm dX13_element_74 rfl ?_
            replace hf := mx_sv_el hf; obtain ⟨v24, e_v24, hf⟩ := hf
            refine sx_get hm dX13_element_75 rs_RX13_279 (xgr_el e_v24) ?_
            clear e_v24
            refine mx_S.pu (pc2 := 80) (lv2 := [(4, .int u21.1), (3, .int u19.1), (2, .int s0), (0, .ref l0), (1, .int l1)]) (st2 := [.int u21.1, .ref v24, .int s0, .ref l0]) hm dX13_element_78 rfl ?_
            replace hf := mx_sv_el hf; obtain ⟨v25, e_v25, hf⟩ := hf
            refine sx_ald hm dX13_element_80 e_v25 ?_
            clear e_v25
            refine sx_bi (v := 100) hm dX13_element_81 (by decide) ?_
            replace hf := xl_el hf; obtain ⟨v26, e_v26, hf⟩ := hf
            refine mx_S.pu (pc2 := 84) (lv2 := [(4, .int u21.1), (3, .int u19.1), (2, .int s0), (0, .ref l0), (1, .int l1)]) (st2 := [.int v26, .int s0, .ref l0]) hm dX13_element_83 (by rw [← e_v26]; rfl) ?_
            clear e_v26
            replace hf := mx_gd_el hf; obtain ⟨c27, hf⟩ := hf
            replace hf := mx_sv_el hf; obtain ⟨u28, e_u28, hf⟩ := hf
            refine sx_cv hm dX13_element_84 rs_RX13_1119 mt_X13_storesIn [.int s0, .int v26] [] (b := l0) (ci := 13) rfl rfl rfl c27 (Nat.le_of_ble_eq_true rfl) (Nat.le_of_ble_eq_true rfl) (by omega) (by omega) (f_X13_storesIn_ok X (by omega) (by omega) nn l0 s0 v26 u21.2 e_u28) ?_
            clear e_u28
            show mx_S X F L 586 87 [(4, .int u21.1), (3, .int u19.1), (2, .int s0), (0, .ref l0), (1, .int l1)] [.int u28.1] u28.2 0 0 (none, r, 0, 0)
            rcases mx_if_el hf with ⟨c31, hf⟩ | ⟨c31, hf⟩
            · refine sb_if_ne hm dX13_element_87 (tgt := 99) rfl (fun _ => ?_) (fun z => absurd c31 z)
              refine mx_S.ext [(0, .ref l0), (1, .int l1), (2, .int s0), (3, .int u19.1), (4, .int u21.1)] (mx_sub_pos [3, 4, 2, 1, 0] rfl (show ([4, 3, 2, 0, 1] : List Nat).Nodup by decide)) ?_
              exact j_X13_element_99_ok X hF hL nn l0 l1 s0 u19.1 u21.1 u28.2 hf
            · refine sb_if_ne hm dX13_element_87 (tgt := 99) rfl (fun z => absurd z c31) (fun _ => ?_)
              refine mx_S.pu (pc2 := 91) (lv2 := [(4, .int u21.1), (3, .int u19.1), (2, .int s0), (0, .ref l0), (1, .int l1)]) (st2 := [.ref l0]) hm dX13_element_90 rfl ?_
              refine sx_bi (v := 7) hm dX13_element_91 (by decide) ?_
              replace hf := mx_gd_el hf; obtain ⟨c29, hf⟩ := hf
              replace hf := mx_sv_el hf; obtain ⟨u30, e_u30, hf⟩ := hf
              refine sx_cv hm dX13_element_93 rs_RX13_1093 mt_X13_fails [.int 7] [] (b := l0) (ci := 13) rfl rfl rfl c29 (Nat.le_of_ble_eq_true rfl) (Nat.le_of_ble_eq_true rfl) (by omega) (by omega) (f_X13_fails_ok X (by omega) (by omega) nn l0 7 u28.2 e_u30) ?_
              clear e_u30
              show mx_S X F L 586 96 [(4, .int u21.1), (3, .int u19.1), (2, .int s0), (0, .ref l0), (1, .int l1)] [] u30 0 0 (none, r, 0, 0)
              refine mx_S.pu (pc2 := 146) (lv2 := [(4, .int u21.1), (3, .int u19.1), (2, .int s0), (0, .ref l0), (1, .int l1)]) (st2 := []) hm dX13_element_96 rfl ?_
              cases hf
              exact sx_ret hm dX13_element_146 rfl
      · refine sb_ic_lt hm dX13_element_51 (tgt := 62) rfl (fun z => absurd z c34) (fun _ => ?_)
        refine mx_S.ext [(0, .ref l0)] (mx_sub_pos [3] rfl (show ([4, 3, 2, 0, 1] : List Nat).Nodup by decide)) ?_
        exact j_X13_element_54_ok X hF hL nn l0 u21.2 hf
  · refine sb_if_ne hm dX13_element_28 (tgt := 39) rfl (fun z => absurd z c38) (fun _ => ?_)
    refine mx_S.pu (pc2 := 32) (lv2 := [(4, .int u21.1), (3, .int u19.1), (2, .int s0), (0, .ref l0), (1, .int l1)]) (st2 := [.ref l0]) hm dX13_element_31 rfl ?_
    refine sx_ic (v := 2) hm dX13_element_32 (by decide) ?_
    replace hf := mx_gd_el hf; obtain ⟨c36, hf⟩ := hf
    replace hf := mx_sv_el hf; obtain ⟨u37, e_u37, hf⟩ := hf
    refine sx_cv hm dX13_element_33 rs_RX13_1093 mt_X13_fails [.int 2] [] (b := l0) (ci := 13) rfl rfl rfl c36 (Nat.le_of_ble_eq_true rfl) (Nat.le_of_ble_eq_true rfl) (by omega) (by omega) (f_X13_fails_ok X (by omega) (by omega) nn l0 2 u21.2 e_u37) ?_
    clear e_u37
    show mx_S X F L 586 36 [(4, .int u21.1), (3, .int u19.1), (2, .int s0), (0, .ref l0), (1, .int l1)] [] u37 0 0 (none, r, 0, 0)
    refine mx_S.pu (pc2 := 146) (lv2 := [(4, .int u21.1), (3, .int u19.1), (2, .int s0), (0, .ref l0), (1, .int l1)]) (st2 := []) hm dX13_element_36 rfl ?_
    cases hf
    exact sx_ret hm dX13_element_146 rfl
set_option maxHeartbeats 4000000 in
set_option maxRecDepth 20000 in
theorem f_X13_element_ok (X : Nat × (Nat → Int32)) {F L : Nat} (hF : 12 ≤ F) (hL : 277 ≤ L) (nn : Nat) (a0 : Nat) (a1 : Int32) (h : mx_H) {r : mx_H} (hf : f_X13_element nn a0 a1 h = some r) : mx_R X F L 586 [.ref a0, .int a1] h (none, r, 0, 0) := by
  have hm : mx_mt 586 = some (yX13_element, cX13_element, 5, none) := mt_X13_element
  show mx_S X F L 586 0 [(0, .ref a0), (1, .int a1)] [] h 0 0 (none, r, 0, 0)
  unfold f_X13_element at hf
  refine mx_S.pu (pc2 := 1) (lv2 := [(0, .ref a0), (1, .int a1)]) (st2 := [.int a1]) hm dX13_element_0 rfl ?_
  refine sx_bi (v := 50) hm dX13_element_1 (by decide) ?_
  rcases mx_if_el hf with ⟨c41, hf⟩ | ⟨c41, hf⟩
  · refine sb_ic_le hm dX13_element_3 (tgt := 13) rfl (fun _ => ?_) (fun z => absurd c41 z)
    refine sx_ic (v := 0) hm dX13_element_13 (by decide) ?_
    exact j_X13_element_14_ok X hF hL nn a0 a1 0 h hf
  · refine sb_ic_le hm dX13_element_3 (tgt := 13) rfl (fun z => absurd z c41) (fun _ => ?_)
    refine mx_S.pu (pc2 := 7) (lv2 := [(0, .ref a0), (1, .int a1)]) (st2 := [.ref a0]) hm dX13_element_6 rfl ?_
    replace hf := mx_gd_el hf; obtain ⟨c39, hf⟩ := hf
    replace hf := mx_sv_el hf; obtain ⟨u40, e_u40, hf⟩ := hf
    refine sx_cv hm dX13_element_7 rs_RX13_1087 mt_X13_drop [] [] (b := a0) (ci := 13) rfl rfl rfl c39 (Nat.le_of_ble_eq_true rfl) (Nat.le_of_ble_eq_true rfl) (by omega) (by omega) (f_X13_drop_ok X (by omega) (by omega) nn a0 h e_u40) ?_
    clear e_u40
    show mx_S X F L 586 10 [(0, .ref a0), (1, .int a1)] [.int u40.1] u40.2 0 0 (none, r, 0, 0)
    refine mx_S.pu (pc2 := 14) (lv2 := [(0, .ref a0), (1, .int a1)]) (st2 := [.int u40.1]) hm dX13_element_10 rfl ?_
    exact j_X13_element_14_ok X hF hL nn a0 a1 u40.1 u40.2 hf
set_option maxHeartbeats 4000000 in
set_option maxRecDepth 20000 in
theorem j_X13_fieldsOf_29_ok (X : Nat × (Nat → Int32)) {F L : Nat} (hF : 8 ≤ F) (hL : 181 ≤ L) (nn : Nat) {kk_4 : Nat → Int32 → Int32 → mx_H → Option (Int32 × mx_H)} (hk_4 : ∀ (l0 : Nat) (l2 : Int32) (l3 : Int32) (h : mx_H) (r : (Int32 × mx_H)), kk_4 l0 l2 l3 h = some r → mx_S X F L 573 4 [(0, .ref l0), (2, .int l2), (3, .int l3)] [] h 0 0 (some (.int r.1), r.2, 0, 0)) (l0 : Nat) (l3 : Int32) (s0 : Int32) (s1 : Int32) (h : mx_H) {r : (Int32 × mx_H)} (hf : j_X13_fieldsOf_29 nn kk_4 l0 l3 s0 s1 h = some r) : mx_S X F L 573 29 [(0, .ref l0), (3, .int l3)] [.int s0, .int s1] h 0 0 (some (.int r.1), r.2, 0, 0) := by
  have hm : mx_mt 573 = some (yX13_fieldsOf, cX13_fieldsOf, 4, (some .int)) := mt_X13_fieldsOf
  unfold j_X13_fieldsOf_29 at hf
  replace hf := xl_el hf; obtain ⟨v1, e_v1, hf⟩ := hf
  refine mx_S.pu (pc2 := 30) (lv2 := [(0, .ref l0), (3, .int l3)]) (st2 := [.int v1]) hm dX13_fieldsOf_29 (by rw [← e_v1]; rfl) ?_
  clear e_v1
  refine mx_S.pu (pc2 := 31) (lv2 := [(2, .int v1), (0, .ref l0), (3, .int l3)]) (st2 := []) hm dX13_fieldsOf_30 rfl ?_
  refine mx_S.pu (pc2 := 32) (lv2 := [(2, .int v1), (0, .ref l0), (3, .int l3)]) (st2 := [.ref l0]) hm dX13_fieldsOf_31 rfl ?_
  refine mx_S.pu (pc2 := 33) (lv2 := [(2, .int v1), (0, .ref l0), (3, .int l3)]) (st2 := [.int l3, .ref l0]) hm dX13_fieldsOf_32 rfl ?_
  replace hf := mx_gd_el hf; obtain ⟨c2, hf⟩ := hf
  replace hf := mx_sv_el hf; obtain ⟨u3, e_u3, hf⟩ := hf
  refine sx_cv hm dX13_fieldsOf_33 rs_RX13_873 mt_X13_superOf [.int l3] [] (b := l0) (ci := 13) rfl rfl rfl c2 (Nat.le_of_ble_eq_true rfl) (Nat.le_of_ble_eq_true rfl) (by omega) (by omega) (f_X13_superOf_ok X (by omega) (by omega) nn l0 l3 h e_u3) ?_
  clear e_u3
  show mx_S X F L 573 36 [(2, .int v1), (0, .ref l0), (3, .int l3)] [.int u3.1] u3.2 0 0 (some (.int r.1), r.2, 0, 0)
  refine mx_S.pu (pc2 := 37) (lv2 := [(3, .int u3.1), (2, .int v1), (0, .ref l0)]) (st2 := []) hm dX13_fieldsOf_36 rfl ?_
  refine mx_S.pu (pc2 := 4) (lv2 := [(3, .int u3.1), (2, .int v1), (0, .ref l0)]) (st2 := []) hm dX13_fieldsOf_37 rfl ?_
  refine mx_S.ext [(0, .ref l0), (2, .int v1), (3, .int u3.1)] (mx_sub_pos [2, 1, 0] rfl (show ([3, 2, 0] : List Nat).Nodup by decide)) ?_
  exact hk_4 l0 v1 u3.1 u3.2 _ hf
set_option maxHeartbeats 4000000 in
set_option maxRecDepth 20000 in
theorem w_X13_fieldsOf_4_ok (X : Nat × (Nat → Int32)) {F L : Nat} (hF : 8 ≤ F) (hL : 181 ≤ L) (nn : Nat) : ∀ (k : Nat) (l0 : Nat) (l2 : Int32) (l3 : Int32) (h : mx_H) (r : (Int32 × mx_H)), w_X13_fieldsOf_4 nn k l0 l2 l3 h = some r → mx_S X F L 573 4 [(0, .ref l0), (2, .int l2), (3, .int l3)] [] h 0 0 (some (.int r.1), r.2, 0, 0) := by
  have hm : mx_mt 573 = some (yX13_fieldsOf, cX13_fieldsOf, 4, (some .int)) := mt_X13_fieldsOf
  intro k
  induction k with
  | zero => intro l0 l2 l3 h r hf; cases hf
  | succ k ih =>
    intro l0 l2 l3 h r hf
    unfold w_X13_fieldsOf_4 at hf
    refine mx_S.pu (pc2 := 5) (lv2 := [(0, .ref l0), (2, .int l2), (3, .int l3)]) (st2 := [.int l3]) hm dX13_fieldsOf_4 rfl ?_
    refine sx_ic (v := (-1)) hm dX13_fieldsOf_5 (by decide) ?_
    rcases mx_if_el hf with ⟨c8, hf⟩ | ⟨c8, hf⟩
    · refine sb_ic_eq hm dX13_fieldsOf_6 (tgt := 40) rfl (fun _ => ?_) (fun z => absurd c8 z)
      refine mx_S.pu (pc2 := 41) (lv2 := [(0, .ref l0), (2, .int l2), (3, .int l3)]) (st2 := [.int l2]) hm dX13_fieldsOf_40 rfl ?_
      cases hf
      exact sx_ire hm dX13_fieldsOf_41 rfl rfl
    · refine sb_ic_eq hm dX13_fieldsOf_6 (tgt := 40) rfl (fun z => absurd z c8) (fun _ => ?_)
      refine mx_S.pu (pc2 := 10) (lv2 := [(0, .ref l0), (2, .int l2), (3, .int l3)]) (st2 := [.int l2]) hm dX13_fieldsOf_9 rfl ?_
      refine mx_S.pu (pc2 := 11) (lv2 := [(0, .ref l0), (2, .int l2), (3, .int l3)]) (st2 := [.int l3, .int l2]) hm dX13_fieldsOf_10 rfl ?_
      refine sx_bi (v := 8) hm dX13_fieldsOf_11 (by decide) ?_
      rcases mx_if_el hf with ⟨c7, hf⟩ | ⟨c7, hf⟩
      · refine sb_ic_ge hm dX13_fieldsOf_13 (tgt := 20) rfl (fun _ => ?_) (fun z => absurd c7 z)
        refine mx_S.pu (pc2 := 21) (lv2 := [(0, .ref l0), (2, .int l2), (3, .int l3)]) (st2 := [.ref l0, .int l2]) hm dX13_fieldsOf_20 rfl ?_
        replace hf := mx_sv_el hf; obtain ⟨v4, e_v4, hf⟩ := hf
        refine sx_get hm dX13_fieldsOf_21 rs_RX13_227 (xgr_el e_v4) ?_
        clear e_v4
        refine mx_S.pu (pc2 := 25) (lv2 := [(0, .ref l0), (2, .int l2), (3, .int l3)]) (st2 := [.int l3, .ref v4, .int l2]) hm dX13_fieldsOf_24 rfl ?_
        refine sx_bi (v := 8) hm dX13_fieldsOf_25 (by decide) ?_
        replace hf := xl_el hf; obtain ⟨v5, e_v5, hf⟩ := hf
        refine mx_S.pu (pc2 := 28) (lv2 := [(0, .ref l0), (2, .int l2), (3, .int l3)]) (st2 := [.int v5, .ref v4, .int l2]) hm dX13_fieldsOf_27 (by rw [← e_v5]; rfl) ?_
        clear e_v5
        replace hf := mx_sv_el hf; obtain ⟨v6, e_v6, hf⟩ := hf
        refine sx_ald hm dX13_fieldsOf_28 e_v6 ?_
        clear e_v6
        refine mx_S.ext [(0, .ref l0), (3, .int l3)] (mx_sub_pos [0, 2] rfl (show ([0, 2, 3] : List Nat).Nodup by decide)) ?_
        exact j_X13_fieldsOf_29_ok X hF hL nn ih l0 l3 v6 l2 h hf
      · refine sb_ic_ge hm dX13_fieldsOf_13 (tgt := 20) rfl (fun z => absurd z c7) (fun _ => ?_)
        refine sx_ic (v := 0) hm dX13_fieldsOf_16 (by decide) ?_
        refine mx_S.pu (pc2 := 29) (lv2 := [(0, .ref l0), (2, .int l2), (3, .int l3)]) (st2 := [.int 0, .int l2]) hm dX13_fieldsOf_17 rfl ?_
        refine mx_S.ext [(0, .ref l0), (3, .int l3)] (mx_sub_pos [0, 2] rfl (show ([0, 2, 3] : List Nat).Nodup by decide)) ?_
        exact j_X13_fieldsOf_29_ok X hF hL nn ih l0 l3 0 l2 h hf
set_option maxHeartbeats 4000000 in
set_option maxRecDepth 20000 in
theorem f_X13_fieldsOf_ok (X : Nat × (Nat → Int32)) {F L : Nat} (hF : 8 ≤ F) (hL : 181 ≤ L) (nn : Nat) (a0 : Nat) (a1 : Int32) (h : mx_H) {r : (Int32 × mx_H)} (hf : f_X13_fieldsOf nn a0 a1 h = some r) : mx_R X F L 573 [.ref a0, .int a1] h (some (.int r.1), r.2, 0, 0) := by
  have hm : mx_mt 573 = some (yX13_fieldsOf, cX13_fieldsOf, 4, (some .int)) := mt_X13_fieldsOf
  show mx_S X F L 573 0 [(0, .ref a0), (1, .int a1)] [] h 0 0 (some (.int r.1), r.2, 0, 0)
  unfold f_X13_fieldsOf at hf
  refine sx_ic (v := 0) hm dX13_fieldsOf_0 (by decide) ?_
  refine mx_S.pu (pc2 := 2) (lv2 := [(2, .int 0), (0, .ref a0), (1, .int a1)]) (st2 := []) hm dX13_fieldsOf_1 rfl ?_
  refine mx_S.pu (pc2 := 3) (lv2 := [(2, .int 0), (0, .ref a0), (1, .int a1)]) (st2 := [.int a1]) hm dX13_fieldsOf_2 rfl ?_
  refine mx_S.pu (pc2 := 4) (lv2 := [(3, .int a1), (2, .int 0), (0, .ref a0), (1, .int a1)]) (st2 := []) hm dX13_fieldsOf_3 rfl ?_
  refine mx_S.ext [(0, .ref a0), (2, .int 0), (3, .int a1)] (mx_sub_pos [2, 1, 0] rfl (show ([3, 2, 0, 1] : List Nat).Nodup by decide)) ?_
  exact w_X13_fieldsOf_4_ok X hF hL nn nn a0 0 a1 h _ hf
set_option maxHeartbeats 4000000 in
set_option maxRecDepth 20000 in
theorem j_X13_fieldOf_147_ok (X : Nat × (Nat → Int32)) {F L : Nat} (hF : 12 ≤ F) (hL : 277 ≤ L) (nn : Nat) (l0 : Nat) (l3 : Int32) (h : mx_H) {r : mx_H} (hf : j_X13_fieldOf_147 nn l0 l3 h = some r) : mx_S X F L 590 147 [(0, .ref l0), (3, .int l3)] [] h 0 0 (none, r, 0, 0) := by
  have hm : mx_mt 590 = some (yX13_fieldOf, cX13_fieldOf, 8, none) := mt_X13_fieldOf
  unfold j_X13_fieldOf_147 at hf
  refine mx_S.pu (pc2 := 148) (lv2 := [(0, .ref l0), (3, .int l3)]) (st2 := [.ref l0]) hm dX13_fieldOf_147 rfl ?_
  refine mx_S.pu (pc2 := 149) (lv2 := [(0, .ref l0), (3, .int l3)]) (st2 := [.int l3, .ref l0]) hm dX13_fieldOf_148 rfl ?_
  replace hf := mx_gd_el hf; obtain ⟨c1, hf⟩ := hf
  replace hf := mx_sv_el hf; obtain ⟨u2, e_u2, hf⟩ := hf
  refine sx_cv hm dX13_fieldOf_149 rs_RX13_1116 mt_X13_on [.int l3] [] (b := l0) (ci := 13) rfl rfl rfl c1 (Nat.le_of_ble_eq_true rfl) (Nat.le_of_ble_eq_true rfl) (by omega) (by omega) (f_X13_on_ok X (by omega) (by omega) nn l0 l3 h e_u2) ?_
  clear e_u2
  show mx_S X F L 590 152 [(0, .ref l0), (3, .int l3)] [] u2 0 0 (none, r, 0, 0)
  cases hf
  exact sx_ret hm dX13_fieldOf_152 rfl
set_option maxHeartbeats 4000000 in
set_option maxRecDepth 20000 in
theorem j_X13_fieldOf_15_ok (X : Nat × (Nat → Int32)) {F L : Nat} (hF : 12 ≤ F) (hL : 277 ≤ L) (nn : Nat) (l0 : Nat) (l1 : Int32) (l2 : Int32) (l3 : Int32) (s0 : Int32) (h : mx_H) {r : mx_H} (hf : j_X13_fieldOf_15 nn l0 l1 l2 l3 s0 h = some r) : mx_S X F L 590 15 [(0, .ref l0), (1, .int l1), (2, .int l2), (3, .int l3)] [.int s0] h 0 0 (none, r, 0, 0) := by
  have hm : mx_mt 590 = some (yX13_fieldOf, cX13_fieldOf, 8, none) := mt_X13_fieldOf
  unfold j_X13_fieldOf_15 at hf
  refine mx_S.pu (pc2 := 17) (lv2 := [(4, .int s0), (0, .ref l0), (1, .int l1), (2, .int l2), (3, .int l3)]) (st2 := []) hm dX13_fieldOf_15 rfl ?_
  refine mx_S.pu (pc2 := 18) (lv2 := [(4, .int s0), (0, .ref l0), (1, .int l1), (2, .int l2), (3, .int l3)]) (st2 := [.ref l0]) hm dX13_fieldOf_17 rfl ?_
  replace hf := mx_gd_el hf; obtain ⟨c3, hf⟩ := hf
  replace hf := mx_sv_el hf; obtain ⟨u4, e_u4, hf⟩ := hf
  refine sx_cv hm dX13_fieldOf_18 rs_RX13_1087 mt_X13_drop [] [] (b := l0) (ci := 13) rfl rfl rfl c3 (Nat.le_of_ble_eq_true rfl) (Nat.le_of_ble_eq_true rfl) (by omega) (by omega) (f_X13_drop_ok X (by omega) (by omega) nn l0 h e_u4) ?_
  clear e_u4
  show mx_S X F L 590 21 [(4, .int s0), (0, .ref l0), (1, .int l1), (2, .int l2), (3, .int l3)] [.int u4.1] u4.2 0 0 (none, r, 0, 0)
  refine mx_S.pu (pc2 := 23) (lv2 := [(5, .int u4.1), (4, .int s0), (0, .ref l0), (1, .int l1), (2, .int l2), (3, .int l3)]) (st2 := []) hm dX13_fieldOf_21 rfl ?_
  refine mx_S.pu (pc2 := 25) (lv2 := [(5, .int u4.1), (4, .int s0), (0, .ref l0), (1, .int l1), (2, .int l2), (3, .int l3)]) (st2 := [.int u4.1]) hm dX13_fieldOf_23 rfl ?_
  rcases mx_if_el hf with ⟨c41, hf⟩ | ⟨c41, hf⟩
  · refine sb_if_ne hm dX13_fieldOf_25 (tgt := 34) rfl (fun _ => ?_) (fun z => absurd c41 z)
    refine mx_S.pu (pc2 := 35) (lv2 := [(5, .int u4.1), (4, .int s0), (0, .ref l0), (1, .int l1), (2, .int l2), (3, .int l3)]) (st2 := [.int l1]) hm dX13_fieldOf_34 rfl ?_
    refine sx_si (v := 190) hm dX13_fieldOf_35 (by decide) ?_
    rcases mx_if_el hf with ⟨c38, hf⟩ | ⟨c38, hf⟩
    · refine sb_ic_ne hm dX13_fieldOf_38 (tgt := 55) rfl (fun _ => ?_) (fun z => absurd c38 z)
      refine mx_S.pu (pc2 := 56) (lv2 := [(5, .int u4.1), (4, .int s0), (0, .ref l0), (1, .int l1), (2, .int l2), (3, .int l3)]) (st2 := [.ref l0]) hm dX13_fieldOf_55 rfl ?_
      refine mx_S.pu (pc2 := 57) (lv2 := [(5, .int u4.1), (4, .int s0), (0, .ref l0), (1, .int l1), (2, .int l2), (3, .int l3)]) (st2 := [.ref l0, .ref l0]) hm dX13_fieldOf_56 rfl ?_
      refine mx_S.pu (pc2 := 58) (lv2 := [(5, .int u4.1), (4, .int s0), (0, .ref l0), (1, .int l1), (2, .int l2), (3, .int l3)]) (st2 := [.ref l0, .ref l0, .ref l0]) hm dX13_fieldOf_57 rfl ?_
      refine mx_S.pu (pc2 := 59) (lv2 := [(5, .int u4.1), (4, .int s0), (0, .ref l0), (1, .int l1), (2, .int l2), (3, .int l3)]) (st2 := [.int l2, .ref l0, .ref l0, .ref l0]) hm dX13_fieldOf_58 rfl ?_
      refine sx_ic (v := 0) hm dX13_fieldOf_59 (by decide) ?_
      replace hf := mx_gd_el hf; obtain ⟨c5, hf⟩ := hf
      replace hf := mx_sv_el hf; obtain ⟨u6, e_u6, hf⟩ := hf
      refine sx_cv hm dX13_fieldOf_60 rs_RX13_1122 mt_X13_memberPart [.int l2, .int 0] [.ref l0, .ref l0] (b := l0) (ci := 13) rfl rfl rfl c5 (Nat.le_of_ble_eq_true rfl) (Nat.le_of_ble_eq_true rfl) (by omega) (by omega) (f_X13_memberPart_ok X (by omega) (by omega) nn l0 l2 0 u4.2 e_u6) ?_
      clear e_u6
      show mx_S X F L 590 63 [(5, .int u4.1), (4, .int s0), (0, .ref l0), (1, .int l1), (2, .int l2), (3, .int l3)] [.int u6.1, .ref l0, .ref l0] u6.2 0 0 (none, r, 0, 0)
      replace hf := mx_gd_el hf; obtain ⟨c7, hf⟩ := hf
      replace hf := mx_sv_el hf; obtain ⟨u8, e_u8, hf⟩ := hf
      refine sx_cv hm dX13_fieldOf_63 rs_RX13_1125 mt_X13_classIn [.int u6.1] [.ref l0] (b := l0) (ci := 13) rfl rfl rfl c7 (Nat.le_of_ble_eq_true rfl) (Nat.le_of_ble_eq_true rfl) (by omega) (by omega) (f_X13_classIn_ok X (by omega) (by omega) nn l0 u6.1 u6.2 e_u8) ?_
      clear e_u8
      show mx_S X F L 590 66 [(5, .int u4.1), (4, .int s0), (0, .ref l0), (1, .int l1), (2, .int l2), (3, .int l3)] [.int u8.1, .ref l0] u8.2 0 0 (none, r, 0, 0)
      refine mx_S.pu (pc2 := 67) (lv2 := [(5, .int u4.1), (4, .int s0), (0, .ref l0), (1, .int l1), (2, .int l2), (3, .int l3)]) (st2 := [.ref l0, .int u8.1, .ref l0]) hm dX13_fieldOf_66 rfl ?_
      replace hf := mx_sv_el hf; obtain ⟨v9, e_v9, hf⟩ := hf
      refine sx_get hm dX13_fieldOf_67 rs_RX13_294 (xgr_el e_v9) ?_
      clear e_v9
      refine mx_S.pu (pc2 := 71) (lv2 := [(5, .int u4.1), (4, .int s0), (0, .ref l0), (1, .int l1), (2, .int l2), (3, .int l3)]) (st2 := [.ref l0, .ref v9, .int u8.1, .ref l0]) hm dX13_fieldOf_70 rfl ?_
      replace hf := mx_sv_el hf; obtain ⟨v10, e_v10, hf⟩ := hf
      refine sx_get hm dX13_fieldOf_71 rs_RX13_1058 (xgi_el e_v10) ?_
      clear e_v10
      refine sx_ic (v := 1) hm dX13_fieldOf_74 (by decide) ?_
      replace hf := xl_el hf; obtain ⟨v11, e_v11, hf⟩ := hf
      refine mx_S.pu (pc2 := 76) (lv2 := [(5, .int u4.1), (4, .int s0), (0, .ref l0), (1, .int l1), (2, .int l2), (3, .int l3)]) (st2 := [.int v11, .ref v9, .int u8.1, .ref l0]) hm dX13_fieldOf_75 (by rw [← e_v11]; rfl) ?_
      clear e_v11
      replace hf := mx_sv_el hf; obtain ⟨v12, e_v12, hf⟩ := hf
      refine sx_ald hm dX13_fieldOf_76 e_v12 ?_
      clear e_v12
      refine sx_bi (v := 8) hm dX13_fieldOf_77 (by decide) ?_
      replace hf := xl_el hf; obtain ⟨v13, e_v13, hf⟩ := hf
      refine mx_S.pu (pc2 := 80) (lv2 := [(5, .int u4.1), (4, .int s0), (0, .ref l0), (1, .int l1), (2, .int l2), (3, .int l3)]) (st2 := [.int v13, .int u8.1, .ref l0]) hm dX13_fieldOf_79 (by rw [← e_v13]; rfl) ?_
      clear e_v13
      refine mx_S.pu (pc2 := 81) (lv2 := [(5, .int u4.1), (4, .int s0), (0, .ref l0), (1, .int l1), (2, .int l2), (3, .int l3)]) (st2 := [.ref l0, .int v13, .int u8.1, .ref l0]) hm dX13_fieldOf_80 rfl ?_
      refine mx_S.pu (pc2 := 82) (lv2 := [(5, .int u4.1), (4, .int s0), (0, .ref l0), (1, .int l1), (2, .int l2), (3, .int l3)]) (st2 := [.int l2, .ref l0, .int v13, .int u8.1, .ref l0]) hm dX13_fieldOf_81 rfl ?_
      refine sx_ic (v := 1) hm dX13_fieldOf_82 (by decide) ?_
      replace hf := mx_gd_el hf; obtain ⟨c14, hf⟩ := hf
      replace hf := mx_sv_el hf; obtain ⟨u15, e_u15, hf⟩ := hf
      refine sx_cv hm dX13_fieldOf_83 rs_RX13_1122 mt_X13_memberPart [.int l2, .int 1] [.int v13, .int u8.1, .ref l0] (b := l0) (ci := 13) rfl rfl rfl c14 (Nat.le_of_ble_eq_true rfl) (Nat.le_of_ble_eq_true rfl) (by omega) (by omega) (f_X13_memberPart_ok X (by omega) (by omega) nn l0 l2 1 u8.2 e_u15) ?_
      clear e_u15
      show mx_S X F L 590 86 [(5, .int u4.1), (4, .int s0), (0, .ref l0), (1, .int l1), (2, .int l2), (3, .int l3)] [.int u15.1, .int v13, .int u8.1, .ref l0] u15.2 0 0 (none, r, 0, 0)
      refine sx_ic (v := 0) hm dX13_fieldOf_86 (by decide) ?_
      replace hf := mx_gd_el hf; obtain ⟨c16, hf⟩ := hf
      replace hf := mx_sv_el hf; obtain ⟨u17, e_u17, hf⟩ := hf
      refine sx_cv hm dX13_fieldOf_87 rs_RX13_928 mt_X13_holder [.int u8.1, .int v13, .int u15.1, .int 0] [] (b := l0) (ci := 13) rfl rfl rfl c16 (Nat.le_of_ble_eq_true rfl) (Nat.le_of_ble_eq_true rfl) (by omega) (by omega) (f_X13_holder_ok X (by omega) (by omega) nn l0 u8.1 v13 u15.1 0 u15.2 e_u17) ?_
      clear e_u17
      show mx_S X F L 590 90 [(5, .int u4.1), (4, .int s0), (0, .ref l0), (1, .int l1), (2, .int l2), (3, .int l3)] [.int u17.1] u17.2 0 0 (none, r, 0, 0)
      refine mx_S.pu (pc2 := 92) (lv2 := [(6, .int u17.1), (5, .int u4.1), (4, .int s0), (0, .ref l0), (1, .int l1), (2, .int l2), (3, .int l3)]) (st2 := []) hm dX13_fieldOf_90 rfl ?_
      refine mx_S.pu (pc2 := 93) (lv2 := [(6, .int u17.1), (5, .int u4.1), (4, .int s0), (0, .ref l0), (1, .int l1), (2, .int l2), (3, .int l3)]) (st2 := [.ref l0]) hm dX13_fieldOf_92 rfl ?_
      replace hf := mx_sv_el hf; obtain ⟨v18, e_v18, hf⟩ := hf
      refine sx_get hm dX13_fieldOf_93 rs_RX13_282 (xgr_el e_v18) ?_
      clear e_v18
      refine mx_S.pu (pc2 := 98) (lv2 := [(6, .int u17.1), (5, .int u4.1), (4, .int s0), (0, .ref l0), (1, .int l1), (2, .int l2), (3, .int l3)]) (st2 := [.int u4.1, .ref v18]) hm dX13_fieldOf_96 rfl ?_
      replace hf := mx_sv_el hf; obtain ⟨v19, e_v19, hf⟩ := hf
      refine sx_ald hm dX13_fieldOf_98 e_v19 ?_
      clear e_v19
      refine mx_S.pu (pc2 := 100) (lv2 := [(6, .int u17.1), (5, .int u4.1), (4, .int s0), (0, .ref l0), (1, .int l1), (2, .int l2), (3, .int l3)]) (st2 := [.ref l0, .int v19]) hm dX13_fieldOf_99 rfl ?_
      refine mx_S.pu (pc2 := 101) (lv2 := [(6, .int u17.1), (5, .int u4.1), (4, .int s0), (0, .ref l0), (1, .int l1), (2, .int l2), (3, .int l3)]) (st2 := [.ref l0, .ref l0, .int v19]) hm dX13_fieldOf_100 rfl ?_
      refine mx_S.pu (pc2 := 103) (lv2 := [(6, .int u17.1), (5, .int u4.1), (4, .int s0), (0, .ref l0), (1, .int l1), (2, .int l2), (3, .int l3)]) (st2 := [.int u17.1, .ref l0, .ref l0, .int v19]) hm dX13_fieldOf_101 rfl ?_
      replace hf := mx_gd_el hf; obtain ⟨c20, hf⟩ := hf
      replace hf := mx_sv_el hf; obtain ⟨u21, e_u21, hf⟩ := hf
      refine sx_cv hm dX13_fieldOf_103 rs_RX13_873 mt_X13_superOf [.int u17.1] [.ref l0, .int v19] (b := l0) (ci := 13) rfl rfl rfl c20 (Nat.le_of_ble_eq_true rfl) (Nat.le_of_ble_eq_true rfl) (by omega) (by omega) (f_X13_superOf_ok X (by omega) (by omega) nn l0 u17.1 u17.2 e_u21) ?_
      clear e_u21
      show mx_S X F L 590 106 [(6, .int u17.1), (5, .int u4.1), (4, .int s0), (0, .ref l0), (1, .int l1), (2, .int l2), (3, .int l3)] [.int u21.1, .ref l0, .int v19] u21.2 0 0 (none, r, 0, 0)
      replace hf := mx_gd_el hf; obtain ⟨c22, hf⟩ := hf
      replace hf := mx_sv_el hf; obtain ⟨u23, e_u23, hf⟩ := hf
      refine sx_cv hm dX13_fieldOf_106 rs_RX13_1128 mt_X13_fieldsOf [.int u21.1] [.int v19] (b := l0) (ci := 13) rfl rfl rfl c22 (Nat.le_of_ble_eq_true rfl) (Nat.le_of_ble_eq_true rfl) (by omega) (by omega) (f_X13_fieldsOf_ok X (by omega) (by omega) nn l0 u21.1 u21.2 e_u23) ?_
      clear e_u23
      show mx_S X F L 590 109 [(6, .int u17.1), (5, .int u4.1), (4, .int s0), (0, .ref l0), (1, .int l1), (2, .int l2), (3, .int l3)] [.int u23.1, .int v19] u23.2 0 0 (none, r, 0, 0)
      replace hf := xl_el hf; obtain ⟨v24, e_v24, hf⟩ := hf
      refine mx_S.pu (pc2 := 110) (lv2 := [(6, .int u17.1), (5, .int u4.1), (4, .int s0), (0, .ref l0), (1, .int l1), (2, .int l2), (3, .int l3)]) (st2 := [.int v24]) hm dX13_fieldOf_109 (by rw [← e_v24]; rfl) ?_
      clear e_v24
      refine mx_S.pu (pc2 := 111) (lv2 := [(6, .int u17.1), (5, .int u4.1), (4, .int s0), (0, .ref l0), (1, .int l1), (2, .int l2), (3, .int l3)]) (st2 := [.ref l0, .int v24]) hm dX13_fieldOf_110 rfl ?_
      replace hf := mx_sv_el hf; obtain ⟨v25, e_v25, hf⟩ := hf
      refine sx_get hm dX13_fieldOf_111 rs_RX13_898 (xgi_el e_v25) ?_
      clear e_v25
      replace hf := xl_el hf; obtain ⟨v26, e_v26, hf⟩ := hf
      refine mx_S.pu (pc2 := 115) (lv2 := [(6, .int u17.1), (5, .int u4.1), (4, .int s0), (0, .ref l0), (1, .int l1), (2, .int l2), (3, .int l3)]) (st2 := [.int v26]) hm dX13_fieldOf_114 (by rw [← e_v26]; rfl) ?_
      clear e_v26
      refine mx_S.pu (pc2 := 117) (lv2 := [(7, .int v26), (6, .int u17.1), (5, .int u4.1), (4, .int s0), (0, .ref l0), (1, .int l1), (2, .int l2), (3, .int l3)]) (st2 := []) hm dX13_fieldOf_115 rfl ?_
      refine mx_S.pu (pc2 := 118) (lv2 := [(7, .int v26), (6, .int u17.1), (5, .int u4.1), (4, .int s0), (0, .ref l0), (1, .int l1), (2, .int l2), (3, .int l3)]) (st2 := [.int l1]) hm dX13_fieldOf_117 rfl ?_
      refine sx_si (v := 180) hm dX13_fieldOf_118 (by decide) ?_
      rcases mx_if_el hf with ⟨c33, hf⟩ | ⟨c33, hf⟩
      · refine sb_ic_ne hm dX13_fieldOf_121 (tgt := 138) rfl (fun _ => ?_) (fun z => absurd c33 z)
        refine mx_S.pu (pc2 := 139) (lv2 := [(7, .int v26), (6, .int u17.1), (5, .int u4.1), (4, .int s0), (0, .ref l0), (1, .int l1), (2, .int l2), (3, .int l3)]) (st2 := [.ref l0]) hm dX13_fieldOf_138 rfl ?_
        replace hf := mx_sv_el hf; obtain ⟨v27, e_v27, hf⟩ := hf
        refine sx_get hm dX13_fieldOf_139 rs_RX13_288 (xgr_el e_v27) ?_
        clear e_v27
        refine mx_S.pu (pc2 := 144) (lv2 := [(7, .int v26), (6, .int u17.1), (5, .int u4.1), (4, .int s0), (0, .ref l0), (1, .int l1), (2, .int l2), (3, .int l3)]) (st2 := [.int v26, .ref v27]) hm dX13_fieldOf_142 rfl ?_
        refine mx_S.pu (pc2 := 146) (lv2 := [(7, .int v26), (6, .int u17.1), (5, .int u4.1), (4, .int s0), (0, .ref l0), (1, .int l1), (2, .int l2), (3, .int l3)]) (st2 := [.int s0, .int v26, .ref v27]) hm dX13_fieldOf_144 rfl ?_
        replace hf := mx_sv_el hf; obtain ⟨h28, e_h28, hf⟩ := hf
        refine sx_ast hm dX13_fieldOf_146 e_h28 ?_
        clear e_h28
        refine mx_S.ext [(0, .ref l0), (3, .int l3)] (mx_sub_pos [4, 7] rfl (show ([7, 6, 5, 4, 0, 1, 2, 3] : List Nat).Nodup by decide)) ?_
        exact j_X13_fieldOf_147_ok X hF hL nn l0 l3 h28 hf
      · refine sb_ic_ne hm dX13_fieldOf_121 (tgt := 138) rfl (fun z => absurd z c33) (fun _ => ?_)
        refine mx_S.pu (pc2 := 125) (lv2 := [(7, .int v26), (6, .int u17.1), (5, .int u4.1), (4, .int s0), (0, .ref l0), (1, .int l1), (2, .int l2), (3, .int l3)]) (st2 := [.ref l0]) hm dX13_fieldOf_124 rfl ?_
        refine mx_S.pu (pc2 := 126) (lv2 := [(7, .int v26), (6, .int u17.1), (5, .int u4.1), (4, .int s0), (0, .ref l0), (1, .int l1), (2, .int l2), (3, .int l3)]) (st2 := [.ref l0, .ref l0]) hm dX13_fieldOf_125 rfl ?_
        replace hf := mx_sv_el hf; obtain ⟨v29, e_v29, hf⟩ := hf
        refine sx_get hm dX13_fieldOf_126 rs_RX13_288 (xgr_el e_v29) ?_
        clear e_v29
        refine mx_S.pu (pc2 := 131) (lv2 := [(7, .int v26), (6, .int u17.1), (5, .int u4.1), (4, .int s0), (0, .ref l0), (1, .int l1), (2, .int l2), (3, .int l3)]) (st2 := [.int v26, .ref v29, .ref l0]) hm dX13_fieldOf_129 rfl ?_
        replace hf := mx_sv_el hf; obtain ⟨v30, e_v30, hf⟩ := hf
        refine sx_ald hm dX13_fieldOf_131 e_v30 ?_
        clear e_v30
        replace hf := mx_gd_el hf; obtain ⟨c31, hf⟩ := hf
        replace hf := mx_sv_el hf; obtain ⟨u32, e_u32, hf⟩ := hf
        refine sx_cv hm dX13_fieldOf_132 rs_RX13_1072 mt_X13_give [.int v30] [] (b := l0) (ci := 13) rfl rfl rfl c31 (Nat.le_of_ble_eq_true rfl) (Nat.le_of_ble_eq_true rfl) (by omega) (by omega) (f_X13_give_ok X (by omega) (by omega) nn l0 v30 u23.2 e_u32) ?_
        clear e_u32
        show mx_S X F L 590 135 [(7, .int v26), (6, .int u17.1), (5, .int u4.1), (4, .int s0), (0, .ref l0), (1, .int l1), (2, .int l2), (3, .int l3)] [] u32 0 0 (none, r, 0, 0)
        refine mx_S.pu (pc2 := 147) (lv2 := [(7, .int v26), (6, .int u17.1), (5, .int u4.1), (4, .int s0), (0, .ref l0), (1, .int l1), (2, .int l2), (3, .int l3)]) (st2 := []) hm dX13_fieldOf_135 rfl ?_
        refine mx_S.ext [(0, .ref l0), (3, .int l3)] (mx_sub_pos [4, 7] rfl (show ([7, 6, 5, 4, 0, 1, 2, 3] : List Nat).Nodup by decide)) ?_
        exact j_X13_fieldOf_147_ok X hF hL nn l0 l3 u32 hf
    · refine sb_ic_ne hm dX13_fieldOf_38 (tgt := 55) rfl (fun z => absurd z c38) (fun _ => ?_)
      refine mx_S.pu (pc2 := 42) (lv2 := [(5, .int u4.1), (4, .int s0), (0, .ref l0), (1, .int l1), (2, .int l2), (3, .int l3)]) (st2 := [.ref l0]) hm dX13_fieldOf_41 rfl ?_
      refine mx_S.pu (pc2 := 43) (lv2 := [(5, .int u4.1), (4, .int s0), (0, .ref l0), (1, .int l1), (2, .int l2), (3, .int l3)]) (st2 := [.ref l0, .ref l0]) hm dX13_fieldOf_42 rfl ?_
      replace hf := mx_sv_el hf; obtain ⟨v34, e_v34, hf⟩ := hf
      refine sx_get hm dX13_fieldOf_43 rs_RX13_285 (xgr_el e_v34) ?_
      clear e_v34
      refine mx_S.pu (pc2 := 48) (lv2 := [(5, .int u4.1), (4, .int s0), (0, .ref l0), (1, .int l1), (2, .int l2), (3, .int l3)]) (st2 := [.int u4.1, .ref v34, .ref l0]) hm dX13_fieldOf_46 rfl ?_
      replace hf := mx_sv_el hf; obtain ⟨v35, e_v35, hf⟩ := hf
      refine sx_ald hm dX13_fieldOf_48 e_v35 ?_
      clear e_v35
      replace hf := mx_gd_el hf; obtain ⟨c36, hf⟩ := hf
      replace hf := mx_sv_el hf; obtain ⟨u37, e_u37, hf⟩ := hf
      refine sx_cv hm dX13_fieldOf_49 rs_RX13_1072 mt_X13_give [.int v35] [] (b := l0) (ci := 13) rfl rfl rfl c36 (Nat.le_of_ble_eq_true rfl) (Nat.le_of_ble_eq_true rfl) (by omega) (by omega) (f_X13_give_ok X (by omega) (by omega) nn l0 v35 u4.2 e_u37) ?_
      clear e_u37
      show mx_S X F L 590 52 [(5, .int u4.1), (4, .int s0), (0, .ref l0), (1, .int l1), (2, .int l2), (3, .int l3)] [] u37 0 0 (none, r, 0, 0)
      refine mx_S.pu (pc2 := 147) (lv2 := [(5, .int u4.1), (4, .int s0), (0, .ref l0), (1, .int l1), (2, .int l2), (3, .int l3)]) (st2 := []) hm dX13_fieldOf_52 rfl ?_
      refine mx_S.ext [(0, .ref l0), (3, .int l3)] (mx_sub_pos [2, 5] rfl (show ([5, 4, 0, 1, 2, 3] : List Nat).Nodup by decide)) ?_
      exact j_X13_fieldOf_147_ok X hF hL nn l0 l3 u37 hf
  · refine sb_if_ne hm dX13_fieldOf_25 (tgt := 34) rfl (fun z => absurd z c41) (fun _ => ?_)
    refine mx_S.pu (pc2 := 29) (lv2 := [(5, .int u4.1), (4, .int s0), (0, .ref l0), (1, .int l1), (2, .int l2), (3, .int l3)]) (st2 := [.ref l0]) hm dX13_fieldOf_28 rfl ?_
    refine sx_ic (v := 2) hm dX13_fieldOf_29 (by decide) ?_
    replace hf := mx_gd_el hf; obtain ⟨c39, hf⟩ := hf
    replace hf := mx_sv_el hf; obtain ⟨u40, e_u40, hf⟩ := hf
    refine sx_cv hm dX13_fieldOf_30 rs_RX13_1093 mt_X13_fails [.int 2] [] (b := l0) (ci := 13) rfl rfl rfl c39 (Nat.le_of_ble_eq_true rfl) (Nat.le_of_ble_eq_true rfl) (by omega) (by omega) (f_X13_fails_ok X (by omega) (by omega) nn l0 2 u4.2 e_u40) ?_
    clear e_u40
    show mx_S X F L 590 33 [(5, .int u4.1), (4, .int s0), (0, .ref l0), (1, .int l1), (2, .int l2), (3, .int l3)] [] u40 0 0 (none, r, 0, 0)
    cases hf
    exact sx_ret hm dX13_fieldOf_33 rfl
set_option maxHeartbeats 4000000 in
set_option maxRecDepth 20000 in
theorem f_X13_fieldOf_ok (X : Nat × (Nat → Int32)) {F L : Nat} (hF : 12 ≤ F) (hL : 277 ≤ L) (nn : Nat) (a0 : Nat) (a1 : Int32) (a2 : Int32) (a3 : Int32) (h : mx_H) {r : mx_H} (hf : f_X13_fieldOf nn a0 a1 a2 a3 h = some r) : mx_R X F L 590 [.ref a0, .int a1, .int a2, .int a3] h (none, r, 0, 0) := by
  have hm : mx_mt 590 = some (yX13_fieldOf, cX13_fieldOf, 8, none) := mt_X13_fieldOf
  show mx_S X F L 590 0 [(0, .ref a0), (1, .int a1), (2, .int a2), (3, .int a3)] [] h 0 0 (none, r, 0, 0)
  unfold f_X13_fieldOf at hf
  refine mx_S.pu (pc2 := 1) (lv2 := [(0, .ref a0), (1, .int a1), (2, .int a2), (3, .int a3)]) (st2 := [.int a1]) hm dX13_fieldOf_0 rfl ?_
  refine sx_si (v := 181) hm dX13_fieldOf_1 (by decide) ?_
  rcases mx_if_el hf with ⟨c44, hf⟩ | ⟨c44, hf⟩
  · refine sb_ic_ne hm dX13_fieldOf_4 (tgt := 14) rfl (fun _ => ?_) (fun z => absurd c44 z)
    refine sx_ic (v := 0) hm dX13_fieldOf_14 (by decide) ?_
    exact j_X13_fieldOf_15_ok X hF hL nn a0 a1 a2 a3 0 h hf
  · refine sb_ic_ne hm dX13_fieldOf_4 (tgt := 14) rfl (fun z => absurd z c44) (fun _ => ?_)
    refine mx_S.pu (pc2 := 8) (lv2 := [(0, .ref a0), (1, .int a1), (2, .int a2), (3, .int a3)]) (st2 := [.ref a0]) hm dX13_fieldOf_7 rfl ?_
    replace hf := mx_gd_el hf; obtain ⟨c42, hf⟩ := hf
    replace hf := mx_sv_el hf; obtain ⟨u43, e_u43, hf⟩ := hf
    refine sx_cv hm dX13_fieldOf_8 rs_RX13_1087 mt_X13_drop [] [] (b := a0) (ci := 13) rfl rfl rfl c42 (Nat.le_of_ble_eq_true rfl) (Nat.le_of_ble_eq_true rfl) (by omega) (by omega) (f_X13_drop_ok X (by omega) (by omega) nn a0 h e_u43) ?_
    clear e_u43
    show mx_S X F L 590 11 [(0, .ref a0), (1, .int a1), (2, .int a2), (3, .int a3)] [.int u43.1] u43.2 0 0 (none, r, 0, 0)
    refine mx_S.pu (pc2 := 15) (lv2 := [(0, .ref a0), (1, .int a1), (2, .int a2), (3, .int a3)]) (st2 := [.int u43.1]) hm dX13_fieldOf_11 rfl ?_
    exact j_X13_fieldOf_15_ok X hF hL nn a0 a1 a2 a3 u43.1 u43.2 hf
set_option maxHeartbeats 4000000 in
set_option maxRecDepth 20000 in
theorem j_X13_fresh__89_ok (X : Nat × (Nat → Int32)) {F L : Nat} (hF : 12 ≤ F) (hL : 277 ≤ L) (nn : Nat) (l0 : Nat) (s0 : Int32) (h : mx_H) {r : mx_H} (hf : j_X13_fresh__89 nn l0 s0 h = some r) : mx_S X F L 594 89 [(0, .ref l0)] [.int s0] h 0 0 (none, r, 0, 0) := by
  have hm : mx_mt 594 = some (yX13_fresh_, cX13_fresh_, 6, none) := mt_X13_fresh_
  unfold j_X13_fresh__89 at hf
  refine mx_S.pu (pc2 := 91) (lv2 := [(5, .int s0), (0, .ref l0)]) (st2 := []) hm dX13_fresh__89 rfl ?_
  refine mx_S.pu (pc2 := 93) (lv2 := [(5, .int s0), (0, .ref l0)]) (st2 := [.int s0]) hm dX13_fresh__91 rfl ?_
  rcases mx_if_el hf with ⟨c5, hf⟩ | ⟨c5, hf⟩
  · refine sb_if_ne hm dX13_fresh__93 (tgt := 97) rfl (fun _ => ?_) (fun z => absurd c5 z)
    refine mx_S.pu (pc2 := 98) (lv2 := [(5, .int s0), (0, .ref l0)]) (st2 := [.ref l0]) hm dX13_fresh__97 rfl ?_
    refine mx_S.pu (pc2 := 100) (lv2 := [(5, .int s0), (0, .ref l0)]) (st2 := [.int s0, .ref l0]) hm dX13_fresh__98 rfl ?_
    replace hf := mx_gd_el hf; obtain ⟨c1, hf⟩ := hf
    replace hf := mx_sv_el hf; obtain ⟨u2, e_u2, hf⟩ := hf
    refine sx_cv hm dX13_fresh__100 rs_RX13_1072 mt_X13_give [.int s0] [] (b := l0) (ci := 13) rfl rfl rfl c1 (Nat.le_of_ble_eq_true rfl) (Nat.le_of_ble_eq_true rfl) (by omega) (by omega) (f_X13_give_ok X (by omega) (by omega) nn l0 s0 h e_u2) ?_
    clear e_u2
    show mx_S X F L 594 103 [(5, .int s0), (0, .ref l0)] [] u2 0 0 (none, r, 0, 0)
    refine mx_S.pu (pc2 := 104) (lv2 := [(5, .int s0), (0, .ref l0)]) (st2 := [.ref l0]) hm dX13_fresh__103 rfl ?_
    refine sx_ic (v := 2) hm dX13_fresh__104 (by decide) ?_
    replace hf := mx_gd_el hf; obtain ⟨c3, hf⟩ := hf
    replace hf := mx_sv_el hf; obtain ⟨u4, e_u4, hf⟩ := hf
    refine sx_cv hm dX13_fresh__105 rs_RX13_1116 mt_X13_on [.int 2] [] (b := l0) (ci := 13) rfl rfl rfl c3 (Nat.le_of_ble_eq_true rfl) (Nat.le_of_ble_eq_true rfl) (by omega) (by omega) (f_X13_on_ok X (by omega) (by omega) nn l0 2 u2 e_u4) ?_
    clear e_u4
    show mx_S X F L 594 108 [(5, .int s0), (0, .ref l0)] [] u4 0 0 (none, r, 0, 0)
    cases hf
    exact sx_ret hm dX13_fresh__108 rfl
  · refine sb_if_ne hm dX13_fresh__93 (tgt := 97) rfl (fun z => absurd z c5) (fun _ => ?_)
    cases hf
    exact sx_ret hm dX13_fresh__96 rfl
set_option maxHeartbeats 4000000 in
set_option maxRecDepth 20000 in
theorem j_X13_fresh__85_ok (X : Nat × (Nat → Int32)) {F L : Nat} (hF : 12 ≤ F) (hL : 277 ≤ L) (nn : Nat) (l0 : Nat) (l3 : Int32) (s0 : Int32) (s1 : Nat) (h : mx_H) {r : mx_H} (hf : j_X13_fresh__85 nn l0 l3 s0 s1 h = some r) : mx_S X F L 594 85 [(0, .ref l0), (3, .int l3)] [.int s0, .ref s1] h 0 0 (none, r, 0, 0) := by
  have hm : mx_mt 594 = some (yX13_fresh_, cX13_fresh_, 6, none) := mt_X13_fresh_
  unfold j_X13_fresh__85 at hf
  refine mx_S.pu (pc2 := 86) (lv2 := [(0, .ref l0), (3, .int l3)]) (st2 := [.int l3, .int s0, .ref s1]) hm dX13_fresh__85 rfl ?_
  replace hf := mx_gd_el hf; obtain ⟨c6, hf⟩ := hf
  replace hf := mx_sv_el hf; obtain ⟨u7, e_u7, hf⟩ := hf
  refine sx_cv hm dX13_fresh__86 rs_RX13_1064 mt_X13_make_ [.int s0, .int l3] [] (b := s1) (ci := 13) rfl rfl rfl c6 (Nat.le_of_ble_eq_true rfl) (Nat.le_of_ble_eq_true rfl) (by omega) (by omega) (f_X13_make__ok X (by omega) (by omega) nn s1 s0 l3 h e_u7) ?_
  clear e_u7
  show mx_S X F L 594 89 [(0, .ref l0), (3, .int l3)] [.int u7.1] u7.2 0 0 (none, r, 0, 0)
  refine mx_S.ext [(0, .ref l0)] (mx_sub_pos [0] rfl (show ([0, 3] : List Nat).Nodup by decide)) ?_
  exact j_X13_fresh__89_ok X hF hL nn l0 u7.1 u7.2 hf
set_option maxHeartbeats 4000000 in
set_option maxRecDepth 20000 in
theorem j_X13_fresh__43_ok (X : Nat × (Nat → Int32)) {F L : Nat} (hF : 12 ≤ F) (hL : 277 ≤ L) (nn : Nat) (l0 : Nat) (l1 : Int32) (l3 : Int32) (s0 : Int32) (h : mx_H) {r : mx_H} (hf : j_X13_fresh__43 nn l0 l1 l3 s0 h = some r) : mx_S X F L 594 43 [(0, .ref l0), (1, .int l1), (3, .int l3)] [.int s0] h 0 0 (none, r, 0, 0) := by
  have hm : mx_mt 594 = some (yX13_fresh_, cX13_fresh_, 6, none) := mt_X13_fresh_
  unfold j_X13_fresh__43 at hf
  refine mx_S.pu (pc2 := 45) (lv2 := [(4, .int s0), (0, .ref l0), (1, .int l1), (3, .int l3)]) (st2 := []) hm dX13_fresh__43 rfl ?_
  refine mx_S.pu (pc2 := 46) (lv2 := [(4, .int s0), (0, .ref l0), (1, .int l1), (3, .int l3)]) (st2 := [.int l1]) hm dX13_fresh__45 rfl ?_
  refine sx_si (v := 187) hm dX13_fresh__46 (by decide) ?_
  rcases mx_if_el hf with ⟨c14, hf⟩ | ⟨c14, hf⟩
  · refine sb_ic_ne hm dX13_fresh__49 (tgt := 67) rfl (fun _ => ?_) (fun z => absurd c14 z)
    refine mx_S.pu (pc2 := 68) (lv2 := [(4, .int s0), (0, .ref l0), (1, .int l1), (3, .int l3)]) (st2 := [.ref l0]) hm dX13_fresh__67 rfl ?_
    refine mx_S.pu (pc2 := 69) (lv2 := [(4, .int s0), (0, .ref l0), (1, .int l1), (3, .int l3)]) (st2 := [.int l1, .ref l0]) hm dX13_fresh__68 rfl ?_
    refine sx_si (v := 188) hm dX13_fresh__69 (by decide) ?_
    rcases mx_if_el hf with ⟨c9, hf⟩ | ⟨c9, hf⟩
    · refine sb_ic_ne hm dX13_fresh__72 (tgt := 80) rfl (fun _ => ?_) (fun z => absurd c9 z)
      refine sx_bi (v := 100) hm dX13_fresh__80 (by decide) ?_
      refine mx_S.pu (pc2 := 84) (lv2 := [(4, .int s0), (0, .ref l0), (1, .int l1), (3, .int l3)]) (st2 := [.int s0, .int 100, .ref l0]) hm dX13_fresh__82 rfl ?_
      replace hf := xl_el hf; obtain ⟨v8, e_v8, hf⟩ := hf
      refine mx_S.pu (pc2 := 85) (lv2 := [(4, .int s0), (0, .ref l0), (1, .int l1), (3, .int l3)]) (st2 := [.int v8, .ref l0]) hm dX13_fresh__84 (by rw [← e_v8]; rfl) ?_
      clear e_v8
      refine mx_S.ext [(0, .ref l0), (3, .int l3)] (mx_sub_pos [1, 3] rfl (show ([4, 0, 1, 3] : List Nat).Nodup by decide)) ?_
      exact j_X13_fresh__85_ok X hF hL nn l0 l3 v8 l0 h hf
    · refine sb_ic_ne hm dX13_fresh__72 (tgt := 80) rfl (fun z => absurd z c9) (fun _ => ?_)
      refine sx_bi (v := 99) hm dX13_fresh__75 (by decide) ?_
      refine mx_S.pu (pc2 := 85) (lv2 := [(4, .int s0), (0, .ref l0), (1, .int l1), (3, .int l3)]) (st2 := [.int 99, .ref l0]) hm dX13_fresh__77 rfl ?_
      refine mx_S.ext [(0, .ref l0), (3, .int l3)] (mx_sub_pos [1, 3] rfl (show ([4, 0, 1, 3] : List Nat).Nodup by decide)) ?_
      exact j_X13_fresh__85_ok X hF hL nn l0 l3 99 l0 h hf
  · refine sb_ic_ne hm dX13_fresh__49 (tgt := 67) rfl (fun z => absurd z c14) (fun _ => ?_)
    refine mx_S.pu (pc2 := 53) (lv2 := [(4, .int s0), (0, .ref l0), (1, .int l1), (3, .int l3)]) (st2 := [.ref l0]) hm dX13_fresh__52 rfl ?_
    refine mx_S.pu (pc2 := 55) (lv2 := [(4, .int s0), (0, .ref l0), (1, .int l1), (3, .int l3)]) (st2 := [.int s0, .ref l0]) hm dX13_fresh__53 rfl ?_
    refine mx_S.pu (pc2 := 56) (lv2 := [(4, .int s0), (0, .ref l0), (1, .int l1), (3, .int l3)]) (st2 := [.ref l0, .int s0, .ref l0]) hm dX13_fresh__55 rfl ?_
    refine mx_S.pu (pc2 := 58) (lv2 := [(4, .int s0), (0, .ref l0), (1, .int l1), (3, .int l3)]) (st2 := [.int s0, .ref l0, .int s0, .ref l0]) hm dX13_fresh__56 rfl ?_
    replace hf := mx_gd_el hf; obtain ⟨c10, hf⟩ := hf
    replace hf := mx_sv_el hf; obtain ⟨u11, e_u11, hf⟩ := hf
    refine sx_cv hm dX13_fresh__58 rs_RX13_1128 mt_X13_fieldsOf [.int s0] [.int s0, .ref l0] (b := l0) (ci := 13) rfl rfl rfl c10 (Nat.le_of_ble_eq_true rfl) (Nat.le_of_ble_eq_true rfl) (by omega) (by omega) (f_X13_fieldsOf_ok X (by omega) (by omega) nn l0 s0 h e_u11) ?_
    clear e_u11
    show mx_S X F L 594 61 [(4, .int s0), (0, .ref l0), (1, .int l1), (3, .int l3)] [.int u11.1, .int s0, .ref l0] u11.2 0 0 (none, r, 0, 0)
    replace hf := mx_gd_el hf; obtain ⟨c12, hf⟩ := hf
    replace hf := mx_sv_el hf; obtain ⟨u13, e_u13, hf⟩ := hf
    refine sx_cv hm dX13_fresh__61 rs_RX13_1064 mt_X13_make_ [.int s0, .int u11.1] [] (b := l0) (ci := 13) rfl rfl rfl c12 (Nat.le_of_ble_eq_true rfl) (Nat.le_of_ble_eq_true rfl) (by omega) (by omega) (f_X13_make__ok X (by omega) (by omega) nn l0 s0 u11.1 u11.2 e_u13) ?_
    clear e_u13
    show mx_S X F L 594 64 [(4, .int s0), (0, .ref l0), (1, .int l1), (3, .int l3)] [.int u13.1] u13.2 0 0 (none, r, 0, 0)
    refine mx_S.pu (pc2 := 89) (lv2 := [(4, .int s0), (0, .ref l0), (1, .int l1), (3, .int l3)]) (st2 := [.int u13.1]) hm dX13_fresh__64 rfl ?_
    refine mx_S.ext [(0, .ref l0)] (mx_sub_pos [1] rfl (show ([4, 0, 1, 3] : List Nat).Nodup by decide)) ?_
    exact j_X13_fresh__89_ok X hF hL nn l0 u13.1 u13.2 hf
set_option maxHeartbeats 4000000 in
set_option maxRecDepth 20000 in
theorem j_X13_fresh__15_ok (X : Nat × (Nat → Int32)) {F L : Nat} (hF : 12 ≤ F) (hL : 277 ≤ L) (nn : Nat) (l0 : Nat) (l1 : Int32) (l2 : Int32) (s0 : Int32) (h : mx_H) {r : mx_H} (hf : j_X13_fresh__15 nn l0 l1 l2 s0 h = some r) : mx_S X F L 594 15 [(0, .ref l0), (1, .int l1), (2, .int l2)] [.int s0] h 0 0 (none, r, 0, 0) := by
  have hm : mx_mt 594 = some (yX13_fresh_, cX13_fresh_, 6, none) := mt_X13_fresh_
  unfold j_X13_fresh__15 at hf
  refine mx_S.pu (pc2 := 16) (lv2 := [(3, .int s0), (0, .ref l0), (1, .int l1), (2, .int l2)]) (st2 := []) hm dX13_fresh__15 rfl ?_
  refine mx_S.pu (pc2 := 17) (lv2 := [(3, .int s0), (0, .ref l0), (1, .int l1), (2, .int l2)]) (st2 := [.int s0]) hm dX13_fresh__16 rfl ?_
  rcases mx_if_el hf with ⟨c20, hf⟩ | ⟨c20, hf⟩
  · refine sb_if_ge hm dX13_fresh__17 (tgt := 27) rfl (fun _ => ?_) (fun z => absurd c20 z)
    refine mx_S.pu (pc2 := 28) (lv2 := [(3, .int s0), (0, .ref l0), (1, .int l1), (2, .int l2)]) (st2 := [.int l1]) hm dX13_fresh__27 rfl ?_
    refine sx_si (v := 188) hm dX13_fresh__28 (by decide) ?_
    rcases mx_if_el hf with ⟨c17, hf⟩ | ⟨c17, hf⟩
    · refine sb_ic_ne hm dX13_fresh__31 (tgt := 38) rfl (fun _ => ?_) (fun z => absurd c17 z)
      refine mx_S.pu (pc2 := 39) (lv2 := [(3, .int s0), (0, .ref l0), (1, .int l1), (2, .int l2)]) (st2 := [.ref l0]) hm dX13_fresh__38 rfl ?_
      refine mx_S.pu (pc2 := 40) (lv2 := [(3, .int s0), (0, .ref l0), (1, .int l1), (2, .int l2)]) (st2 := [.int l2, .ref l0]) hm dX13_fresh__39 rfl ?_
      replace hf := mx_gd_el hf; obtain ⟨c15, hf⟩ := hf
      replace hf := mx_sv_el hf; obtain ⟨u16, e_u16, hf⟩ := hf
      refine sx_cv hm dX13_fresh__40 rs_RX13_1125 mt_X13_classIn [.int l2] [] (b := l0) (ci := 13) rfl rfl rfl c15 (Nat.le_of_ble_eq_true rfl) (Nat.le_of_ble_eq_true rfl) (by omega) (by omega) (f_X13_classIn_ok X (by omega) (by omega) nn l0 l2 h e_u16) ?_
      clear e_u16
      show mx_S X F L 594 43 [(3, .int s0), (0, .ref l0), (1, .int l1), (2, .int l2)] [.int u16.1] u16.2 0 0 (none, r, 0, 0)
      refine mx_S.ext [(0, .ref l0), (1, .int l1), (3, .int s0)] (mx_sub_pos [1, 2, 0] rfl (show ([3, 0, 1, 2] : List Nat).Nodup by decide)) ?_
      exact j_X13_fresh__43_ok X hF hL nn l0 l1 s0 u16.1 u16.2 hf
    · refine sb_ic_ne hm dX13_fresh__31 (tgt := 38) rfl (fun z => absurd z c17) (fun _ => ?_)
      refine sx_ic (v := 0) hm dX13_fresh__34 (by decide) ?_
      refine mx_S.pu (pc2 := 43) (lv2 := [(3, .int s0), (0, .ref l0), (1, .int l1), (2, .int l2)]) (st2 := [.int 0]) hm dX13_fresh__35 rfl ?_
      refine mx_S.ext [(0, .ref l0), (1, .int l1), (3, .int s0)] (mx_sub_pos [1, 2, 0] rfl (show ([3, 0, 1, 2] : List Nat).Nodup by decide)) ?_
      exact j_X13_fresh__43_ok X hF hL nn l0 l1 s0 0 h hf
  · refine sb_if_ge hm dX13_fresh__17 (tgt := 27) rfl (fun z => absurd z c20) (fun _ => ?_)
    refine mx_S.pu (pc2 := 21) (lv2 := [(3, .int s0), (0, .ref l0), (1, .int l1), (2, .int l2)]) (st2 := [.ref l0]) hm dX13_fresh__20 rfl ?_
    refine sx_bi (v := 6) hm dX13_fresh__21 (by decide) ?_
    replace hf := mx_gd_el hf; obtain ⟨c18, hf⟩ := hf
    replace hf := mx_sv_el hf; obtain ⟨u19, e_u19, hf⟩ := hf
    refine sx_cv hm dX13_fresh__23 rs_RX13_1093 mt_X13_fails [.int 6] [] (b := l0) (ci := 13) rfl rfl rfl c18 (Nat.le_of_ble_eq_true rfl) (Nat.le_of_ble_eq_true rfl) (by omega) (by omega) (f_X13_fails_ok X (by omega) (by omega) nn l0 6 h e_u19) ?_
    clear e_u19
    show mx_S X F L 594 26 [(3, .int s0), (0, .ref l0), (1, .int l1), (2, .int l2)] [] u19 0 0 (none, r, 0, 0)
    cases hf
    exact sx_ret hm dX13_fresh__26 rfl
set_option maxHeartbeats 4000000 in
set_option maxRecDepth 20000 in
theorem f_X13_fresh__ok (X : Nat × (Nat → Int32)) {F L : Nat} (hF : 12 ≤ F) (hL : 277 ≤ L) (nn : Nat) (a0 : Nat) (a1 : Int32) (a2 : Int32) (h : mx_H) {r : mx_H} (hf : f_X13_fresh_ nn a0 a1 a2 h = some r) : mx_R X F L 594 [.ref a0, .int a1, .int a2] h (none, r, 0, 0) := by
  have hm : mx_mt 594 = some (yX13_fresh_, cX13_fresh_, 6, none) := mt_X13_fresh_
  show mx_S X F L 594 0 [(0, .ref a0), (1, .int a1), (2, .int a2)] [] h 0 0 (none, r, 0, 0)
  unfold f_X13_fresh_ at hf
  refine mx_S.pu (pc2 := 1) (lv2 := [(0, .ref a0), (1, .int a1), (2, .int a2)]) (st2 := [.int a1]) hm dX13_fresh__0 rfl ?_
  refine sx_si (v := 187) hm dX13_fresh__1 (by decide) ?_
  rcases mx_if_el hf with ⟨c23, hf⟩ | ⟨c23, hf⟩
  · refine sb_ic_ne hm dX13_fresh__4 (tgt := 11) rfl (fun _ => ?_) (fun z => absurd c23 z)
    refine mx_S.pu (pc2 := 12) (lv2 := [(0, .ref a0), (1, .int a1), (2, .int a2)]) (st2 := [.ref a0]) hm dX13_fresh__11 rfl ?_
    replace hf := mx_gd_el hf; obtain ⟨c21, hf⟩ := hf
    replace hf := mx_sv_el hf; obtain ⟨u22, e_u22, hf⟩ := hf
    refine sx_cv hm dX13_fresh__12 rs_RX13_1087 mt_X13_drop [] [] (b := a0) (ci := 13) rfl rfl rfl c21 (Nat.le_of_ble_eq_true rfl) (Nat.le_of_ble_eq_true rfl) (by omega) (by omega) (f_X13_drop_ok X (by omega) (by omega) nn a0 h e_u22) ?_
    clear e_u22
    show mx_S X F L 594 15 [(0, .ref a0), (1, .int a1), (2, .int a2)] [.int u22.1] u22.2 0 0 (none, r, 0, 0)
    exact j_X13_fresh__15_ok X hF hL nn a0 a1 a2 u22.1 u22.2 hf
  · refine sb_ic_ne hm dX13_fresh__4 (tgt := 11) rfl (fun z => absurd z c23) (fun _ => ?_)
    refine sx_ic (v := 0) hm dX13_fresh__7 (by decide) ?_
    refine mx_S.pu (pc2 := 15) (lv2 := [(0, .ref a0), (1, .int a1), (2, .int a2)]) (st2 := [.int 0]) hm dX13_fresh__8 rfl ?_
    exact j_X13_fresh__15_ok X hF hL nn a0 a1 a2 0 h hf
set_option maxHeartbeats 4000000 in
set_option maxRecDepth 20000 in
theorem f_X13_intOf_ok (X : Nat × (Nat → Int32)) {F L : Nat} (hF : 1 ≤ F) (hL : 22 ≤ L) (nn : Nat) (a0 : Nat) (a1 : Int32) (h : mx_H) {r : (Int32 × mx_H)} (hf : f_X13_intOf nn a0 a1 h = some r) : mx_R X F L 583 [.ref a0, .int a1] h (some (.int r.1), r.2, 0, 0) := by
  have hm : mx_mt 583 = some (yX13_intOf, cX13_intOf, 4, (some .int)) := mt_X13_intOf
  show mx_S X F L 583 0 [(0, .ref a0), (1, .int a1)] [] h 0 0 (some (.int r.1), r.2, 0, 0)
  unfold f_X13_intOf at hf
  refine mx_S.pu (pc2 := 1) (lv2 := [(0, .ref a0), (1, .int a1)]) (st2 := [.ref a0]) hm dX13_intOf_0 rfl ?_
  replace hf := mx_sv_el hf; obtain ⟨v1, e_v1, hf⟩ := hf
  refine sx_get hm dX13_intOf_1 rs_RX13_294 (xgr_el e_v1) ?_
  clear e_v1
  refine mx_S.pu (pc2 := 5) (lv2 := [(0, .ref a0), (1, .int a1)]) (st2 := [.ref a0, .ref v1]) hm dX13_intOf_4 rfl ?_
  replace hf := mx_sv_el hf; obtain ⟨v2, e_v2, hf⟩ := hf
  refine sx_get hm dX13_intOf_5 rs_RX13_1058 (xgi_el e_v2) ?_
  clear e_v2
  refine sx_ic (v := 1) hm dX13_intOf_8 (by decide) ?_
  replace hf := xl_el hf; obtain ⟨v3, e_v3, hf⟩ := hf
  refine mx_S.pu (pc2 := 10) (lv2 := [(0, .ref a0), (1, .int a1)]) (st2 := [.int v3, .ref v1]) hm dX13_intOf_9 (by rw [← e_v3]; rfl) ?_
  clear e_v3
  replace hf := mx_sv_el hf; obtain ⟨v4, e_v4, hf⟩ := hf
  refine sx_ald hm dX13_intOf_10 e_v4 ?_
  clear e_v4
  refine sx_bi (v := 8) hm dX13_intOf_11 (by decide) ?_
  replace hf := xl_el hf; obtain ⟨v5, e_v5, hf⟩ := hf
  refine mx_S.pu (pc2 := 14) (lv2 := [(0, .ref a0), (1, .int a1)]) (st2 := [.int v5]) hm dX13_intOf_13 (by rw [← e_v5]; rfl) ?_
  clear e_v5
  refine mx_S.pu (pc2 := 15) (lv2 := [(2, .int v5), (0, .ref a0), (1, .int a1)]) (st2 := []) hm dX13_intOf_14 rfl ?_
  refine mx_S.pu (pc2 := 16) (lv2 := [(2, .int v5), (0, .ref a0), (1, .int a1)]) (st2 := [.ref a0]) hm dX13_intOf_15 rfl ?_
  replace hf := mx_sv_el hf; obtain ⟨v6, e_v6, hf⟩ := hf
  refine sx_get hm dX13_intOf_16 rs_RX13_215 (xgr_el e_v6) ?_
  clear e_v6
  refine sx_si (v := 256) hm dX13_intOf_19 (by decide) ?_
  refine mx_S.pu (pc2 := 23) (lv2 := [(2, .int v5), (0, .ref a0), (1, .int a1)]) (st2 := [.int v5, .int 256, .ref v6]) hm dX13_intOf_22 rfl ?_
  replace hf := xl_el hf; obtain ⟨v7, e_v7, hf⟩ := hf
  refine mx_S.pu (pc2 := 24) (lv2 := [(2, .int v5), (0, .ref a0), (1, .int a1)]) (st2 := [.int v7, .ref v6]) hm dX13_intOf_23 (by rw [← e_v7]; rfl) ?_
  clear e_v7
  refine mx_S.pu (pc2 := 25) (lv2 := [(2, .int v5), (0, .ref a0), (1, .int a1)]) (st2 := [.int a1, .int v7, .ref v6]) hm dX13_intOf_24 rfl ?_
  replace hf := xl_el hf; obtain ⟨v8, e_v8, hf⟩ := hf
  refine mx_S.pu (pc2 := 26) (lv2 := [(2, .int v5), (0, .ref a0), (1, .int a1)]) (st2 := [.int v8, .ref v6]) hm dX13_intOf_25 (by rw [← e_v8]; rfl) ?_
  clear e_v8
  replace hf := mx_sv_el hf; obtain ⟨v9, e_v9, hf⟩ := hf
  refine sx_ald hm dX13_intOf_26 e_v9 ?_
  clear e_v9
  refine sx_ic (v := 1) hm dX13_intOf_27 (by decide) ?_
  replace hf := xl_el hf; obtain ⟨v10, e_v10, hf⟩ := hf
  refine mx_S.pu (pc2 := 29) (lv2 := [(2, .int v5), (0, .ref a0), (1, .int a1)]) (st2 := [.int v10]) hm dX13_intOf_28 (by rw [← e_v10]; rfl) ?_
  clear e_v10
  refine mx_S.pu (pc2 := 30) (lv2 := [(3, .int v10), (2, .int v5), (0, .ref a0), (1, .int a1)]) (st2 := []) hm dX13_intOf_29 rfl ?_
  refine mx_S.pu (pc2 := 31) (lv2 := [(3, .int v10), (2, .int v5), (0, .ref a0), (1, .int a1)]) (st2 := [.ref a0]) hm dX13_intOf_30 rfl ?_
  refine mx_S.pu (pc2 := 32) (lv2 := [(3, .int v10), (2, .int v5), (0, .ref a0), (1, .int a1)]) (st2 := [.int v5, .ref a0]) hm dX13_intOf_31 rfl ?_
  refine mx_S.pu (pc2 := 33) (lv2 := [(3, .int v10), (2, .int v5), (0, .ref a0), (1, .int a1)]) (st2 := [.int v10, .int v5, .ref a0]) hm dX13_intOf_32 rfl ?_
  replace hf := mx_gd_el hf; obtain ⟨c11, hf⟩ := hf
  replace hf := mx_sv_el hf; obtain ⟨u12, e_u12, hf⟩ := hf
  refine sx_cv hm dX13_intOf_33 rs_RX13_864 mt_X13_byteAt [.int v5, .int v10] [] (b := a0) (ci := 13) rfl rfl rfl c11 (Nat.le_of_ble_eq_true rfl) (Nat.le_of_ble_eq_true rfl) (by omega) (by omega) (f_X13_byteAt_ok X (by omega) (by omega) nn a0 v5 v10 h e_u12) ?_
  clear e_u12
  show mx_S X F L 583 36 [(3, .int v10), (2, .int v5), (0, .ref a0), (1, .int a1)] [.int u12.1] u12.2 0 0 (some (.int r.1), r.2, 0, 0)
  refine sx_bi (v := 24) hm dX13_intOf_36 (by decide) ?_
  replace hf := xl_el hf; obtain ⟨v13, e_v13, hf⟩ := hf
  refine mx_S.pu (pc2 := 39) (lv2 := [(3, .int v10), (2, .int v5), (0, .ref a0), (1, .int a1)]) (st2 := [.int v13]) hm dX13_intOf_38 (by rw [← e_v13]; rfl) ?_
  clear e_v13
  refine mx_S.pu (pc2 := 40) (lv2 := [(3, .int v10), (2, .int v5), (0, .ref a0), (1, .int a1)]) (st2 := [.ref a0, .int v13]) hm dX13_intOf_39 rfl ?_
  refine mx_S.pu (pc2 := 41) (lv2 := [(3, .int v10), (2, .int v5), (0, .ref a0), (1, .int a1)]) (st2 := [.int v5, .ref a0, .int v13]) hm dX13_intOf_40 rfl ?_
  refine mx_S.pu (pc2 := 42) (lv2 := [(3, .int v10), (2, .int v5), (0, .ref a0), (1, .int a1)]) (st2 := [.int v10, .int v5, .ref a0, .int v13]) hm dX13_intOf_41 rfl ?_
  refine sx_ic (v := 1) hm dX13_intOf_42 (by decide) ?_
  replace hf := xl_el hf; obtain ⟨v14, e_v14, hf⟩ := hf
  refine mx_S.pu (pc2 := 44) (lv2 := [(3, .int v10), (2, .int v5), (0, .ref a0), (1, .int a1)]) (st2 := [.int v14, .int v5, .ref a0, .int v13]) hm dX13_intOf_43 (by rw [← e_v14]; rfl) ?_
  clear e_v14
  replace hf := mx_gd_el hf; obtain ⟨c15, hf⟩ := hf
  replace hf := mx_sv_el hf; obtain ⟨u16, e_u16, hf⟩ := hf
  refine sx_cv hm dX13_intOf_44 rs_RX13_864 mt_X13_byteAt [.int v5, .int v14] [.int v13] (b := a0) (ci := 13) rfl rfl rfl c15 (Nat.le_of_ble_eq_true rfl) (Nat.le_of_ble_eq_true rfl) (by omega) (by omega) (f_X13_byteAt_ok X (by omega) (by omega) nn a0 v5 v14 u12.2 e_u16) ?_
  clear e_u16
  show mx_S X F L 583 47 [(3, .int v10), (2, .int v5), (0, .ref a0), (1, .int a1)] [.int u16.1, .int v13] u16.2 0 0 (some (.int r.1), r.2, 0, 0)
  refine sx_bi (v := 16) hm dX13_intOf_47 (by decide) ?_
  replace hf := xl_el hf; obtain ⟨v17, e_v17, hf⟩ := hf
  refine mx_S.pu (pc2 := 50) (lv2 := [(3, .int v10), (2, .int v5), (0, .ref a0), (1, .int a1)]) (st2 := [.int v17, .int v13]) hm dX13_intOf_49 (by rw [← e_v17]; rfl) ?_
  clear e_v17
  replace hf := xl_el hf; obtain ⟨v18, e_v18, hf⟩ := hf
  refine mx_S.pu (pc2 := 51) (lv2 := [(3, .int v10), (2, .int v5), (0, .ref a0), (1, .int a1)]) (st2 := [.int v18]) hm dX13_intOf_50 (by rw [← e_v18]; rfl) ?_
  clear e_v18
  refine mx_S.pu (pc2 := 52) (lv2 := [(3, .int v10), (2, .int v5), (0, .ref a0), (1, .int a1)]) (st2 := [.ref a0, .int v18]) hm dX13_intOf_51 rfl ?_
  refine mx_S.pu (pc2 := 53) (lv2 := [(3, .int v10), (2, .int v5), (0, .ref a0), (1, .int a1)]) (st2 := [.int v5, .ref a0, .int v18]) hm dX13_intOf_52 rfl ?_
  refine mx_S.pu (pc2 := 54) (lv2 := [(3, .int v10), (2, .int v5), (0, .ref a0), (1, .int a1)]) (st2 := [.int v10, .int v5, .ref a0, .int v18]) hm dX13_intOf_53 rfl ?_
  refine sx_ic (v := 2) hm dX13_intOf_54 (by decide) ?_
  replace hf := xl_el hf; obtain ⟨v19, e_v19, hf⟩ := hf
  refine mx_S.pu (pc2 := 56) (lv2 := [(3, .int v10), (2, .int v5), (0, .ref a0), (1, .int a1)]) (st2 := [.int v19, .int v5, .ref a0, .int v18]) hm dX13_intOf_55 (by rw [← e_v19]; rfl) ?_
  clear e_v19
  replace hf := mx_gd_el hf; obtain ⟨c20, hf⟩ := hf
  replace hf := mx_sv_el hf; obtain ⟨u21, e_u21, hf⟩ := hf
  refine sx_cv hm dX13_intOf_56 rs_RX13_864 mt_X13_byteAt [.int v5, .int v19] [.int v18] (b := a0) (ci := 13) rfl rfl rfl c20 (Nat.le_of_ble_eq_true rfl) (Nat.le_of_ble_eq_true rfl) (by omega) (by omega) (f_X13_byteAt_ok X (by omega) (by omega) nn a0 v5 v19 u16.2 e_u21) ?_
  clear e_u21
  show mx_S X F L 583 59 [(3, .int v10), (2, .int v5), (0, .ref a0), (1, .int a1)] [.int u21.1, .int v18] u21.2 0 0 (some (.int r.1), r.2, 0, 0)
  refine sx_bi (v := 8) hm dX13_intOf_59 (by decide) ?_
  replace hf := xl_el hf; obtain ⟨v22, e_v22, hf⟩ := hf
  refine mx_S.pu (pc2 := 62) (lv2 := [(3, .int v10), (2, .int v5), (0, .ref a0), (1, .int a1)]) (st2 := [.int v22, .int v18]) hm dX13_intOf_61 (by rw [← e_v22]; rfl) ?_
  clear e_v22
  replace hf := xl_el hf; obtain ⟨v23, e_v23, hf⟩ := hf
  refine mx_S.pu (pc2 := 63) (lv2 := [(3, .int v10), (2, .int v5), (0, .ref a0), (1, .int a1)]) (st2 := [.int v23]) hm dX13_intOf_62 (by rw [← e_v23]; rfl) ?_
  clear e_v23
  refine mx_S.pu (pc2 := 64) (lv2 := [(3, .int v10), (2, .int v5), (0, .ref a0), (1, .int a1)]) (st2 := [.ref a0, .int v23]) hm dX13_intOf_63 rfl ?_
  refine mx_S.pu (pc2 := 65) (lv2 := [(3, .int v10), (2, .int v5), (0, .ref a0), (1, .int a1)]) (st2 := [.int v5, .ref a0, .int v23]) hm dX13_intOf_64 rfl ?_
  refine mx_S.pu (pc2 := 66) (lv2 := [(3, .int v10), (2, .int v5), (0, .ref a0), (1, .int a1)]) (st2 := [.int v10, .int v5, .ref a0, .int v23]) hm dX13_intOf_65 rfl ?_
  refine sx_ic (v := 3) hm dX13_intOf_66 (by decide) ?_
  replace hf := xl_el hf; obtain ⟨v24, e_v24, hf⟩ := hf
  refine mx_S.pu (pc2 := 68) (lv2 := [(3, .int v10), (2, .int v5), (0, .ref a0), (1, .int a1)]) (st2 := [.int v24, .int v5, .ref a0, .int v23]) hm dX13_intOf_67 (by rw [← e_v24]; rfl) ?_
  clear e_v24
  replace hf := mx_gd_el hf; obtain ⟨c25, hf⟩ := hf
  replace hf := mx_sv_el hf; obtain ⟨u26, e_u26, hf⟩ := hf
  refine sx_cv hm dX13_intOf_68 rs_RX13_864 mt_X13_byteAt [.int v5, .int v24] [.int v23] (b := a0) (ci := 13) rfl rfl rfl c25 (Nat.le_of_ble_eq_true rfl) (Nat.le_of_ble_eq_true rfl) (by omega) (by omega) (f_X13_byteAt_ok X (by omega) (by omega) nn a0 v5 v24 u21.2 e_u26) ?_
  clear e_u26
  show mx_S X F L 583 71 [(3, .int v10), (2, .int v5), (0, .ref a0), (1, .int a1)] [.int u26.1, .int v23] u26.2 0 0 (some (.int r.1), r.2, 0, 0)
  replace hf := xl_el hf; obtain ⟨v27, e_v27, hf⟩ := hf
  refine mx_S.pu (pc2 := 72) (lv2 := [(3, .int v10), (2, .int v5), (0, .ref a0), (1, .int a1)]) (st2 := [.int v27]) hm dX13_intOf_71 (by rw [← e_v27]; rfl) ?_
  clear e_v27
  cases hf
  exact sx_ire hm dX13_intOf_72 rfl rfl
set_option maxHeartbeats 4000000 in
set_option maxRecDepth 20000 in
theorem j_X13_is_68_ok (X : Nat × (Nat → Int32)) {F L : Nat} (hF : 12 ≤ F) (hL : 277 ≤ L) (nn : Nat) (l0 : Nat) (l3 : Int32) (h : mx_H) {r : (Int32 × mx_H)} (hf : j_X13_is_68 nn l0 l3 h = some r) : mx_S X F L 595 68 [(0, .ref l0), (3, .int l3)] [] h 0 0 (some (.int r.1), r.2, 0, 0) := by
  have hm : mx_mt 595 = some (yX13_is, cX13_is, 5, (some .boolean)) := mt_X13_is
  unfold j_X13_is_68 at hf
  refine mx_S.pu (pc2 := 69) (lv2 := [(0, .ref l0), (3, .int l3)]) (st2 := [.ref l0]) hm dX13_is_68 rfl ?_
  refine mx_S.pu (pc2 := 70) (lv2 := [(0, .ref l0), (3, .int l3)]) (st2 := [.int l3, .ref l0]) hm dX13_is_69 rfl ?_
  replace hf := mx_gd_el hf; obtain ⟨c1, hf⟩ := hf
  replace hf := mx_sv_el hf; obtain ⟨u2, e_u2, hf⟩ := hf
  refine sx_cv hm dX13_is_70 rs_RX13_1072 mt_X13_give [.int l3] [] (b := l0) (ci := 13) rfl rfl rfl c1 (Nat.le_of_ble_eq_true rfl) (Nat.le_of_ble_eq_true rfl) (by omega) (by omega) (f_X13_give_ok X (by omega) (by omega) nn l0 l3 h e_u2) ?_
  clear e_u2
  show mx_S X F L 595 73 [(0, .ref l0), (3, .int l3)] [] u2 0 0 (some (.int r.1), r.2, 0, 0)
  refine sx_ic (v := 1) hm dX13_is_73 (by decide) ?_
  cases hf
  exact sx_ire hm dX13_is_74 rfl (by decide)
set_option maxHeartbeats 4000000 in
set_option maxRecDepth 20000 in
theorem j_X13_is_27_ok (X : Nat × (Nat → Int32)) {F L : Nat} (hF : 12 ≤ F) (hL : 277 ≤ L) (nn : Nat) (l0 : Nat) (l1 : Int32) (l3 : Int32) (s0 : Int32) (h : mx_H) {r : (Int32 × mx_H)} (hf : j_X13_is_27 nn l0 l1 l3 s0 h = some r) : mx_S X F L 595 27 [(0, .ref l0), (1, .int l1), (3, .int l3)] [.int s0] h 0 0 (some (.int r.1), r.2, 0, 0) := by
  have hm : mx_mt 595 = some (yX13_is, cX13_is, 5, (some .boolean)) := mt_X13_is
  unfold j_X13_is_27 at hf
  refine mx_S.pu (pc2 := 29) (lv2 := [(4, .int s0), (0, .ref l0), (1, .int l1), (3, .int l3)]) (st2 := []) hm dX13_is_27 rfl ?_
  refine mx_S.pu (pc2 := 30) (lv2 := [(4, .int s0), (0, .ref l0), (1, .int l1), (3, .int l3)]) (st2 := [.int l1]) hm dX13_is_29 rfl ?_
  refine sx_si (v := 193) hm dX13_is_30 (by decide) ?_
  rcases mx_if_el hf with ⟨c12, hf⟩ | ⟨c12, hf⟩
  · refine sb_ic_ne hm dX13_is_33 (tgt := 52) rfl (fun _ => ?_) (fun z => absurd c12 z)
    refine mx_S.pu (pc2 := 53) (lv2 := [(4, .int s0), (0, .ref l0), (1, .int l1), (3, .int l3)]) (st2 := [.int l3]) hm dX13_is_52 rfl ?_
    rcases mx_if_el hf with ⟨c6, hf⟩ | ⟨c6, hf⟩
    · refine sb_if_eq hm dX13_is_53 (tgt := 68) rfl (fun _ => ?_) (fun z => absurd c6 z)
      refine mx_S.ext [(0, .ref l0), (3, .int l3)] (mx_sub_pos [1, 3] rfl (show ([4, 0, 1, 3] : List Nat).Nodup by decide)) ?_
      exact j_X13_is_68_ok X hF hL nn l0 l3 h hf
    · refine sb_if_eq hm dX13_is_53 (tgt := 68) rfl (fun z => absurd z c6) (fun _ => ?_)
      refine mx_S.pu (pc2 := 58) (lv2 := [(4, .int s0), (0, .ref l0), (1, .int l1), (3, .int l3)]) (st2 := [.int s0]) hm dX13_is_56 rfl ?_
      rcases mx_if_el hf with ⟨c5, hf⟩ | ⟨c5, hf⟩
      · refine sb_if_ne hm dX13_is_58 (tgt := 68) rfl (fun _ => ?_) (fun z => absurd c5 z)
        refine mx_S.ext [(0, .ref l0), (3, .int l3)] (mx_sub_pos [1, 3] rfl (show ([4, 0, 1, 3] : List Nat).Nodup by decide)) ?_
        exact j_X13_is_68_ok X hF hL nn l0 l3 h hf
      · refine sb_if_ne hm dX13_is_58 (tgt := 68) rfl (fun z => absurd z c5) (fun _ => ?_)
        refine mx_S.pu (pc2 := 62) (lv2 := [(4, .int s0), (0, .ref l0), (1, .int l1), (3, .int l3)]) (st2 := [.ref l0]) hm dX13_is_61 rfl ?_
        refine sx_ic (v := 5) hm dX13_is_62 (by decide) ?_
        replace hf := mx_gd_el hf; obtain ⟨c3, hf⟩ := hf
        replace hf := mx_sv_el hf; obtain ⟨u4, e_u4, hf⟩ := hf
        refine sx_cv hm dX13_is_63 rs_RX13_1093 mt_X13_fails [.int 5] [] (b := l0) (ci := 13) rfl rfl rfl c3 (Nat.le_of_ble_eq_true rfl) (Nat.le_of_ble_eq_true rfl) (by omega) (by omega) (f_X13_fails_ok X (by omega) (by omega) nn l0 5 h e_u4) ?_
        clear e_u4
        show mx_S X F L 595 66 [(4, .int s0), (0, .ref l0), (1, .int l1), (3, .int l3)] [] u4 0 0 (some (.int r.1), r.2, 0, 0)
        refine sx_ic (v := 0) hm dX13_is_66 (by decide) ?_
        cases hf
        exact sx_ire hm dX13_is_67 rfl (by decide)
  · refine sb_ic_ne hm dX13_is_33 (tgt := 52) rfl (fun z => absurd z c12) (fun _ => ?_)
    refine mx_S.pu (pc2 := 37) (lv2 := [(4, .int s0), (0, .ref l0), (1, .int l1), (3, .int l3)]) (st2 := [.ref l0]) hm dX13_is_36 rfl ?_
    refine mx_S.pu (pc2 := 39) (lv2 := [(4, .int s0), (0, .ref l0), (1, .int l1), (3, .int l3)]) (st2 := [.int s0, .ref l0]) hm dX13_is_37 rfl ?_
    rcases mx_if_el hf with ⟨c11, hf⟩ | ⟨c11, hf⟩
    · refine sb_if_eq hm dX13_is_39 (tgt := 46) rfl (fun _ => ?_) (fun z => absurd c11 z)
      refine sx_ic (v := 0) hm dX13_is_46 (by decide) ?_
      replace hf := mx_gd_el hf; obtain ⟨c7, hf⟩ := hf
      replace hf := mx_sv_el hf; obtain ⟨u8, e_u8, hf⟩ := hf
      refine sx_cv hm dX13_is_47 rs_RX13_1072 mt_X13_give [.int 0] [] (b := l0) (ci := 13) rfl rfl rfl c7 (Nat.le_of_ble_eq_true rfl) (Nat.le_of_ble_eq_true rfl) (by omega) (by omega) (f_X13_give_ok X (by omega) (by omega) nn l0 0 h e_u8) ?_
      clear e_u8
      show mx_S X F L 595 50 [(4, .int s0), (0, .ref l0), (1, .int l1), (3, .int l3)] [] u8 0 0 (some (.int r.1), r.2, 0, 0)
      refine sx_ic (v := 1) hm dX13_is_50 (by decide) ?_
      cases hf
      exact sx_ire hm dX13_is_51 rfl (by decide)
    · refine sb_if_eq hm dX13_is_39 (tgt := 46) rfl (fun z => absurd z c11) (fun _ => ?_)
      refine sx_ic (v := 1) hm dX13_is_42 (by decide) ?_
      refine mx_S.pu (pc2 := 47) (lv2 := [(4, .int s0), (0, .ref l0), (1, .int l1), (3, .int l3)]) (st2 := [.int 1, .ref l0]) hm dX13_is_43 rfl ?_
      replace hf := mx_gd_el hf; obtain ⟨c9, hf⟩ := hf
      replace hf := mx_sv_el hf; obtain ⟨u10, e_u10, hf⟩ := hf
      refine sx_cv hm dX13_is_47 rs_RX13_1072 mt_X13_give [.int 1] [] (b := l0) (ci := 13) rfl rfl rfl c9 (Nat.le_of_ble_eq_true rfl) (Nat.le_of_ble_eq_true rfl) (by omega) (by omega) (f_X13_give_ok X (by omega) (by omega) nn l0 1 h e_u10) ?_
      clear e_u10
      show mx_S X F L 595 50 [(4, .int s0), (0, .ref l0), (1, .int l1), (3, .int l3)] [] u10 0 0 (some (.int r.1), r.2, 0, 0)
      refine sx_ic (v := 1) hm dX13_is_50 (by decide) ?_
      cases hf
      exact sx_ire hm dX13_is_51 rfl (by decide)

set_option maxHeartbeats 4000000 in
set_option maxRecDepth 20000 in
theorem j_X13_classFits_331_ok (X : Nat × (Nat → Int32)) {F L : Nat} (hF : 10 ≤ F) (hL : 233 ≤ L) (nn : Nat) (l0 : Nat) (l1 : Int32) (h : mx_H) {r : (Int32 × mx_H)} (hf : j_X13_classFits_331 nn l0 l1 h = some r) : mx_S X F L 539 331 [(0, .ref l0), (1, .int l1)] [] h 0 0 (some (.int r.1), r.2, 0, 0) := by
  have hm : mx_mt 539 = some (yX13_classFits, cX13_classFits, 8, (some .boolean)) := mt_X13_classFits
  unfold j_X13_classFits_331 at hf
  refine mx_S.pu (pc2 := 332) (lv2 := [(0, .ref l0), (1, .int l1)]) (st2 := [.ref l0]) hm dX13_classFits_331 rfl ?_
  refine sx_ic (v := 5) hm dX13_classFits_332 (by decide) ?_
  refine mx_S.pu (pc2 := 334) (lv2 := [(0, .ref l0), (1, .int l1)]) (st2 := [.int l1, .int 5, .ref l0]) hm dX13_classFits_333 rfl ?_
  refine sx_ic (v := (-1)) hm dX13_classFits_334 (by decide) ?_
  refine sx_ic (v := (-1)) hm dX13_classFits_335 (by decide) ?_
  replace hf := mx_gd_el hf; obtain ⟨c1, hf⟩ := hf
  replace hf := mx_sv_el hf; obtain ⟨u2, e_u2, hf⟩ := hf
  refine sx_cv hm dX13_classFits_336 rs_RX13_922 mt_X13_bad [.int 5, .int l1, .int (-1), .int (-1)] [] (b := l0) (ci := 13) rfl rfl rfl c1 (Nat.le_of_ble_eq_true rfl) (Nat.le_of_ble_eq_true rfl) (by omega) (by omega) (f_X13_bad_ok X (by omega) (by omega) nn l0 5 l1 (-1) (-1) h e_u2) ?_
  clear e_u2
  show mx_S X F L 539 339 [(0, .ref l0), (1, .int l1)] [.int u2.1] u2.2 0 0 (some (.int r.1), r.2, 0, 0)
  replace hf := mx_gd_el hf; obtain ⟨c3, hf⟩ := hf
  cases hf
  exact sx_ire hm dX13_classFits_339 rfl (xbq_ok c3).1
set_option maxHeartbeats 4000000 in
set_option maxRecDepth 20000 in
theorem w_X13_classFits_204_ok (X : Nat × (Nat → Int32)) {F L : Nat} (hF : 10 ≤ F) (hL : 233 ≤ L) (nn : Nat) : ∀ (k : Nat) (l0 : Nat) (l1 : Int32) (l2 : Int32) (l4 : Int32) (h : mx_H) (r : (Int32 × mx_H)), w_X13_classFits_204 nn k l0 l1 l2 l4 h = some r → mx_S X F L 539 204 [(0, .ref l0), (1, .int l1), (2, .int l2), (4, .int l4)] [] h 0 0 (some (.int r.1), r.2, 0, 0) := by
  have hm : mx_mt 539 = some (yX13_classFits, cX13_classFits, 8, (some .boolean)) := mt_X13_classFits
  intro k
  induction k with
  | zero => intro l0 l1 l2 l4 h r hf; cases hf
  | succ k ih =>
    intro l0 l1 l2 l4 h r hf
    unfold w_X13_classFits_204 at hf
    refine mx_S.pu (pc2 := 206) (lv2 := [(0, .ref l0), (1, .int l1), (2, .int l2), (4, .int l4)]) (st2 := [.int l4]) hm dX13_classFits_204 rfl ?_
    refine mx_S.pu (pc2 := 207) (lv2 := [(0, .ref l0), (1, .int l1), (2, .int l2), (4, .int l4)]) (st2 := [.ref l0, .int l4]) hm dX13_classFits_206 rfl ?_
    replace hf := mx_sv_el hf; obtain ⟨v4, e_v4, hf⟩ := hf
    refine sx_get hm dX13_classFits_207 rs_RX13_233 (xgr_el e_v4) ?_
    clear e_v4
    refine mx_S.pu (pc2 := 211) (lv2 := [(0, .ref l0), (1, .int l1), (2, .int l2), (4, .int l4)]) (st2 := [.int l2, .ref v4, .int l4]) hm dX13_classFits_210 rfl ?_
    replace hf := mx_sv_el hf; obtain ⟨v5, e_v5, hf⟩ := hf
    refine sx_ald hm dX13_classFits_211 e_v5 ?_
    clear e_v5
    rcases mx_if_el hf with ⟨c39, hf⟩ | ⟨c39, hf⟩
    · refine sb_ic_ge hm dX13_classFits_212 (tgt := 346) rfl (fun _ => ?_) (fun z => absurd c39 z)
      refine sx_ic (v := 1) hm dX13_classFits_346 (by decide) ?_
      cases hf
      exact sx_ire hm dX13_classFits_347 rfl (by decide)
    · refine sb_ic_ge hm dX13_classFits_212 (tgt := 346) rfl (fun z => absurd z c39) (fun _ => ?_)
      refine mx_S.pu (pc2 := 216) (lv2 := [(0, .ref l0), (1, .int l1), (2, .int l2), (4, .int l4)]) (st2 := [.ref l0]) hm dX13_classFits_215 rfl ?_
      refine mx_S.pu (pc2 := 217) (lv2 := [(0, .ref l0), (1, .int l1), (2, .int l2), (4, .int l4)]) (st2 := [.ref l0, .ref l0]) hm dX13_classFits_216 rfl ?_
      refine mx_S.pu (pc2 := 218) (lv2 := [(0, .ref l0), (1, .int l1), (2, .int l2), (4, .int l4)]) (st2 := [.int l1, .ref l0, .ref l0]) hm dX13_classFits_217 rfl ?_
      replace hf := mx_gd_el hf; obtain ⟨c6, hf⟩ := hf
      replace hf := mx_sv_el hf; obtain ⟨u7, e_u7, hf⟩ := hf
      refine sx_cv hm dX13_classFits_218 rs_RX13_873 mt_X13_superOf [.int l1] [.ref l0] (b := l0) (ci := 13) rfl rfl rfl c6 (Nat.le_of_ble_eq_true rfl) (Nat.le_of_ble_eq_true rfl) (by omega) (by omega) (f_X13_superOf_ok X (by omega) (by omega) nn l0 l1 h e_u7) ?_
      clear e_u7
      show mx_S X F L 539 221 [(0, .ref l0), (1, .int l1), (2, .int l2), (4, .int l4)] [.int u7.1, .ref l0] u7.2 0 0 (some (.int r.1), r.2, 0, 0)
      refine mx_S.pu (pc2 := 222) (lv2 := [(0, .ref l0), (1, .int l1), (2, .int l2), (4, .int l4)]) (st2 := [.int l2, .int u7.1, .ref l0]) hm dX13_classFits_221 rfl ?_
      refine mx_S.pu (pc2 := 223) (lv2 := [(0, .ref l0), (1, .int l1), (2, .int l2), (4, .int l4)]) (st2 := [.ref l0, .int l2, .int u7.1, .ref l0]) hm dX13_classFits_222 rfl ?_
      refine mx_S.pu (pc2 := 224) (lv2 := [(0, .ref l0), (1, .int l1), (2, .int l2), (4, .int l4)]) (st2 := [.int l2, .ref l0, .int l2, .int u7.1, .ref l0]) hm dX13_classFits_223 rfl ?_
      refine mx_S.pu (pc2 := 226) (lv2 := [(0, .ref l0), (1, .int l1), (2, .int l2), (4, .int l4)]) (st2 := [.int l4, .int l2, .ref l0, .int l2, .int u7.1, .ref l0]) hm dX13_classFits_224 rfl ?_
      refine sx_ic (v := 1) hm dX13_classFits_226 (by decide) ?_
      replace hf := mx_gd_el hf; obtain ⟨c8, hf⟩ := hf
      replace hf := mx_sv_el hf; obtain ⟨u9, e_u9, hf⟩ := hf
      refine sx_cv hm dX13_classFits_227 rs_RX13_925 mt_X13_nameText [.int l2, .int l4, .int 1] [.int l2, .int u7.1, .ref l0] (b := l0) (ci := 13) rfl rfl rfl c8 (Nat.le_of_ble_eq_true rfl) (Nat.le_of_ble_eq_true rfl) (by omega) (by omega) (f_X13_nameText_ok X (by omega) (by omega) nn l0 l2 l4 1 u7.2 e_u9) ?_
      clear e_u9
      show mx_S X F L 539 230 [(0, .ref l0), (1, .int l1), (2, .int l2), (4, .int l4)] [.int u9.1, .int l2, .int u7.1, .ref l0] u9.2 0 0 (some (.int r.1), r.2, 0, 0)
      refine sx_ic (v := 1) hm dX13_classFits_230 (by decide) ?_
      replace hf := mx_gd_el hf; obtain ⟨c10, hf⟩ := hf
      replace hf := mx_sv_el hf; obtain ⟨u11, e_u11, hf⟩ := hf
      refine sx_cv hm dX13_classFits_231 rs_RX13_928 mt_X13_holder [.int u7.1, .int l2, .int u9.1, .int 1] [] (b := l0) (ci := 13) rfl rfl rfl c10 (Nat.le_of_ble_eq_true rfl) (Nat.le_of_ble_eq_true rfl) (by omega) (by omega) (f_X13_holder_ok X (by omega) (by omega) nn l0 u7.1 l2 u9.1 1 u9.2 e_u11) ?_
      clear e_u11
      show mx_S X F L 539 234 [(0, .ref l0), (1, .int l1), (2, .int l2), (4, .int l4)] [.int u11.1] u11.2 0 0 (some (.int r.1), r.2, 0, 0)
      refine mx_S.pu (pc2 := 236) (lv2 := [(5, .int u11.1), (0, .ref l0), (1, .int l1), (2, .int l2), (4, .int l4)]) (st2 := []) hm dX13_classFits_234 rfl ?_
      refine mx_S.pu (pc2 := 238) (lv2 := [(5, .int u11.1), (0, .ref l0), (1, .int l1), (2, .int l2), (4, .int l4)]) (st2 := [.int u11.1]) hm dX13_classFits_236 rfl ?_
      refine sx_ic (v := (-1)) hm dX13_classFits_238 (by decide) ?_
      rcases mx_if_el hf with ⟨c38, hf⟩ | ⟨c38, hf⟩
      · refine sb_ic_ne hm dX13_classFits_239 (tgt := 245) rfl (fun _ => ?_) (fun z => absurd c38 z)
        refine mx_S.pu (pc2 := 247) (lv2 := [(5, .int u11.1), (0, .ref l0), (1, .int l1), (2, .int l2), (4, .int l4)]) (st2 := [.int u11.1]) hm dX13_classFits_245 rfl ?_
        refine sx_bi (v := 8) hm dX13_classFits_247 (by decide) ?_
        replace hf := xl_el hf; obtain ⟨v12, e_v12, hf⟩ := hf
        refine mx_S.pu (pc2 := 250) (lv2 := [(5, .int u11.1), (0, .ref l0), (1, .int l1), (2, .int l2), (4, .int l4)]) (st2 := [.int v12]) hm dX13_classFits_249 (by rw [← e_v12]; rfl) ?_
        clear e_v12
        refine mx_S.pu (pc2 := 252) (lv2 := [(6, .int v12), (5, .int u11.1), (0, .ref l0), (1, .int l1), (2, .int l2), (4, .int l4)]) (st2 := []) hm dX13_classFits_250 rfl ?_
        refine mx_S.pu (pc2 := 253) (lv2 := [(6, .int v12), (5, .int u11.1), (0, .ref l0), (1, .int l1), (2, .int l2), (4, .int l4)]) (st2 := [.ref l0]) hm dX13_classFits_252 rfl ?_
        refine mx_S.pu (pc2 := 255) (lv2 := [(6, .int v12), (5, .int u11.1), (0, .ref l0), (1, .int l1), (2, .int l2), (4, .int l4)]) (st2 := [.int v12, .ref l0]) hm dX13_classFits_253 rfl ?_
        refine mx_S.pu (pc2 := 256) (lv2 := [(6, .int v12), (5, .int u11.1), (0, .ref l0), (1, .int l1), (2, .int l2), (4, .int l4)]) (st2 := [.ref l0, .int v12, .ref l0]) hm dX13_classFits_255 rfl ?_
        refine mx_S.pu (pc2 := 258) (lv2 := [(6, .int v12), (5, .int u11.1), (0, .ref l0), (1, .int l1), (2, .int l2), (4, .int l4)]) (st2 := [.int v12, .ref l0, .int v12, .ref l0]) hm dX13_classFits_256 rfl ?_
        refine mx_S.pu (pc2 := 259) (lv2 := [(6, .int v12), (5, .int u11.1), (0, .ref l0), (1, .int l1), (2, .int l2), (4, .int l4)]) (st2 := [.ref l0, .int v12, .ref l0, .int v12, .ref l0]) hm dX13_classFits_258 rfl ?_
        replace hf := mx_sv_el hf; obtain ⟨v13, e_v13, hf⟩ := hf
        refine sx_get hm dX13_classFits_259 rs_RX13_898 (xgi_el e_v13) ?_
        clear e_v13
        refine sx_ic (v := 1) hm dX13_classFits_262 (by decide) ?_
        replace hf := mx_gd_el hf; obtain ⟨c14, hf⟩ := hf
        replace hf := mx_sv_el hf; obtain ⟨u15, e_u15, hf⟩ := hf
        refine sx_cv hm dX13_classFits_263 rs_RX13_910 mt_X13_kindText [.int v12, .int v13, .int 1] [.int v12, .ref l0] (b := l0) (ci := 13) rfl rfl rfl c14 (Nat.le_of_ble_eq_true rfl) (Nat.le_of_ble_eq_true rfl) (by omega) (by omega) (f_X13_kindText_ok X (by omega) (by omega) nn l0 v12 v13 1 u11.2 e_u15) ?_
        clear e_u15
        show mx_S X F L 539 266 [(6, .int v12), (5, .int u11.1), (0, .ref l0), (1, .int l1), (2, .int l2), (4, .int l4)] [.int u15.1, .int v12, .ref l0] u15.2 0 0 (some (.int r.1), r.2, 0, 0)
        refine mx_S.pu (pc2 := 267) (lv2 := [(6, .int v12), (5, .int u11.1), (0, .ref l0), (1, .int l1), (2, .int l2), (4, .int l4)]) (st2 := [.int l2, .int u15.1, .int v12, .ref l0]) hm dX13_classFits_266 rfl ?_
        refine mx_S.pu (pc2 := 268) (lv2 := [(6, .int v12), (5, .int u11.1), (0, .ref l0), (1, .int l1), (2, .int l2), (4, .int l4)]) (st2 := [.ref l0, .int l2, .int u15.1, .int v12, .ref l0]) hm dX13_classFits_267 rfl ?_
        refine mx_S.pu (pc2 := 269) (lv2 := [(6, .int v12), (5, .int u11.1), (0, .ref l0), (1, .int l1), (2, .int l2), (4, .int l4)]) (st2 := [.int l2, .ref l0, .int l2, .int u15.1, .int v12, .ref l0]) hm dX13_classFits_268 rfl ?_
        refine mx_S.pu (pc2 := 271) (lv2 := [(6, .int v12), (5, .int u11.1), (0, .ref l0), (1, .int l1), (2, .int l2), (4, .int l4)]) (st2 := [.int l4, .int l2, .ref l0, .int l2, .int u15.1, .int v12, .ref l0]) hm dX13_classFits_269 rfl ?_
        refine sx_ic (v := 1) hm dX13_classFits_271 (by decide) ?_
        replace hf := mx_gd_el hf; obtain ⟨c16, hf⟩ := hf
        replace hf := mx_sv_el hf; obtain ⟨u17, e_u17, hf⟩ := hf
        refine sx_cv hm dX13_classFits_272 rs_RX13_910 mt_X13_kindText [.int l2, .int l4, .int 1] [.int l2, .int u15.1, .int v12, .ref l0] (b := l0) (ci := 13) rfl rfl rfl c16 (Nat.le_of_ble_eq_true rfl) (Nat.le_of_ble_eq_true rfl) (by omega) (by omega) (f_X13_kindText_ok X (by omega) (by omega) nn l0 l2 l4 1 u15.2 e_u17) ?_
        clear e_u17
        show mx_S X F L 539 275 [(6, .int v12), (5, .int u11.1), (0, .ref l0), (1, .int l1), (2, .int l2), (4, .int l4)] [.int u17.1, .int l2, .int u15.1, .int v12, .ref l0] u17.2 0 0 (some (.int r.1), r.2, 0, 0)
        replace hf := mx_gd_el hf; obtain ⟨c18, hf⟩ := hf
        replace hf := mx_sv_el hf; obtain ⟨u19, e_u19, hf⟩ := hf
        refine sx_cv hm dX13_classFits_275 rs_RX13_894 mt_X13_sameText [.int v12, .int u15.1, .int l2, .int u17.1] [] (b := l0) (ci := 13) rfl rfl rfl c18 (Nat.le_of_ble_eq_true rfl) (Nat.le_of_ble_eq_true rfl) (by omega) (by omega) (f_X13_sameText_ok X (by omega) (by omega) nn l0 v12 u15.1 l2 u17.1 u17.2 e_u19) ?_
        clear e_u19
        show mx_S X F L 539 278 [(6, .int v12), (5, .int u11.1), (0, .ref l0), (1, .int l1), (2, .int l2), (4, .int l4)] [.int u19.1] u19.2 0 0 (some (.int r.1), r.2, 0, 0)
        refine mx_S.pu (pc2 := 280) (lv2 := [(7, .int u19.1), (6, .int v12), (5, .int u11.1), (0, .ref l0), (1, .int l1), (2, .int l2), (4, .int l4)]) (st2 := []) hm dX13_classFits_278 rfl ?_
        refine mx_S.pu (pc2 := 282) (lv2 := [(7, .int u19.1), (6, .int v12), (5, .int u11.1), (0, .ref l0), (1, .int l1), (2, .int l2), (4, .int l4)]) (st2 := [.int u19.1]) hm dX13_classFits_280 rfl ?_
        rcases mx_if_el hf with ⟨c36, hf⟩ | ⟨c36, hf⟩
        · refine sb_if_eq hm dX13_classFits_282 (tgt := 331) rfl (fun _ => ?_) (fun z => absurd c36 z)
          refine mx_S.ext [(0, .ref l0), (1, .int l1)] (mx_sub_pos [3, 4] rfl (show ([7, 6, 5, 0, 1, 2, 4] : List Nat).Nodup by decide)) ?_
          exact j_X13_classFits_331_ok X hF hL nn l0 l1 u19.2 hf
        · refine sb_if_eq hm dX13_classFits_282 (tgt := 331) rfl (fun z => absurd z c36) (fun _ => ?_)
          refine mx_S.pu (pc2 := 286) (lv2 := [(7, .int u19.1), (6, .int v12), (5, .int u11.1), (0, .ref l0), (1, .int l1), (2, .int l2), (4, .int l4)]) (st2 := [.ref l0]) hm dX13_classFits_285 rfl ?_
          refine mx_S.pu (pc2 := 288) (lv2 := [(7, .int u19.1), (6, .int v12), (5, .int u11.1), (0, .ref l0), (1, .int l1), (2, .int l2), (4, .int l4)]) (st2 := [.int v12, .ref l0]) hm dX13_classFits_286 rfl ?_
          refine mx_S.pu (pc2 := 289) (lv2 := [(7, .int u19.1), (6, .int v12), (5, .int u11.1), (0, .ref l0), (1, .int l1), (2, .int l2), (4, .int l4)]) (st2 := [.ref l0, .int v12, .ref l0]) hm dX13_classFits_288 rfl ?_
          replace hf := mx_sv_el hf; obtain ⟨v20, e_v20, hf⟩ := hf
          refine sx_get hm dX13_classFits_289 rs_RX13_236 (xgr_el e_v20) ?_
          clear e_v20
          refine sx_bi (v := 12) hm dX13_classFits_292 (by decide) ?_
          refine mx_S.pu (pc2 := 296) (lv2 := [(7, .int u19.1), (6, .int v12), (5, .int u11.1), (0, .ref l0), (1, .int l1), (2, .int l2), (4, .int l4)]) (st2 := [.int v12, .int 12, .ref v20, .int v12, .ref l0]) hm dX13_classFits_294 rfl ?_
          replace hf := xl_el hf; obtain ⟨v21, e_v21, hf⟩ := hf
          refine mx_S.pu (pc2 := 297) (lv2 := [(7, .int u19.1), (6, .int v12), (5, .int u11.1), (0, .ref l0), (1, .int l1), (2, .int l2), (4, .int l4)]) (st2 := [.int v21, .ref v20, .int v12, .ref l0]) hm dX13_classFits_296 (by rw [← e_v21]; rfl) ?_
          clear e_v21
          refine mx_S.pu (pc2 := 298) (lv2 := [(7, .int u19.1), (6, .int v12), (5, .int u11.1), (0, .ref l0), (1, .int l1), (2, .int l2), (4, .int l4)]) (st2 := [.ref l0, .int v21, .ref v20, .int v12, .ref l0]) hm dX13_classFits_297 rfl ?_
          replace hf := mx_sv_el hf; obtain ⟨v22, e_v22, hf⟩ := hf
          refine sx_get hm dX13_classFits_298 rs_RX13_898 (xgi_el e_v22) ?_
          clear e_v22
          replace hf := xl_el hf; obtain ⟨v23, e_v23, hf⟩ := hf
          refine mx_S.pu (pc2 := 302) (lv2 := [(7, .int u19.1), (6, .int v12), (5, .int u11.1), (0, .ref l0), (1, .int l1), (2, .int l2), (4, .int l4)]) (st2 := [.int v23, .ref v20, .int v12, .ref l0]) hm dX13_classFits_301 (by rw [← e_v23]; rfl) ?_
          clear e_v23
          replace hf := mx_sv_el hf; obtain ⟨v24, e_v24, hf⟩ := hf
          refine sx_ald hm dX13_classFits_302 e_v24 ?_
          clear e_v24
          replace hf := mx_gd_el hf; obtain ⟨c25, hf⟩ := hf
          replace hf := mx_sv_el hf; obtain ⟨u26, e_u26, hf⟩ := hf
          refine sx_cv hm dX13_classFits_303 rs_RX13_864 mt_X13_byteAt [.int v12, .int v24] [] (b := l0) (ci := 13) rfl rfl rfl c25 (Nat.le_of_ble_eq_true rfl) (Nat.le_of_ble_eq_true rfl) (by omega) (by omega) (f_X13_byteAt_ok X (by omega) (by omega) nn l0 v12 v24 u19.2 e_u26) ?_
          clear e_u26
          show mx_S X F L 539 306 [(7, .int u19.1), (6, .int v12), (5, .int u11.1), (0, .ref l0), (1, .int l1), (2, .int l2), (4, .int l4)] [.int u26.1] u26.2 0 0 (some (.int r.1), r.2, 0, 0)
          refine sx_ic (v := 1) hm dX13_classFits_306 (by decide) ?_
          rcases mx_if_el hf with ⟨c35, hf⟩ | ⟨c35, hf⟩
          · refine sb_ic_eq hm dX13_classFits_307 (tgt := 331) rfl (fun _ => ?_) (fun z => absurd c35 z)
            refine mx_S.ext [(0, .ref l0), (1, .int l1)] (mx_sub_pos [3, 4] rfl (show ([7, 6, 5, 0, 1, 2, 4] : List Nat).Nodup by decide)) ?_
            exact j_X13_classFits_331_ok X hF hL nn l0 l1 u26.2 hf
          · refine sb_ic_eq hm dX13_classFits_307 (tgt := 331) rfl (fun z => absurd z c35) (fun _ => ?_)
            refine mx_S.pu (pc2 := 311) (lv2 := [(7, .int u19.1), (6, .int v12), (5, .int u11.1), (0, .ref l0), (1, .int l1), (2, .int l2), (4, .int l4)]) (st2 := [.ref l0]) hm dX13_classFits_310 rfl ?_
            refine mx_S.pu (pc2 := 312) (lv2 := [(7, .int u19.1), (6, .int v12), (5, .int u11.1), (0, .ref l0), (1, .int l1), (2, .int l2), (4, .int l4)]) (st2 := [.int l2, .ref l0]) hm dX13_classFits_311 rfl ?_
            refine mx_S.pu (pc2 := 313) (lv2 := [(7, .int u19.1), (6, .int v12), (5, .int u11.1), (0, .ref l0), (1, .int l1), (2, .int l2), (4, .int l4)]) (st2 := [.ref l0, .int l2, .ref l0]) hm dX13_classFits_312 rfl ?_
            replace hf := mx_sv_el hf; obtain ⟨v27, e_v27, hf⟩ := hf
            refine sx_get hm dX13_classFits_313 rs_RX13_236 (xgr_el e_v27) ?_
            clear e_v27
            refine sx_bi (v := 12) hm dX13_classFits_316 (by decide) ?_
            refine mx_S.pu (pc2 := 319) (lv2 := [(7, .int u19.1), (6, .int v12), (5, .int u11.1), (0, .ref l0), (1, .int l1), (2, .int l2), (4, .int l4)]) (st2 := [.int l2, .int 12, .ref v27, .int l2, .ref l0]) hm dX13_classFits_318 rfl ?_
            replace hf := xl_el hf; obtain ⟨v28, e_v28, hf⟩ := hf
            refine mx_S.pu (pc2 := 320) (lv2 := [(7, .int u19.1), (6, .int v12), (5, .int u11.1), (0, .ref l0), (1, .int l1), (2, .int l2), (4, .int l4)]) (st2 := [.int v28, .ref v27, .int l2, .ref l0]) hm dX13_classFits_319 (by rw [← e_v28]; rfl) ?_
            clear e_v28
            refine mx_S.pu (pc2 := 322) (lv2 := [(7, .int u19.1), (6, .int v12), (5, .int u11.1), (0, .ref l0), (1, .int l1), (2, .int l2), (4, .int l4)]) (st2 := [.int l4, .int v28, .ref v27, .int l2, .ref l0]) hm dX13_classFits_320 rfl ?_
            replace hf := xl_el hf; obtain ⟨v29, e_v29, hf⟩ := hf
            refine mx_S.pu (pc2 := 323) (lv2 := [(7, .int u19.1), (6, .int v12), (5, .int u11.1), (0, .ref l0), (1, .int l1), (2, .int l2), (4, .int l4)]) (st2 := [.int v29, .ref v27, .int l2, .ref l0]) hm dX13_classFits_322 (by rw [← e_v29]; rfl) ?_
            clear e_v29
            replace hf := mx_sv_el hf; obtain ⟨v30, e_v30, hf⟩ := hf
            refine sx_ald hm dX13_classFits_323 e_v30 ?_
            clear e_v30
            replace hf := mx_gd_el hf; obtain ⟨c31, hf⟩ := hf
            replace hf := mx_sv_el hf; obtain ⟨u32, e_u32, hf⟩ := hf
            refine sx_cv hm dX13_classFits_324 rs_RX13_864 mt_X13_byteAt [.int l2, .int v30] [] (b := l0) (ci := 13) rfl rfl rfl c31 (Nat.le_of_ble_eq_true rfl) (Nat.le_of_ble_eq_true rfl) (by omega) (by omega) (f_X13_byteAt_ok X (by omega) (by omega) nn l0 l2 v30 u26.2 e_u32) ?_
            clear e_u32
            show mx_S X F L 539 327 [(7, .int u19.1), (6, .int v12), (5, .int u11.1), (0, .ref l0), (1, .int l1), (2, .int l2), (4, .int l4)] [.int u32.1] u32.2 0 0 (some (.int r.1), r.2, 0, 0)
            refine sx_ic (v := 1) hm dX13_classFits_327 (by decide) ?_
            rcases mx_if_el hf with ⟨c34, hf⟩ | ⟨c34, hf⟩
            · refine sb_ic_ne hm dX13_classFits_328 (tgt := 340) rfl (fun _ => ?_) (fun z => absurd c34 z)
              replace hf := xl_el hf; obtain ⟨v33, e_v33, hf⟩ := hf
              refine mx_S.pu (pc2 := 343) (lv2 := [(4, .int v33), (7, .int u19.1), (6, .int v12), (5, .int u11.1), (0, .ref l0), (1, .int l1), (2, .int l2)]) (st2 := []) hm dX13_classFits_340 (by rw [← e_v33]; rfl) ?_
              clear e_v33
              refine mx_S.pu (pc2 := 204) (lv2 := [(4, .int v33), (7, .int u19.1), (6, .int v12), (5, .int u11.1), (0, .ref l0), (1, .int l1), (2, .int l2)]) (st2 := []) hm dX13_classFits_343 rfl ?_
              refine mx_S.ext [(0, .ref l0), (1, .int l1), (2, .int l2), (4, .int v33)] (mx_sub_pos [4, 5, 6, 0] rfl (show ([4, 7, 6, 5, 0, 1, 2] : List Nat).Nodup by decide)) ?_
              exact ih l0 l1 l2 v33 u32.2 _ hf
            · refine sb_ic_ne hm dX13_classFits_328 (tgt := 340) rfl (fun z => absurd z c34) (fun _ => ?_)
              refine mx_S.ext [(0, .ref l0), (1, .int l1)] (mx_sub_pos [3, 4] rfl (show ([7, 6, 5, 0, 1, 2, 4] : List Nat).Nodup by decide)) ?_
              exact j_X13_classFits_331_ok X hF hL nn l0 l1 u32.2 hf
      · refine sb_ic_ne hm dX13_classFits_239 (tgt := 245) rfl (fun z => absurd z c38) (fun _ => ?_)
        refine mx_S.pu (pc2 := 340) (lv2 := [(5, .int u11.1), (0, .ref l0), (1, .int l1), (2, .int l2), (4, .int l4)]) (st2 := []) hm dX13_classFits_242 rfl ?_
        replace hf := xl_el hf; obtain ⟨v37, e_v37, hf⟩ := hf
        refine mx_S.pu (pc2 := 343) (lv2 := [(4, .int v37), (5, .int u11.1), (0, .ref l0), (1, .int l1), (2, .int l2)]) (st2 := []) hm dX13_classFits_340 (by rw [← e_v37]; rfl) ?_
        clear e_v37
        refine mx_S.pu (pc2 := 204) (lv2 := [(4, .int v37), (5, .int u11.1), (0, .ref l0), (1, .int l1), (2, .int l2)]) (st2 := []) hm dX13_classFits_343 rfl ?_
        refine mx_S.ext [(0, .ref l0), (1, .int l1), (2, .int l2), (4, .int v37)] (mx_sub_pos [2, 3, 4, 0] rfl (show ([4, 5, 0, 1, 2] : List Nat).Nodup by decide)) ?_
        exact ih l0 l1 l2 v37 u11.2 _ hf
set_option maxHeartbeats 4000000 in
set_option maxRecDepth 20000 in
theorem j_X13_classFits_165_ok (X : Nat × (Nat → Int32)) {F L : Nat} (hF : 10 ≤ F) (hL : 233 ≤ L) (nn : Nat) {kk_77 : Nat → Int32 → Int32 → Int32 → mx_H → Option (Int32 × mx_H)} (hk_77 : ∀ (l0 : Nat) (l1 : Int32) (l2 : Int32) (l4 : Int32) (h : mx_H) (r : (Int32 × mx_H)), kk_77 l0 l1 l2 l4 h = some r → mx_S X F L 539 77 [(0, .ref l0), (1, .int l1), (2, .int l2), (4, .int l4)] [] h 0 0 (some (.int r.1), r.2, 0, 0)) {kk_109 : Nat → Int32 → Int32 → Int32 → Int32 → Int32 → mx_H → Option (Int32 × mx_H)} (hk_109 : ∀ (l0 : Nat) (l1 : Int32) (l2 : Int32) (l4 : Int32) (l5 : Int32) (l6 : Int32) (h : mx_H) (r : (Int32 × mx_H)), kk_109 l0 l1 l2 l4 l5 l6 h = some r → mx_S X F L 539 109 [(0, .ref l0), (1, .int l1), (2, .int l2), (4, .int l4), (5, .int l5), (6, .int l6)] [] h 0 0 (some (.int r.1), r.2, 0, 0)) {kk_122 : Nat → Int32 → Int32 → Int32 → Int32 → Int32 → Int32 → mx_H → Option (Int32 × mx_H)} (hk_122 : ∀ (l0 : Nat) (l1 : Int32) (l2 : Int32) (l4 : Int32) (l5 : Int32) (l6 : Int32) (l7 : Int32) (h : mx_H) (r : (Int32 × mx_H)), kk_122 l0 l1 l2 l4 l5 l6 l7 h = some r → mx_S X F L 539 122 [(0, .ref l0), (1, .int l1), (2, .int l2), (4, .int l4), (5, .int l5), (6, .int l6), (7, .int l7)] [] h 0 0 (some (.int r.1), r.2, 0, 0)) (l0 : Nat) (l1 : Int32) (l2 : Int32) (l4 : Int32) (l5 : Int32) (l6 : Int32) (l7 : Int32) (s0 : Int32) (s1 : Int32) (s2 : Int32) (s3 : Nat) (s4 : Int32) (s5 : Int32) (s6 : Int32) (s7 : Nat) (h : mx_H) {r : (Int32 × mx_H)} (hf : j_X13_classFits_165 nn kk_77 kk_109 kk_122 l0 l1 l2 l4 l5 l6 l7 s0 s1 s2 s3 s4 s5 s6 s7 h = some r) : mx_S X F L 539 165 [(0, .ref l0), (1, .int l1), (2, .int l2), (4, .int l4), (5, .int l5), (6, .int l6), (7, .int l7)] [.int s0, .int s1, .int s2, .ref s3, .int s4, .int s5, .int s6, .ref s7] h 0 0 (some (.int r.1), r.2, 0, 0) := by
  have hm : mx_mt 539 = some (yX13_classFits, cX13_classFits, 8, (some .boolean)) := mt_X13_classFits
  unfold j_X13_classFits_165 at hf
  replace hf := mx_gd_el hf; obtain ⟨c40, hf⟩ := hf
  replace hf := mx_sv_el hf; obtain ⟨u41, e_u41, hf⟩ := hf
  refine sx_cv hm dX13_classFits_165 rs_RX13_925 mt_X13_nameText [.int s2, .int s1, .int s0] [.int s4, .int s5, .int s6, .ref s7] (b := s3) (ci := 13) rfl rfl rfl c40 (Nat.le_of_ble_eq_true rfl) (Nat.le_of_ble_eq_true rfl) (by omega) (by omega) (f_X13_nameText_ok X (by omega) (by omega) nn s3 s2 s1 s0 h e_u41) ?_
  clear e_u41
  show mx_S X F L 539 168 [(0, .ref l0), (1, .int l1), (2, .int l2), (4, .int l4), (5, .int l5), (6, .int l6), (7, .int l7)] [.int u41.1, .int s4, .int s5, .int s6, .ref s7] u41.2 0 0 (some (.int r.1), r.2, 0, 0)
  replace hf := mx_gd_el hf; obtain ⟨c42, hf⟩ := hf
  replace hf := mx_sv_el hf; obtain ⟨u43, e_u43, hf⟩ := hf
  refine sx_cv hm dX13_classFits_168 rs_RX13_894 mt_X13_sameText [.int s6, .int s5, .int s4, .int u41.1] [] (b := s7) (ci := 13) rfl rfl rfl c42 (Nat.le_of_ble_eq_true rfl) (Nat.le_of_ble_eq_true rfl) (by omega) (by omega) (f_X13_sameText_ok X (by omega) (by omega) nn s7 s6 s5 s4 u41.1 u41.2 e_u43) ?_
  clear e_u43
  show mx_S X F L 539 171 [(0, .ref l0), (1, .int l1), (2, .int l2), (4, .int l4), (5, .int l5), (6, .int l6), (7, .int l7)] [.int u43.1] u43.2 0 0 (some (.int r.1), r.2, 0, 0)
  rcases mx_if_el hf with ⟨c48, hf⟩ | ⟨c48, hf⟩
  · refine sb_if_eq hm dX13_classFits_171 (tgt := 183) rfl (fun _ => ?_) (fun z => absurd c48 z)
    replace hf := xl_el hf; obtain ⟨v44, e_v44, hf⟩ := hf
    refine mx_S.pu (pc2 := 186) (lv2 := [(7, .int v44), (0, .ref l0), (1, .int l1), (2, .int l2), (4, .int l4), (5, .int l5), (6, .int l6)]) (st2 := []) hm dX13_classFits_183 (by rw [← e_v44]; rfl) ?_
    clear e_v44
    refine mx_S.pu (pc2 := 122) (lv2 := [(7, .int v44), (0, .ref l0), (1, .int l1), (2, .int l2), (4, .int l4), (5, .int l5), (6, .int l6)]) (st2 := []) hm dX13_classFits_186 rfl ?_
    refine mx_S.ext [(0, .ref l0), (1, .int l1), (2, .int l2), (4, .int l4), (5, .int l5), (6, .int l6), (7, .int v44)] (mx_sub_pos [1, 2, 3, 4, 5, 6, 0] rfl (show ([7, 0, 1, 2, 4, 5, 6] : List Nat).Nodup by decide)) ?_
    exact hk_122 l0 l1 l2 l4 l5 l6 v44 u43.2 _ hf
  · refine sb_if_eq hm dX13_classFits_171 (tgt := 183) rfl (fun z => absurd z c48) (fun _ => ?_)
    refine mx_S.pu (pc2 := 175) (lv2 := [(0, .ref l0), (1, .int l1), (2, .int l2), (4, .int l4), (5, .int l5), (6, .int l6), (7, .int l7)]) (st2 := [.ref l0]) hm dX13_classFits_174 rfl ?_
    refine sx_ic (v := 4) hm dX13_classFits_175 (by decide) ?_
    refine mx_S.pu (pc2 := 177) (lv2 := [(0, .ref l0), (1, .int l1), (2, .int l2), (4, .int l4), (5, .int l5), (6, .int l6), (7, .int l7)]) (st2 := [.int l1, .int 4, .ref l0]) hm dX13_classFits_176 rfl ?_
    refine sx_ic (v := (-1)) hm dX13_classFits_177 (by decide) ?_
    refine sx_ic (v := (-1)) hm dX13_classFits_178 (by decide) ?_
    replace hf := mx_gd_el hf; obtain ⟨c45, hf⟩ := hf
    replace hf := mx_sv_el hf; obtain ⟨u46, e_u46, hf⟩ := hf
    refine sx_cv hm dX13_classFits_179 rs_RX13_922 mt_X13_bad [.int 4, .int l1, .int (-1), .int (-1)] [] (b := l0) (ci := 13) rfl rfl rfl c45 (Nat.le_of_ble_eq_true rfl) (Nat.le_of_ble_eq_true rfl) (by omega) (by omega) (f_X13_bad_ok X (by omega) (by omega) nn l0 4 l1 (-1) (-1) u43.2 e_u46) ?_
    clear e_u46
    show mx_S X F L 539 182 [(0, .ref l0), (1, .int l1), (2, .int l2), (4, .int l4), (5, .int l5), (6, .int l6), (7, .int l7)] [.int u46.1] u46.2 0 0 (some (.int r.1), r.2, 0, 0)
    replace hf := mx_gd_el hf; obtain ⟨c47, hf⟩ := hf
    cases hf
    exact sx_ire hm dX13_classFits_182 rfl (xbq_ok c47).1
set_option maxHeartbeats 4000000 in
set_option maxRecDepth 20000 in
theorem j_X13_classFits_146_ok (X : Nat × (Nat → Int32)) {F L : Nat} (hF : 10 ≤ F) (hL : 233 ≤ L) (nn : Nat) {kk_77 : Nat → Int32 → Int32 → Int32 → mx_H → Option (Int32 × mx_H)} (hk_77 : ∀ (l0 : Nat) (l1 : Int32) (l2 : Int32) (l4 : Int32) (h : mx_H) (r : (Int32 × mx_H)), kk_77 l0 l1 l2 l4 h = some r → mx_S X F L 539 77 [(0, .ref l0), (1, .int l1), (2, .int l2), (4, .int l4)] [] h 0 0 (some (.int r.1), r.2, 0, 0)) {kk_109 : Nat → Int32 → Int32 → Int32 → Int32 → Int32 → mx_H → Option (Int32 × mx_H)} (hk_109 : ∀ (l0 : Nat) (l1 : Int32) (l2 : Int32) (l4 : Int32) (l5 : Int32) (l6 : Int32) (h : mx_H) (r : (Int32 × mx_H)), kk_109 l0 l1 l2 l4 l5 l6 h = some r → mx_S X F L 539 109 [(0, .ref l0), (1, .int l1), (2, .int l2), (4, .int l4), (5, .int l5), (6, .int l6)] [] h 0 0 (some (.int r.1), r.2, 0, 0)) {kk_122 : Nat → Int32 → Int32 → Int32 → Int32 → Int32 → Int32 → mx_H → Option (Int32 × mx_H)} (hk_122 : ∀ (l0 : Nat) (l1 : Int32) (l2 : Int32) (l4 : Int32) (l5 : Int32) (l6 : Int32) (l7 : Int32) (h : mx_H) (r : (Int32 × mx_H)), kk_122 l0 l1 l2 l4 l5 l6 l7 h = some r → mx_S X F L 539 122 [(0, .ref l0), (1, .int l1), (2, .int l2), (4, .int l4), (5, .int l5), (6, .int l6), (7, .int l7)] [] h 0 0 (some (.int r.1), r.2, 0, 0)) (l0 : Nat) (l1 : Int32) (l2 : Int32) (l4 : Int32) (l5 : Int32) (l6 : Int32) (l7 : Int32) (s0 : Int32) (s1 : Int32) (s2 : Int32) (s3 : Nat) (s4 : Int32) (s5 : Nat) (h : mx_H) {r : (Int32 × mx_H)} (hf : j_X13_classFits_146 nn kk_77 kk_109 kk_122 l0 l1 l2 l4 l5 l6 l7 s0 s1 s2 s3 s4 s5 h = some r) : mx_S X F L 539 146 [(0, .ref l0), (1, .int l1), (2, .int l2), (4, .int l4), (5, .int l5), (6, .int l6), (7, .int l7)] [.int s0, .int s1, .int s2, .ref s3, .int s4, .ref s5] h 0 0 (some (.int r.1), r.2, 0, 0) := by
  have hm : mx_mt 539 = some (yX13_classFits, cX13_classFits, 8, (some .boolean)) := mt_X13_classFits
  unfold j_X13_classFits_146 at hf
  replace hf := mx_gd_el hf; obtain ⟨c49, hf⟩ := hf
  replace hf := mx_sv_el hf; obtain ⟨u50, e_u50, hf⟩ := hf
  refine sx_cv hm dX13_classFits_146 rs_RX13_925 mt_X13_nameText [.int s2, .int s1, .int s0] [.int s4, .ref s5] (b := s3) (ci := 13) rfl rfl rfl c49 (Nat.le_of_ble_eq_true rfl) (Nat.le_of_ble_eq_true rfl) (by omega) (by omega) (f_X13_nameText_ok X (by omega) (by omega) nn s3 s2 s1 s0 h e_u50) ?_
  clear e_u50
  show mx_S X F L 539 149 [(0, .ref l0), (1, .int l1), (2, .int l2), (4, .int l4), (5, .int l5), (6, .int l6), (7, .int l7)] [.int u50.1, .int s4, .ref s5] u50.2 0 0 (some (.int r.1), r.2, 0, 0)
  refine mx_S.pu (pc2 := 150) (lv2 := [(0, .ref l0), (1, .int l1), (2, .int l2), (4, .int l4), (5, .int l5), (6, .int l6), (7, .int l7)]) (st2 := [.int l2, .int u50.1, .int s4, .ref s5]) hm dX13_classFits_149 rfl ?_
  refine mx_S.pu (pc2 := 151) (lv2 := [(0, .ref l0), (1, .int l1), (2, .int l2), (4, .int l4), (5, .int l5), (6, .int l6), (7, .int l7)]) (st2 := [.ref l0, .int l2, .int u50.1, .int s4, .ref s5]) hm dX13_classFits_150 rfl ?_
  refine mx_S.pu (pc2 := 152) (lv2 := [(0, .ref l0), (1, .int l1), (2, .int l2), (4, .int l4), (5, .int l5), (6, .int l6), (7, .int l7)]) (st2 := [.int l2, .ref l0, .int l2, .int u50.1, .int s4, .ref s5]) hm dX13_classFits_151 rfl ?_
  refine mx_S.pu (pc2 := 154) (lv2 := [(0, .ref l0), (1, .int l1), (2, .int l2), (4, .int l4), (5, .int l5), (6, .int l6), (7, .int l7)]) (st2 := [.int l7, .int l2, .ref l0, .int l2, .int u50.1, .int s4, .ref s5]) hm dX13_classFits_152 rfl ?_
  refine mx_S.pu (pc2 := 156) (lv2 := [(0, .ref l0), (1, .int l1), (2, .int l2), (4, .int l4), (5, .int l5), (6, .int l6), (7, .int l7)]) (st2 := [.int l4, .int l7, .int l2, .ref l0, .int l2, .int u50.1, .int s4, .ref s5]) hm dX13_classFits_154 rfl ?_
  refine sx_ic (v := 1) hm dX13_classFits_156 (by decide) ?_
  rcases mx_if_el hf with ⟨c51, hf⟩ | ⟨c51, hf⟩
  · refine sb_ic_ne hm dX13_classFits_157 (tgt := 164) rfl (fun _ => ?_) (fun z => absurd c51 z)
    refine sx_ic (v := 0) hm dX13_classFits_164 (by decide) ?_
    exact j_X13_classFits_165_ok X hF hL nn hk_77 hk_109 hk_122 l0 l1 l2 l4 l5 l6 l7 0 l7 l2 l0 l2 u50.1 s4 s5 u50.2 hf
  · refine sb_ic_ne hm dX13_classFits_157 (tgt := 164) rfl (fun z => absurd z c51) (fun _ => ?_)
    refine sx_ic (v := 1) hm dX13_classFits_160 (by decide) ?_
    refine mx_S.pu (pc2 := 165) (lv2 := [(0, .ref l0), (1, .int l1), (2, .int l2), (4, .int l4), (5, .int l5), (6, .int l6), (7, .int l7)]) (st2 := [.int 1, .int l7, .int l2, .ref l0, .int l2, .int u50.1, .int s4, .ref s5]) hm dX13_classFits_161 rfl ?_
    exact j_X13_classFits_165_ok X hF hL nn hk_77 hk_109 hk_122 l0 l1 l2 l4 l5 l6 l7 1 l7 l2 l0 l2 u50.1 s4 s5 u50.2 hf
set_option maxHeartbeats 4000000 in
set_option maxRecDepth 20000 in
theorem w_X13_classFits_122_ok (X : Nat × (Nat → Int32)) {F L : Nat} (hF : 10 ≤ F) (hL : 233 ≤ L) (nn : Nat) {kk_77 : Nat → Int32 → Int32 → Int32 → mx_H → Option (Int32 × mx_H)} (hk_77 : ∀ (l0 : Nat) (l1 : Int32) (l2 : Int32) (l4 : Int32) (h : mx_H) (r : (Int32 × mx_H)), kk_77 l0 l1 l2 l4 h = some r → mx_S X F L 539 77 [(0, .ref l0), (1, .int l1), (2, .int l2), (4, .int l4)] [] h 0 0 (some (.int r.1), r.2, 0, 0)) {kk_109 : Nat → Int32 → Int32 → Int32 → Int32 → Int32 → mx_H → Option (Int32 × mx_H)} (hk_109 : ∀ (l0 : Nat) (l1 : Int32) (l2 : Int32) (l4 : Int32) (l5 : Int32) (l6 : Int32) (h : mx_H) (r : (Int32 × mx_H)), kk_109 l0 l1 l2 l4 l5 l6 h = some r → mx_S X F L 539 109 [(0, .ref l0), (1, .int l1), (2, .int l2), (4, .int l4), (5, .int l5), (6, .int l6)] [] h 0 0 (some (.int r.1), r.2, 0, 0)) : ∀ (k : Nat) (l0 : Nat) (l1 : Int32) (l2 : Int32) (l4 : Int32) (l5 : Int32) (l6 : Int32) (l7 : Int32) (h : mx_H) (r : (Int32 × mx_H)), w_X13_classFits_122 nn kk_77 kk_109 k l0 l1 l2 l4 l5 l6 l7 h = some r → mx_S X F L 539 122 [(0, .ref l0), (1, .int l1), (2, .int l2), (4, .int l4), (5, .int l5), (6, .int l6), (7, .int l7)] [] h 0 0 (some (.int r.1), r.2, 0, 0) := by
  have hm : mx_mt 539 = some (yX13_classFits, cX13_classFits, 8, (some .boolean)) := mt_X13_classFits
  intro k
  induction k with
  | zero => intro l0 l1 l2 l4 l5 l6 l7 h r hf; cases hf
  | succ k ih =>
    intro l0 l1 l2 l4 l5 l6 l7 h r hf
    unfold w_X13_classFits_122 at hf
    refine mx_S.pu (pc2 := 124) (lv2 := [(0, .ref l0), (1, .int l1), (2, .int l2), (4, .int l4), (5, .int l5), (6, .int l6), (7, .int l7)]) (st2 := [.int l7]) hm dX13_classFits_122 rfl ?_
    refine mx_S.pu (pc2 := 126) (lv2 := [(0, .ref l0), (1, .int l1), (2, .int l2), (4, .int l4), (5, .int l5), (6, .int l6), (7, .int l7)]) (st2 := [.int l5, .int l7]) hm dX13_classFits_124 rfl ?_
    rcases mx_if_el hf with ⟨c54, hf⟩ | ⟨c54, hf⟩
    · refine sb_ic_ge hm dX13_classFits_126 (tgt := 189) rfl (fun _ => ?_) (fun z => absurd c54 z)
      replace hf := xl_el hf; obtain ⟨v52, e_v52, hf⟩ := hf
      refine mx_S.pu (pc2 := 192) (lv2 := [(6, .int v52), (0, .ref l0), (1, .int l1), (2, .int l2), (4, .int l4), (5, .int l5), (7, .int l7)]) (st2 := []) hm dX13_classFits_189 (by rw [← e_v52]; rfl) ?_
      clear e_v52
      refine mx_S.pu (pc2 := 109) (lv2 := [(6, .int v52), (0, .ref l0), (1, .int l1), (2, .int l2), (4, .int l4), (5, .int l5), (7, .int l7)]) (st2 := []) hm dX13_classFits_192 rfl ?_
      refine mx_S.ext [(0, .ref l0), (1, .int l1), (2, .int l2), (4, .int l4), (5, .int l5), (6, .int v52)] (mx_sub_pos [1, 2, 3, 4, 5, 0] rfl (show ([6, 0, 1, 2, 4, 5, 7] : List Nat).Nodup by decide)) ?_
      exact hk_109 l0 l1 l2 l4 l5 v52 h _ hf
    · refine sb_ic_ge hm dX13_classFits_126 (tgt := 189) rfl (fun z => absurd z c54) (fun _ => ?_)
      refine mx_S.pu (pc2 := 130) (lv2 := [(0, .ref l0), (1, .int l1), (2, .int l2), (4, .int l4), (5, .int l5), (6, .int l6), (7, .int l7)]) (st2 := [.ref l0]) hm dX13_classFits_129 rfl ?_
      refine mx_S.pu (pc2 := 131) (lv2 := [(0, .ref l0), (1, .int l1), (2, .int l2), (4, .int l4), (5, .int l5), (6, .int l6), (7, .int l7)]) (st2 := [.int l2, .ref l0]) hm dX13_classFits_130 rfl ?_
      refine mx_S.pu (pc2 := 132) (lv2 := [(0, .ref l0), (1, .int l1), (2, .int l2), (4, .int l4), (5, .int l5), (6, .int l6), (7, .int l7)]) (st2 := [.ref l0, .int l2, .ref l0]) hm dX13_classFits_131 rfl ?_
      refine mx_S.pu (pc2 := 133) (lv2 := [(0, .ref l0), (1, .int l1), (2, .int l2), (4, .int l4), (5, .int l5), (6, .int l6), (7, .int l7)]) (st2 := [.int l2, .ref l0, .int l2, .ref l0]) hm dX13_classFits_132 rfl ?_
      refine mx_S.pu (pc2 := 135) (lv2 := [(0, .ref l0), (1, .int l1), (2, .int l2), (4, .int l4), (5, .int l5), (6, .int l6), (7, .int l7)]) (st2 := [.int l6, .int l2, .ref l0, .int l2, .ref l0]) hm dX13_classFits_133 rfl ?_
      refine mx_S.pu (pc2 := 137) (lv2 := [(0, .ref l0), (1, .int l1), (2, .int l2), (4, .int l4), (5, .int l5), (6, .int l6), (7, .int l7)]) (st2 := [.int l4, .int l6, .int l2, .ref l0, .int l2, .ref l0]) hm dX13_classFits_135 rfl ?_
      refine sx_ic (v := 1) hm dX13_classFits_137 (by decide) ?_
      rcases mx_if_el hf with ⟨c53, hf⟩ | ⟨c53, hf⟩
      · refine sb_ic_ne hm dX13_classFits_138 (tgt := 145) rfl (fun _ => ?_) (fun z => absurd c53 z)
        refine sx_ic (v := 0) hm dX13_classFits_145 (by decide) ?_
        exact j_X13_classFits_146_ok X hF hL nn hk_77 hk_109 ih l0 l1 l2 l4 l5 l6 l7 0 l6 l2 l0 l2 l0 h hf
      · refine sb_ic_ne hm dX13_classFits_138 (tgt := 145) rfl (fun z => absurd z c53) (fun _ => ?_)
        refine sx_ic (v := 1) hm dX13_classFits_141 (by decide) ?_
        refine mx_S.pu (pc2 := 146) (lv2 := [(0, .ref l0), (1, .int l1), (2, .int l2), (4, .int l4), (5, .int l5), (6, .int l6), (7, .int l7)]) (st2 := [.int 1, .int l6, .int l2, .ref l0, .int l2, .ref l0]) hm dX13_classFits_142 rfl ?_
        exact j_X13_classFits_146_ok X hF hL nn hk_77 hk_109 ih l0 l1 l2 l4 l5 l6 l7 1 l6 l2 l0 l2 l0 h hf
set_option maxHeartbeats 4000000 in
set_option maxRecDepth 20000 in
theorem w_X13_classFits_109_ok (X : Nat × (Nat → Int32)) {F L : Nat} (hF : 10 ≤ F) (hL : 233 ≤ L) (nn : Nat) {kk_77 : Nat → Int32 → Int32 → Int32 → mx_H → Option (Int32 × mx_H)} (hk_77 : ∀ (l0 : Nat) (l1 : Int32) (l2 : Int32) (l4 : Int32) (h : mx_H) (r : (Int32 × mx_H)), kk_77 l0 l1 l2 l4 h = some r → mx_S X F L 539 77 [(0, .ref l0), (1, .int l1), (2, .int l2), (4, .int l4)] [] h 0 0 (some (.int r.1), r.2, 0, 0)) : ∀ (k : Nat) (l0 : Nat) (l1 : Int32) (l2 : Int32) (l4 : Int32) (l5 : Int32) (l6 : Int32) (h : mx_H) (r : (Int32 × mx_H)), w_X13_classFits_109 nn kk_77 k l0 l1 l2 l4 l5 l6 h = some r → mx_S X F L 539 109 [(0, .ref l0), (1, .int l1), (2, .int l2), (4, .int l4), (5, .int l5), (6, .int l6)] [] h 0 0 (some (.int r.1), r.2, 0, 0) := by
  have hm : mx_mt 539 = some (yX13_classFits, cX13_classFits, 8, (some .boolean)) := mt_X13_classFits
  intro k
  induction k with
  | zero => intro l0 l1 l2 l4 l5 l6 h r hf; cases hf
  | succ k ih =>
    intro l0 l1 l2 l4 l5 l6 h r hf
    unfold w_X13_classFits_109 at hf
    refine mx_S.pu (pc2 := 111) (lv2 := [(0, .ref l0), (1, .int l1), (2, .int l2), (4, .int l4), (5, .int l5), (6, .int l6)]) (st2 := [.int l6]) hm dX13_classFits_109 rfl ?_
    refine mx_S.pu (pc2 := 113) (lv2 := [(0, .ref l0), (1, .int l1), (2, .int l2), (4, .int l4), (5, .int l5), (6, .int l6)]) (st2 := [.int l5, .int l6]) hm dX13_classFits_111 rfl ?_
    rcases mx_if_el hf with ⟨c57, hf⟩ | ⟨c57, hf⟩
    · refine sb_ic_ge hm dX13_classFits_113 (tgt := 195) rfl (fun _ => ?_) (fun z => absurd c57 z)
      replace hf := xl_el hf; obtain ⟨v55, e_v55, hf⟩ := hf
      refine mx_S.pu (pc2 := 198) (lv2 := [(4, .int v55), (0, .ref l0), (1, .int l1), (2, .int l2), (5, .int l5), (6, .int l6)]) (st2 := []) hm dX13_classFits_195 (by rw [← e_v55]; rfl) ?_
      clear e_v55
      refine mx_S.pu (pc2 := 77) (lv2 := [(4, .int v55), (0, .ref l0), (1, .int l1), (2, .int l2), (5, .int l5), (6, .int l6)]) (st2 := []) hm dX13_classFits_198 rfl ?_
      refine mx_S.ext [(0, .ref l0), (1, .int l1), (2, .int l2), (4, .int v55)] (mx_sub_pos [1, 2, 3, 0] rfl (show ([4, 0, 1, 2, 5, 6] : List Nat).Nodup by decide)) ?_
      exact hk_77 l0 l1 l2 v55 h _ hf
    · refine sb_ic_ge hm dX13_classFits_113 (tgt := 195) rfl (fun z => absurd z c57) (fun _ => ?_)
      refine mx_S.pu (pc2 := 118) (lv2 := [(0, .ref l0), (1, .int l1), (2, .int l2), (4, .int l4), (5, .int l5), (6, .int l6)]) (st2 := [.int l6]) hm dX13_classFits_116 rfl ?_
      refine sx_ic (v := 1) hm dX13_classFits_118 (by decide) ?_
      replace hf := xl_el hf; obtain ⟨v56, e_v56, hf⟩ := hf
      refine mx_S.pu (pc2 := 120) (lv2 := [(0, .ref l0), (1, .int l1), (2, .int l2), (4, .int l4), (5, .int l5), (6, .int l6)]) (st2 := [.int v56]) hm dX13_classFits_119 (by rw [← e_v56]; rfl) ?_
      clear e_v56
      refine mx_S.pu (pc2 := 122) (lv2 := [(7, .int v56), (0, .ref l0), (1, .int l1), (2, .int l2), (4, .int l4), (5, .int l5), (6, .int l6)]) (st2 := []) hm dX13_classFits_120 rfl ?_
      refine mx_S.ext [(0, .ref l0), (1, .int l1), (2, .int l2), (4, .int l4), (5, .int l5), (6, .int l6), (7, .int v56)] (mx_sub_pos [1, 2, 3, 4, 5, 6, 0] rfl (show ([7, 0, 1, 2, 4, 5, 6] : List Nat).Nodup by decide)) ?_
      exact w_X13_classFits_122_ok X hF hL nn hk_77 ih nn l0 l1 l2 l4 l5 l6 v56 h _ hf
set_option maxHeartbeats 4000000 in
set_option maxRecDepth 20000 in
theorem w_X13_classFits_77_ok (X : Nat × (Nat → Int32)) {F L : Nat} (hF : 10 ≤ F) (hL : 233 ≤ L) (nn : Nat) : ∀ (k : Nat) (l0 : Nat) (l1 : Int32) (l2 : Int32) (l4 : Int32) (h : mx_H) (r : (Int32 × mx_H)), w_X13_classFits_77 nn k l0 l1 l2 l4 h = some r → mx_S X F L 539 77 [(0, .ref l0), (1, .int l1), (2, .int l2), (4, .int l4)] [] h 0 0 (some (.int r.1), r.2, 0, 0) := by
  have hm : mx_mt 539 = some (yX13_classFits, cX13_classFits, 8, (some .boolean)) := mt_X13_classFits
  intro k
  induction k with
  | zero => intro l0 l1 l2 l4 h r hf; cases hf
  | succ k ih =>
    intro l0 l1 l2 l4 h r hf
    unfold w_X13_classFits_77 at hf
    refine mx_S.pu (pc2 := 79) (lv2 := [(0, .ref l0), (1, .int l1), (2, .int l2), (4, .int l4)]) (st2 := [.int l4]) hm dX13_classFits_77 rfl ?_
    refine sx_ic (v := 2) hm dX13_classFits_79 (by decide) ?_
    rcases mx_if_el hf with ⟨c63, hf⟩ | ⟨c63, hf⟩
    · refine sb_ic_ge hm dX13_classFits_80 (tgt := 201) rfl (fun _ => ?_) (fun z => absurd c63 z)
      refine sx_ic (v := 0) hm dX13_classFits_201 (by decide) ?_
      refine mx_S.pu (pc2 := 204) (lv2 := [(4, .int 0), (0, .ref l0), (1, .int l1), (2, .int l2)]) (st2 := []) hm dX13_classFits_202 rfl ?_
      refine mx_S.ext [(0, .ref l0), (1, .int l1), (2, .int l2), (4, .int 0)] (mx_sub_pos [1, 2, 3, 0] rfl (show ([4, 0, 1, 2] : List Nat).Nodup by decide)) ?_
      exact w_X13_classFits_204_ok X hF hL nn nn l0 l1 l2 0 h _ hf
    · refine sb_ic_ge hm dX13_classFits_80 (tgt := 201) rfl (fun z => absurd z c63) (fun _ => ?_)
      refine mx_S.pu (pc2 := 85) (lv2 := [(0, .ref l0), (1, .int l1), (2, .int l2), (4, .int l4)]) (st2 := [.int l4]) hm dX13_classFits_83 rfl ?_
      refine sx_ic (v := 1) hm dX13_classFits_85 (by decide) ?_
      rcases mx_if_el hf with ⟨c62, hf⟩ | ⟨c62, hf⟩
      · refine sb_ic_ne hm dX13_classFits_86 (tgt := 98) rfl (fun _ => ?_) (fun z => absurd c62 z)
        refine mx_S.pu (pc2 := 99) (lv2 := [(0, .ref l0), (1, .int l1), (2, .int l2), (4, .int l4)]) (st2 := [.ref l0]) hm dX13_classFits_98 rfl ?_
        replace hf := mx_sv_el hf; obtain ⟨v58, e_v58, hf⟩ := hf
        refine sx_get hm dX13_classFits_99 rs_RX13_227 (xgr_el e_v58) ?_
        clear e_v58
        refine mx_S.pu (pc2 := 103) (lv2 := [(0, .ref l0), (1, .int l1), (2, .int l2), (4, .int l4)]) (st2 := [.int l2, .ref v58]) hm dX13_classFits_102 rfl ?_
        replace hf := mx_sv_el hf; obtain ⟨v59, e_v59, hf⟩ := hf
        refine sx_ald hm dX13_classFits_103 e_v59 ?_
        clear e_v59
        refine mx_S.pu (pc2 := 106) (lv2 := [(5, .int v59), (0, .ref l0), (1, .int l1), (2, .int l2), (4, .int l4)]) (st2 := []) hm dX13_classFits_104 rfl ?_
        refine sx_ic (v := 0) hm dX13_classFits_106 (by decide) ?_
        refine mx_S.pu (pc2 := 109) (lv2 := [(6, .int 0), (5, .int v59), (0, .ref l0), (1, .int l1), (2, .int l2), (4, .int l4)]) (st2 := []) hm dX13_classFits_107 rfl ?_
        refine mx_S.ext [(0, .ref l0), (1, .int l1), (2, .int l2), (4, .int l4), (5, .int v59), (6, .int 0)] (mx_sub_pos [2, 3, 4, 5, 1, 0] rfl (show ([6, 5, 0, 1, 2, 4] : List Nat).Nodup by decide)) ?_
        exact w_X13_classFits_109_ok X hF hL nn ih nn l0 l1 l2 l4 v59 0 h _ hf
      · refine sb_ic_ne hm dX13_classFits_86 (tgt := 98) rfl (fun z => absurd z c62) (fun _ => ?_)
        refine mx_S.pu (pc2 := 90) (lv2 := [(0, .ref l0), (1, .int l1), (2, .int l2), (4, .int l4)]) (st2 := [.ref l0]) hm dX13_classFits_89 rfl ?_
        replace hf := mx_sv_el hf; obtain ⟨v60, e_v60, hf⟩ := hf
        refine sx_get hm dX13_classFits_90 rs_RX13_233 (xgr_el e_v60) ?_
        clear e_v60
        refine mx_S.pu (pc2 := 94) (lv2 := [(0, .ref l0), (1, .int l1), (2, .int l2), (4, .int l4)]) (st2 := [.int l2, .ref v60]) hm dX13_classFits_93 rfl ?_
        replace hf := mx_sv_el hf; obtain ⟨v61, e_v61, hf⟩ := hf
        refine sx_ald hm dX13_classFits_94 e_v61 ?_
        clear e_v61
        refine mx_S.pu (pc2 := 104) (lv2 := [(0, .ref l0), (1, .int l1), (2, .int l2), (4, .int l4)]) (st2 := [.int v61]) hm dX13_classFits_95 rfl ?_
        refine mx_S.pu (pc2 := 106) (lv2 := [(5, .int v61), (0, .ref l0), (1, .int l1), (2, .int l2), (4, .int l4)]) (st2 := []) hm dX13_classFits_104 rfl ?_
        refine sx_ic (v := 0) hm dX13_classFits_106 (by decide) ?_
        refine mx_S.pu (pc2 := 109) (lv2 := [(6, .int 0), (5, .int v61), (0, .ref l0), (1, .int l1), (2, .int l2), (4, .int l4)]) (st2 := []) hm dX13_classFits_107 rfl ?_
        refine mx_S.ext [(0, .ref l0), (1, .int l1), (2, .int l2), (4, .int l4), (5, .int v61), (6, .int 0)] (mx_sub_pos [2, 3, 4, 5, 1, 0] rfl (show ([6, 5, 0, 1, 2, 4] : List Nat).Nodup by decide)) ?_
        exact w_X13_classFits_109_ok X hF hL nn ih nn l0 l1 l2 l4 v61 0 h _ hf
set_option maxHeartbeats 4000000 in
set_option maxRecDepth 20000 in
theorem j_X13_classFits_60_ok (X : Nat × (Nat → Int32)) {F L : Nat} (hF : 10 ≤ F) (hL : 233 ≤ L) (nn : Nat) (l0 : Nat) (l1 : Int32) (l2 : Int32) (l3 : Int32) (h : mx_H) {r : (Int32 × mx_H)} (hf : j_X13_classFits_60 nn l0 l1 l2 l3 h = some r) : mx_S X F L 539 60 [(0, .ref l0), (1, .int l1), (2, .int l2), (3, .int l3)] [] h 0 0 (some (.int r.1), r.2, 0, 0) := by
  have hm : mx_mt 539 = some (yX13_classFits, cX13_classFits, 8, (some .boolean)) := mt_X13_classFits
  unfold j_X13_classFits_60 at hf
  refine mx_S.pu (pc2 := 61) (lv2 := [(0, .ref l0), (1, .int l1), (2, .int l2), (3, .int l3)]) (st2 := [.int l3]) hm dX13_classFits_60 rfl ?_
  refine sx_ic (v := (-1)) hm dX13_classFits_61 (by decide) ?_
  rcases mx_if_el hf with ⟨c67, hf⟩ | ⟨c67, hf⟩
  · refine sb_ic_eq hm dX13_classFits_62 (tgt := 74) rfl (fun _ => ?_) (fun z => absurd c67 z)
    refine sx_ic (v := 0) hm dX13_classFits_74 (by decide) ?_
    refine mx_S.pu (pc2 := 77) (lv2 := [(4, .int 0), (0, .ref l0), (1, .int l1), (2, .int l2), (3, .int l3)]) (st2 := []) hm dX13_classFits_75 rfl ?_
    refine mx_S.ext [(0, .ref l0), (1, .int l1), (2, .int l2), (4, .int 0)] (mx_sub_pos [1, 2, 3, 0] rfl (show ([4, 0, 1, 2, 3] : List Nat).Nodup by decide)) ?_
    exact w_X13_classFits_77_ok X hF hL nn nn l0 l1 l2 0 h _ hf
  · refine sb_ic_eq hm dX13_classFits_62 (tgt := 74) rfl (fun z => absurd z c67) (fun _ => ?_)
    refine mx_S.pu (pc2 := 66) (lv2 := [(0, .ref l0), (1, .int l1), (2, .int l2), (3, .int l3)]) (st2 := [.ref l0]) hm dX13_classFits_65 rfl ?_
    refine sx_ic (v := 3) hm dX13_classFits_66 (by decide) ?_
    refine mx_S.pu (pc2 := 68) (lv2 := [(0, .ref l0), (1, .int l1), (2, .int l2), (3, .int l3)]) (st2 := [.int l1, .int 3, .ref l0]) hm dX13_classFits_67 rfl ?_
    refine sx_ic (v := (-1)) hm dX13_classFits_68 (by decide) ?_
    refine sx_ic (v := (-1)) hm dX13_classFits_69 (by decide) ?_
    replace hf := mx_gd_el hf; obtain ⟨c64, hf⟩ := hf
    replace hf := mx_sv_el hf; obtain ⟨u65, e_u65, hf⟩ := hf
    refine sx_cv hm dX13_classFits_70 rs_RX13_922 mt_X13_bad [.int 3, .int l1, .int (-1), .int (-1)] [] (b := l0) (ci := 13) rfl rfl rfl c64 (Nat.le_of_ble_eq_true rfl) (Nat.le_of_ble_eq_true rfl) (by omega) (by omega) (f_X13_bad_ok X (by omega) (by omega) nn l0 3 l1 (-1) (-1) h e_u65) ?_
    clear e_u65
    show mx_S X F L 539 73 [(0, .ref l0), (1, .int l1), (2, .int l2), (3, .int l3)] [.int u65.1] u65.2 0 0 (some (.int r.1), r.2, 0, 0)
    replace hf := mx_gd_el hf; obtain ⟨c66, hf⟩ := hf
    cases hf
    exact sx_ire hm dX13_classFits_73 rfl (xbq_ok c66).1
set_option maxHeartbeats 4000000 in
set_option maxRecDepth 20000 in
theorem w_X13_classFits_36_ok (X : Nat × (Nat → Int32)) {F L : Nat} (hF : 10 ≤ F) (hL : 233 ≤ L) (nn : Nat) : ∀ (k : Nat) (l0 : Nat) (l1 : Int32) (l2 : Int32) (l3 : Int32) (l4 : Int32) (h : mx_H) (r : (Int32 × mx_H)), w_X13_classFits_36 nn k l0 l1 l2 l3 l4 h = some r → mx_S X F L 539 36 [(0, .ref l0), (1, .int l1), (2, .int l2), (3, .int l3), (4, .int l4)] [] h 0 0 (some (.int r.1), r.2, 0, 0) := by
  have hm : mx_mt 539 = some (yX13_classFits, cX13_classFits, 8, (some .boolean)) := mt_X13_classFits
  intro k
  induction k with
  | zero => intro l0 l1 l2 l3 l4 h r hf; cases hf
  | succ k ih =>
    intro l0 l1 l2 l3 l4 h r hf
    unfold w_X13_classFits_36 at hf
    refine mx_S.pu (pc2 := 38) (lv2 := [(0, .ref l0), (1, .int l1), (2, .int l2), (3, .int l3), (4, .int l4)]) (st2 := [.int l4]) hm dX13_classFits_36 rfl ?_
    refine sx_bi (v := 16) hm dX13_classFits_38 (by decide) ?_
    rcases mx_if_el hf with ⟨c72, hf⟩ | ⟨c72, hf⟩
    · refine sb_ic_gt hm dX13_classFits_40 (tgt := 60) rfl (fun _ => ?_) (fun z => absurd c72 z)
      refine mx_S.ext [(0, .ref l0), (1, .int l1), (2, .int l2), (3, .int l3)] (mx_sub_pos [0, 1, 2, 3] rfl (show ([0, 1, 2, 3, 4] : List Nat).Nodup by decide)) ?_
      exact j_X13_classFits_60_ok X hF hL nn l0 l1 l2 l3 h hf
    · refine sb_ic_gt hm dX13_classFits_40 (tgt := 60) rfl (fun z => absurd z c72) (fun _ => ?_)
      refine mx_S.pu (pc2 := 44) (lv2 := [(0, .ref l0), (1, .int l1), (2, .int l2), (3, .int l3), (4, .int l4)]) (st2 := [.int l3]) hm dX13_classFits_43 rfl ?_
      refine sx_ic (v := (-1)) hm dX13_classFits_44 (by decide) ?_
      rcases mx_if_el hf with ⟨c71, hf⟩ | ⟨c71, hf⟩
      · refine sb_ic_eq hm dX13_classFits_45 (tgt := 60) rfl (fun _ => ?_) (fun z => absurd c71 z)
        refine mx_S.ext [(0, .ref l0), (1, .int l1), (2, .int l2), (3, .int l3)] (mx_sub_pos [0, 1, 2, 3] rfl (show ([0, 1, 2, 3, 4] : List Nat).Nodup by decide)) ?_
        exact j_X13_classFits_60_ok X hF hL nn l0 l1 l2 l3 h hf
      · refine sb_ic_eq hm dX13_classFits_45 (tgt := 60) rfl (fun z => absurd z c71) (fun _ => ?_)
        refine mx_S.pu (pc2 := 49) (lv2 := [(0, .ref l0), (1, .int l1), (2, .int l2), (3, .int l3), (4, .int l4)]) (st2 := [.ref l0]) hm dX13_classFits_48 rfl ?_
        refine mx_S.pu (pc2 := 50) (lv2 := [(0, .ref l0), (1, .int l1), (2, .int l2), (3, .int l3), (4, .int l4)]) (st2 := [.int l3, .ref l0]) hm dX13_classFits_49 rfl ?_
        replace hf := mx_gd_el hf; obtain ⟨c68, hf⟩ := hf
        replace hf := mx_sv_el hf; obtain ⟨u69, e_u69, hf⟩ := hf
        refine sx_cv hm dX13_classFits_50 rs_RX13_873 mt_X13_superOf [.int l3] [] (b := l0) (ci := 13) rfl rfl rfl c68 (Nat.le_of_ble_eq_true rfl) (Nat.le_of_ble_eq_true rfl) (by omega) (by omega) (f_X13_superOf_ok X (by omega) (by omega) nn l0 l3 h e_u69) ?_
        clear e_u69
        show mx_S X F L 539 53 [(0, .ref l0), (1, .int l1), (2, .int l2), (3, .int l3), (4, .int l4)] [.int u69.1] u69.2 0 0 (some (.int r.1), r.2, 0, 0)
        refine mx_S.pu (pc2 := 54) (lv2 := [(3, .int u69.1), (0, .ref l0), (1, .int l1), (2, .int l2), (4, .int l4)]) (st2 := []) hm dX13_classFits_53 rfl ?_
        replace hf := xl_el hf; obtain ⟨v70, e_v70, hf⟩ := hf
        refine mx_S.pu (pc2 := 57) (lv2 := [(4, .int v70), (3, .int u69.1), (0, .ref l0), (1, .int l1), (2, .int l2)]) (st2 := []) hm dX13_classFits_54 (by rw [← e_v70]; rfl) ?_
        clear e_v70
        refine mx_S.pu (pc2 := 36) (lv2 := [(4, .int v70), (3, .int u69.1), (0, .ref l0), (1, .int l1), (2, .int l2)]) (st2 := []) hm dX13_classFits_57 rfl ?_
        refine mx_S.ext [(0, .ref l0), (1, .int l1), (2, .int l2), (3, .int u69.1), (4, .int v70)] (mx_sub_pos [2, 3, 4, 1, 0] rfl (show ([4, 3, 0, 1, 2] : List Nat).Nodup by decide)) ?_
        exact ih l0 l1 l2 u69.1 v70 u69.2 _ hf
set_option maxHeartbeats 4000000 in
set_option maxRecDepth 20000 in
theorem j_X13_classFits_22_ok (X : Nat × (Nat → Int32)) {F L : Nat} (hF : 10 ≤ F) (hL : 233 ≤ L) (nn : Nat) (l0 : Nat) (l1 : Int32) (h : mx_H) {r : (Int32 × mx_H)} (hf : j_X13_classFits_22 nn l0 l1 h = some r) : mx_S X F L 539 22 [(0, .ref l0), (1, .int l1)] [] h 0 0 (some (.int r.1), r.2, 0, 0) := by
  have hm : mx_mt 539 = some (yX13_classFits, cX13_classFits, 8, (some .boolean)) := mt_X13_classFits
  unfold j_X13_classFits_22 at hf
  refine mx_S.pu (pc2 := 23) (lv2 := [(0, .ref l0), (1, .int l1)]) (st2 := [.ref l0]) hm dX13_classFits_22 rfl ?_
  refine sx_ic (v := 3) hm dX13_classFits_23 (by decide) ?_
  refine mx_S.pu (pc2 := 25) (lv2 := [(0, .ref l0), (1, .int l1)]) (st2 := [.int l1, .int 3, .ref l0]) hm dX13_classFits_24 rfl ?_
  refine sx_ic (v := (-1)) hm dX13_classFits_25 (by decide) ?_
  refine sx_ic (v := (-1)) hm dX13_classFits_26 (by decide) ?_
  replace hf := mx_gd_el hf; obtain ⟨c73, hf⟩ := hf
  replace hf := mx_sv_el hf; obtain ⟨u74, e_u74, hf⟩ := hf
  refine sx_cv hm dX13_classFits_27 rs_RX13_922 mt_X13_bad [.int 3, .int l1, .int (-1), .int (-1)] [] (b := l0) (ci := 13) rfl rfl rfl c73 (Nat.le_of_ble_eq_true rfl) (Nat.le_of_ble_eq_true rfl) (by omega) (by omega) (f_X13_bad_ok X (by omega) (by omega) nn l0 3 l1 (-1) (-1) h e_u74) ?_
  clear e_u74
  show mx_S X F L 539 30 [(0, .ref l0), (1, .int l1)] [.int u74.1] u74.2 0 0 (some (.int r.1), r.2, 0, 0)
  replace hf := mx_gd_el hf; obtain ⟨c75, hf⟩ := hf
  cases hf
  exact sx_ire hm dX13_classFits_30 rfl (xbq_ok c75).1
set_option maxHeartbeats 4000000 in
set_option maxRecDepth 20000 in
theorem f_X13_classFits_ok (X : Nat × (Nat → Int32)) {F L : Nat} (hF : 10 ≤ F) (hL : 233 ≤ L) (nn : Nat) (a0 : Nat) (a1 : Int32) (h : mx_H) {r : (Int32 × mx_H)} (hf : f_X13_classFits nn a0 a1 h = some r) : mx_R X F L 539 [.ref a0, .int a1] h (some (.int r.1), r.2, 0, 0) := by
  have hm : mx_mt 539 = some (yX13_classFits, cX13_classFits, 8, (some .boolean)) := mt_X13_classFits
  show mx_S X F L 539 0 [(0, .ref a0), (1, .int a1)] [] h 0 0 (some (.int r.1), r.2, 0, 0)
  unfold f_X13_classFits at hf
  refine mx_S.pu (pc2 := 1) (lv2 := [(0, .ref a0), (1, .int a1)]) (st2 := [.int a1]) hm dX13_classFits_0 rfl ?_
  refine sx_bi (v := 8) hm dX13_classFits_1 (by decide) ?_
  replace hf := xl_el hf; obtain ⟨v76, e_v76, hf⟩ := hf
  refine mx_S.pu (pc2 := 4) (lv2 := [(0, .ref a0), (1, .int a1)]) (st2 := [.int v76]) hm dX13_classFits_3 (by rw [← e_v76]; rfl) ?_
  clear e_v76
  refine mx_S.pu (pc2 := 5) (lv2 := [(2, .int v76), (0, .ref a0), (1, .int a1)]) (st2 := []) hm dX13_classFits_4 rfl ?_
  refine mx_S.pu (pc2 := 6) (lv2 := [(2, .int v76), (0, .ref a0), (1, .int a1)]) (st2 := [.ref a0]) hm dX13_classFits_5 rfl ?_
  refine mx_S.pu (pc2 := 7) (lv2 := [(2, .int v76), (0, .ref a0), (1, .int a1)]) (st2 := [.int a1, .ref a0]) hm dX13_classFits_6 rfl ?_
  replace hf := mx_gd_el hf; obtain ⟨c77, hf⟩ := hf
  replace hf := mx_sv_el hf; obtain ⟨u78, e_u78, hf⟩ := hf
  refine sx_cv hm dX13_classFits_7 rs_RX13_873 mt_X13_superOf [.int a1] [] (b := a0) (ci := 13) rfl rfl rfl c77 (Nat.le_of_ble_eq_true rfl) (Nat.le_of_ble_eq_true rfl) (by omega) (by omega) (f_X13_superOf_ok X (by omega) (by omega) nn a0 a1 h e_u78) ?_
  clear e_u78
  show mx_S X F L 539 10 [(2, .int v76), (0, .ref a0), (1, .int a1)] [.int u78.1] u78.2 0 0 (some (.int r.1), r.2, 0, 0)
  refine sx_ic (v := (-1)) hm dX13_classFits_10 (by decide) ?_
  rcases mx_if_el hf with ⟨c82, hf⟩ | ⟨c82, hf⟩
  · refine sb_ic_eq hm dX13_classFits_11 (tgt := 22) rfl (fun _ => ?_) (fun z => absurd c82 z)
    refine mx_S.ext [(0, .ref a0), (1, .int a1)] (mx_sub_pos [1, 2] rfl (show ([2, 0, 1] : List Nat).Nodup by decide)) ?_
    exact j_X13_classFits_22_ok X hF hL nn a0 a1 u78.2 hf
  · refine sb_ic_eq hm dX13_classFits_11 (tgt := 22) rfl (fun z => absurd z c82) (fun _ => ?_)
    refine mx_S.pu (pc2 := 15) (lv2 := [(2, .int v76), (0, .ref a0), (1, .int a1)]) (st2 := [.ref a0]) hm dX13_classFits_14 rfl ?_
    refine mx_S.pu (pc2 := 16) (lv2 := [(2, .int v76), (0, .ref a0), (1, .int a1)]) (st2 := [.int v76, .ref a0]) hm dX13_classFits_15 rfl ?_
    replace hf := mx_gd_el hf; obtain ⟨c79, hf⟩ := hf
    replace hf := mx_sv_el hf; obtain ⟨u80, e_u80, hf⟩ := hf
    refine sx_cv hm dX13_classFits_16 rs_RX13_919 mt_X13_kindsAreThere [.int v76] [] (b := a0) (ci := 13) rfl rfl rfl c79 (Nat.le_of_ble_eq_true rfl) (Nat.le_of_ble_eq_true rfl) (by omega) (by omega) (f_X13_kindsAreThere_ok X (by omega) (by omega) nn a0 v76 u78.2 e_u80) ?_
    clear e_u80
    show mx_S X F L 539 19 [(2, .int v76), (0, .ref a0), (1, .int a1)] [.int u80.1] u80.2 0 0 (some (.int r.1), r.2, 0, 0)
    rcases mx_if_el hf with ⟨c81, hf⟩ | ⟨c81, hf⟩
    · refine sb_if_ne hm dX13_classFits_19 (tgt := 31) rfl (fun _ => ?_) (fun z => absurd c81 z)
      refine mx_S.pu (pc2 := 32) (lv2 := [(2, .int v76), (0, .ref a0), (1, .int a1)]) (st2 := [.int a1]) hm dX13_classFits_31 rfl ?_
      refine mx_S.pu (pc2 := 33) (lv2 := [(3, .int a1), (2, .int v76), (0, .ref a0), (1, .int a1)]) (st2 := []) hm dX13_classFits_32 rfl ?_
      refine sx_ic (v := 0) hm dX13_classFits_33 (by decide) ?_
      refine mx_S.pu (pc2 := 36) (lv2 := [(4, .int 0), (3, .int a1), (2, .int v76), (0, .ref a0), (1, .int a1)]) (st2 := []) hm dX13_classFits_34 rfl ?_
      refine mx_S.ext [(0, .ref a0), (1, .int a1), (2, .int v76), (3, .int a1), (4, .int 0)] (mx_sub_pos [3, 4, 2, 1, 0] rfl (show ([4, 3, 2, 0, 1] : List Nat).Nodup by decide)) ?_
      exact w_X13_classFits_36_ok X hF hL nn nn a0 a1 v76 a1 0 u80.2 _ hf
    · refine sb_if_ne hm dX13_classFits_19 (tgt := 31) rfl (fun z => absurd z c81) (fun _ => ?_)
      refine mx_S.ext [(0, .ref a0), (1, .int a1)] (mx_sub_pos [1, 2] rfl (show ([2, 0, 1] : List Nat).Nodup by decide)) ?_
      exact j_X13_classFits_22_ok X hF hL nn a0 a1 u80.2 hf
set_option maxHeartbeats 4000000 in
set_option maxRecDepth 20000 in
theorem f_X13_code_ok (X : Nat × (Nat → Int32)) {F L : Nat} (hF : 1 ≤ F) (hL : 22 ≤ L) (nn : Nat) (a0 : Nat) (a1 : Int32) (h : mx_H) {r : (Int32 × mx_H)} (hf : f_X13_code nn a0 a1 h = some r) : mx_R X F L 542 [.ref a0, .int a1] h (some (.int r.1), r.2, 0, 0) := by
  have hm : mx_mt 542 = some (yX13_code, cX13_code, 2, (some .int)) := mt_X13_code
  show mx_S X F L 542 0 [(0, .ref a0), (1, .int a1)] [] h 0 0 (some (.int r.1), r.2, 0, 0)
  unfold f_X13_code at hf
  refine mx_S.pu (pc2 := 1) (lv2 := [(0, .ref a0), (1, .int a1)]) (st2 := [.ref a0]) hm dX13_code_0 rfl ?_
  refine mx_S.pu (pc2 := 2) (lv2 := [(0, .ref a0), (1, .int a1)]) (st2 := [.ref a0, .ref a0]) hm dX13_code_1 rfl ?_
  replace hf := mx_sv_el hf; obtain ⟨v1, e_v1, hf⟩ := hf
  refine sx_get hm dX13_code_2 rs_RX13_932 (xgi_el e_v1) ?_
  clear e_v1
  refine mx_S.pu (pc2 := 6) (lv2 := [(0, .ref a0), (1, .int a1)]) (st2 := [.ref a0, .int v1, .ref a0]) hm dX13_code_5 rfl ?_
  replace hf := mx_sv_el hf; obtain ⟨v2, e_v2, hf⟩ := hf
  refine sx_get hm dX13_code_6 rs_RX13_935 (xgi_el e_v2) ?_
  clear e_v2
  refine mx_S.pu (pc2 := 10) (lv2 := [(0, .ref a0), (1, .int a1)]) (st2 := [.int a1, .int v2, .int v1, .ref a0]) hm dX13_code_9 rfl ?_
  replace hf := xl_el hf; obtain ⟨v3, e_v3, hf⟩ := hf
  refine mx_S.pu (pc2 := 11) (lv2 := [(0, .ref a0), (1, .int a1)]) (st2 := [.int v3, .int v1, .ref a0]) hm dX13_code_10 (by rw [← e_v3]; rfl) ?_
  clear e_v3
  replace hf := mx_gd_el hf; obtain ⟨c4, hf⟩ := hf
  replace hf := mx_sv_el hf; obtain ⟨u5, e_u5, hf⟩ := hf
  refine sx_cv hm dX13_code_11 rs_RX13_864 mt_X13_byteAt [.int v1, .int v3] [] (b := a0) (ci := 13) rfl rfl rfl c4 (Nat.le_of_ble_eq_true rfl) (Nat.le_of_ble_eq_true rfl) (by omega) (by omega) (f_X13_byteAt_ok X (by omega) (by omega) nn a0 v1 v3 h e_u5) ?_
  clear e_u5
  show mx_S X F L 542 14 [(0, .ref a0), (1, .int a1)] [.int u5.1] u5.2 0 0 (some (.int r.1), r.2, 0, 0)
  cases hf
  exact sx_ire hm dX13_code_14 rfl rfl
set_option maxHeartbeats 4000000 in
set_option maxRecDepth 20000 in
theorem f_X13_aimOf_ok (X : Nat × (Nat → Int32)) {F L : Nat} (hF : 2 ≤ F) (hL : 43 ≤ L) (nn : Nat) (a0 : Nat) (a1 : Int32) (h : mx_H) {r : (Int32 × mx_H)} (hf : f_X13_aimOf nn a0 a1 h = some r) : mx_R X F L 543 [.ref a0, .int a1] h (some (.int r.1), r.2, 0, 0) := by
  have hm : mx_mt 543 = some (yX13_aimOf, cX13_aimOf, 2, (some .int)) := mt_X13_aimOf
  show mx_S X F L 543 0 [(0, .ref a0), (1, .int a1)] [] h 0 0 (some (.int r.1), r.2, 0, 0)
  unfold f_X13_aimOf at hf
  refine mx_S.pu (pc2 := 1) (lv2 := [(0, .ref a0), (1, .int a1)]) (st2 := [.int a1]) hm dX13_aimOf_0 rfl ?_
  refine mx_S.pu (pc2 := 2) (lv2 := [(0, .ref a0), (1, .int a1)]) (st2 := [.ref a0, .int a1]) hm dX13_aimOf_1 rfl ?_
  refine mx_S.pu (pc2 := 3) (lv2 := [(0, .ref a0), (1, .int a1)]) (st2 := [.int a1, .ref a0, .int a1]) hm dX13_aimOf_2 rfl ?_
  refine sx_ic (v := 1) hm dX13_aimOf_3 (by decide) ?_
  replace hf := xl_el hf; obtain ⟨v1, e_v1, hf⟩ := hf
  refine mx_S.pu (pc2 := 5) (lv2 := [(0, .ref a0), (1, .int a1)]) (st2 := [.int v1, .ref a0, .int a1]) hm dX13_aimOf_4 (by rw [← e_v1]; rfl) ?_
  clear e_v1
  replace hf := mx_gd_el hf; obtain ⟨c2, hf⟩ := hf
  replace hf := mx_sv_el hf; obtain ⟨u3, e_u3, hf⟩ := hf
  refine sx_cv hm dX13_aimOf_5 rs_RX13_938 mt_X13_code [.int v1] [.int a1] (b := a0) (ci := 13) rfl rfl rfl c2 (Nat.le_of_ble_eq_true rfl) (Nat.le_of_ble_eq_true rfl) (by omega) (by omega) (f_X13_code_ok X (by omega) (by omega) nn a0 v1 h e_u3) ?_
  clear e_u3
  show mx_S X F L 543 8 [(0, .ref a0), (1, .int a1)] [.int u3.1, .int a1] u3.2 0 0 (some (.int r.1), r.2, 0, 0)
  refine sx_bi (v := 8) hm dX13_aimOf_8 (by decide) ?_
  replace hf := xl_el hf; obtain ⟨v4, e_v4, hf⟩ := hf
  refine mx_S.pu (pc2 := 11) (lv2 := [(0, .ref a0), (1, .int a1)]) (st2 := [.int v4, .int a1]) hm dX13_aimOf_10 (by rw [← e_v4]; rfl) ?_
  clear e_v4
  refine mx_S.pu (pc2 := 12) (lv2 := [(0, .ref a0), (1, .int a1)]) (st2 := [.ref a0, .int v4, .int a1]) hm dX13_aimOf_11 rfl ?_
  refine mx_S.pu (pc2 := 13) (lv2 := [(0, .ref a0), (1, .int a1)]) (st2 := [.int a1, .ref a0, .int v4, .int a1]) hm dX13_aimOf_12 rfl ?_
  refine sx_ic (v := 2) hm dX13_aimOf_13 (by decide) ?_
  replace hf := xl_el hf; obtain ⟨v5, e_v5, hf⟩ := hf
  refine mx_S.pu (pc2 := 15) (lv2 := [(0, .ref a0), (1, .int a1)]) (st2 := [.int v5, .ref a0, .int v4, .int a1]) hm dX13_aimOf_14 (by rw [← e_v5]; rfl) ?_
  clear e_v5
  replace hf := mx_gd_el hf; obtain ⟨c6, hf⟩ := hf
  replace hf := mx_sv_el hf; obtain ⟨u7, e_u7, hf⟩ := hf
  refine sx_cv hm dX13_aimOf_15 rs_RX13_938 mt_X13_code [.int v5] [.int v4, .int a1] (b := a0) (ci := 13) rfl rfl rfl c6 (Nat.le_of_ble_eq_true rfl) (Nat.le_of_ble_eq_true rfl) (by omega) (by omega) (f_X13_code_ok X (by omega) (by omega) nn a0 v5 u3.2 e_u7) ?_
  clear e_u7
  show mx_S X F L 543 18 [(0, .ref a0), (1, .int a1)] [.int u7.1, .int v4, .int a1] u7.2 0 0 (some (.int r.1), r.2, 0, 0)
  replace hf := xl_el hf; obtain ⟨v8, e_v8, hf⟩ := hf
  refine mx_S.pu (pc2 := 19) (lv2 := [(0, .ref a0), (1, .int a1)]) (st2 := [.int v8, .int a1]) hm dX13_aimOf_18 (by rw [← e_v8]; rfl) ?_
  clear e_v8
  replace hf := xl_el hf; obtain ⟨v9, e_v9, hf⟩ := hf
  refine mx_S.pu (pc2 := 20) (lv2 := [(0, .ref a0), (1, .int a1)]) (st2 := [.int v9, .int a1]) hm dX13_aimOf_19 (by rw [← e_v9]; rfl) ?_
  clear e_v9
  replace hf := xl_el hf; obtain ⟨v10, e_v10, hf⟩ := hf
  refine mx_S.pu (pc2 := 21) (lv2 := [(0, .ref a0), (1, .int a1)]) (st2 := [.int v10]) hm dX13_aimOf_20 (by rw [← e_v10]; rfl) ?_
  clear e_v10
  cases hf
  exact sx_ire hm dX13_aimOf_21 rfl rfl
set_option maxHeartbeats 4000000 in
set_option maxRecDepth 20000 in
theorem f_X13_pairIn_ok (X : Nat × (Nat → Int32)) {F L : Nat} (hF : 1 ≤ F) (hL : 22 ≤ L) (nn : Nat) (a0 : Nat) (a1 : Int32) (h : mx_H) {r : (Int32 × mx_H)} (hf : f_X13_pairIn nn a0 a1 h = some r) : mx_R X F L 544 [.ref a0, .int a1] h (some (.int r.1), r.2, 0, 0) := by
  have hm : mx_mt 544 = some (yX13_pairIn, cX13_pairIn, 2, (some .int)) := mt_X13_pairIn
  show mx_S X F L 544 0 [(0, .ref a0), (1, .int a1)] [] h 0 0 (some (.int r.1), r.2, 0, 0)
  unfold f_X13_pairIn at hf
  refine mx_S.pu (pc2 := 1) (lv2 := [(0, .ref a0), (1, .int a1)]) (st2 := [.ref a0]) hm dX13_pairIn_0 rfl ?_
  refine mx_S.pu (pc2 := 2) (lv2 := [(0, .ref a0), (1, .int a1)]) (st2 := [.ref a0, .ref a0]) hm dX13_pairIn_1 rfl ?_
  replace hf := mx_sv_el hf; obtain ⟨v1, e_v1, hf⟩ := hf
  refine sx_get hm dX13_pairIn_2 rs_RX13_932 (xgi_el e_v1) ?_
  clear e_v1
  refine mx_S.pu (pc2 := 6) (lv2 := [(0, .ref a0), (1, .int a1)]) (st2 := [.int a1, .int v1, .ref a0]) hm dX13_pairIn_5 rfl ?_
  replace hf := mx_gd_el hf; obtain ⟨c2, hf⟩ := hf
  replace hf := mx_sv_el hf; obtain ⟨u3, e_u3, hf⟩ := hf
  refine sx_cv hm dX13_pairIn_6 rs_RX13_864 mt_X13_byteAt [.int v1, .int a1] [] (b := a0) (ci := 13) rfl rfl rfl c2 (Nat.le_of_ble_eq_true rfl) (Nat.le_of_ble_eq_true rfl) (by omega) (by omega) (f_X13_byteAt_ok X (by omega) (by omega) nn a0 v1 a1 h e_u3) ?_
  clear e_u3
  show mx_S X F L 544 9 [(0, .ref a0), (1, .int a1)] [.int u3.1] u3.2 0 0 (some (.int r.1), r.2, 0, 0)
  refine sx_bi (v := 8) hm dX13_pairIn_9 (by decide) ?_
  replace hf := xl_el hf; obtain ⟨v4, e_v4, hf⟩ := hf
  refine mx_S.pu (pc2 := 12) (lv2 := [(0, .ref a0), (1, .int a1)]) (st2 := [.int v4]) hm dX13_pairIn_11 (by rw [← e_v4]; rfl) ?_
  clear e_v4
  refine mx_S.pu (pc2 := 13) (lv2 := [(0, .ref a0), (1, .int a1)]) (st2 := [.ref a0, .int v4]) hm dX13_pairIn_12 rfl ?_
  refine mx_S.pu (pc2 := 14) (lv2 := [(0, .ref a0), (1, .int a1)]) (st2 := [.ref a0, .ref a0, .int v4]) hm dX13_pairIn_13 rfl ?_
  replace hf := mx_sv_el hf; obtain ⟨v5, e_v5, hf⟩ := hf
  refine sx_get hm dX13_pairIn_14 rs_RX13_932 (xgi_el e_v5) ?_
  clear e_v5
  refine mx_S.pu (pc2 := 18) (lv2 := [(0, .ref a0), (1, .int a1)]) (st2 := [.int a1, .int v5, .ref a0, .int v4]) hm dX13_pairIn_17 rfl ?_
  refine sx_ic (v := 1) hm dX13_pairIn_18 (by decide) ?_
  replace hf := xl_el hf; obtain ⟨v6, e_v6, hf⟩ := hf
  refine mx_S.pu (pc2 := 20) (lv2 := [(0, .ref a0), (1, .int a1)]) (st2 := [.int v6, .int v5, .ref a0, .int v4]) hm dX13_pairIn_19 (by rw [← e_v6]; rfl) ?_
  clear e_v6
  replace hf := mx_gd_el hf; obtain ⟨c7, hf⟩ := hf
  replace hf := mx_sv_el hf; obtain ⟨u8, e_u8, hf⟩ := hf
  refine sx_cv hm dX13_pairIn_20 rs_RX13_864 mt_X13_byteAt [.int v5, .int v6] [.int v4] (b := a0) (ci := 13) rfl rfl rfl c7 (Nat.le_of_ble_eq_true rfl) (Nat.le_of_ble_eq_true rfl) (by omega) (by omega) (f_X13_byteAt_ok X (by omega) (by omega) nn a0 v5 v6 u3.2 e_u8) ?_
  clear e_u8
  show mx_S X F L 544 23 [(0, .ref a0), (1, .int a1)] [.int u8.1, .int v4] u8.2 0 0 (some (.int r.1), r.2, 0, 0)
  replace hf := xl_el hf; obtain ⟨v9, e_v9, hf⟩ := hf
  refine mx_S.pu (pc2 := 24) (lv2 := [(0, .ref a0), (1, .int a1)]) (st2 := [.int v9]) hm dX13_pairIn_23 (by rw [← e_v9]; rfl) ?_
  clear e_v9
  cases hf
  exact sx_ire hm dX13_pairIn_24 rfl rfl
set_option maxHeartbeats 4000000 in
set_option maxRecDepth 20000 in
theorem f_X13_at__ok (X : Nat × (Nat → Int32)) {F L : Nat} (hF : 2 ≤ F) (hL : 43 ≤ L) (nn : Nat) (a0 : Nat) (a1 : Int32) (a2 : Int32) (h : mx_H) {r : mx_H} (hf : f_X13_at_ nn a0 a1 a2 h = some r) : mx_R X F L 553 [.ref a0, .int a1, .int a2] h (none, r, 0, 0) := by
  have hm : mx_mt 553 = some (yX13_at_, cX13_at_, 4, none) := mt_X13_at_
  show mx_S X F L 553 0 [(0, .ref a0), (1, .int a1), (2, .int a2)] [] h 0 0 (none, r, 0, 0)
  unfold f_X13_at_ at hf
  refine mx_S.pu (pc2 := 1) (lv2 := [(0, .ref a0), (1, .int a1), (2, .int a2)]) (st2 := [.ref a0]) hm dX13_at__0 rfl ?_
  refine mx_S.pu (pc2 := 2) (lv2 := [(0, .ref a0), (1, .int a1), (2, .int a2)]) (st2 := [.int a1, .ref a0]) hm dX13_at__1 rfl ?_
  refine sx_bi (v := 8) hm dX13_at__2 (by decide) ?_
  replace hf := xl_el hf; obtain ⟨v1, e_v1, hf⟩ := hf
  refine mx_S.pu (pc2 := 5) (lv2 := [(0, .ref a0), (1, .int a1), (2, .int a2)]) (st2 := [.int v1, .ref a0]) hm dX13_at__4 (by rw [← e_v1]; rfl) ?_
  clear e_v1
  replace hf := mx_sv_el hf; obtain ⟨h2, e_h2, hf⟩ := hf
  refine sx_put hm dX13_at__5 rs_RX13_932 ft_13_132 ⟨rfl, rfl⟩ (fun z => by cases z) e_h2 ?_
  clear e_h2
  refine mx_S.pu (pc2 := 9) (lv2 := [(0, .ref a0), (1, .int a1), (2, .int a2)]) (st2 := [.ref a0]) hm dX13_at__8 rfl ?_
  refine mx_S.pu (pc2 := 10) (lv2 := [(0, .ref a0), (1, .int a1), (2, .int a2)]) (st2 := [.int a2, .ref a0]) hm dX13_at__9 rfl ?_
  replace hf := mx_sv_el hf; obtain ⟨h3, e_h3, hf⟩ := hf
  refine sx_put hm dX13_at__10 rs_RX13_940 ft_13_133 ⟨rfl, rfl⟩ (fun z => by cases z) e_h3 ?_
  clear e_h3
  refine mx_S.pu (pc2 := 14) (lv2 := [(0, .ref a0), (1, .int a1), (2, .int a2)]) (st2 := [.ref a0]) hm dX13_at__13 rfl ?_
  replace hf := mx_sv_el hf; obtain ⟨v4, e_v4, hf⟩ := hf
  refine sx_get hm dX13_at__14 rs_RX13_236 (xgr_el e_v4) ?_
  clear e_v4
  refine sx_bi (v := 12) hm dX13_at__17 (by decide) ?_
  refine mx_S.pu (pc2 := 20) (lv2 := [(0, .ref a0), (1, .int a1), (2, .int a2)]) (st2 := [.ref a0, .int 12, .ref v4]) hm dX13_at__19 rfl ?_
  replace hf := mx_sv_el hf; obtain ⟨v5, e_v5, hf⟩ := hf
  refine sx_get hm dX13_at__20 rs_RX13_932 (xgi_el e_v5) ?_
  clear e_v5
  replace hf := xl_el hf; obtain ⟨v6, e_v6, hf⟩ := hf
  refine mx_S.pu (pc2 := 24) (lv2 := [(0, .ref a0), (1, .int a1), (2, .int a2)]) (st2 := [.int v6, .ref v4]) hm dX13_at__23 (by rw [← e_v6]; rfl) ?_
  clear e_v6
  refine mx_S.pu (pc2 := 25) (lv2 := [(0, .ref a0), (1, .int a1), (2, .int a2)]) (st2 := [.int a2, .int v6, .ref v4]) hm dX13_at__24 rfl ?_
  replace hf := xl_el hf; obtain ⟨v7, e_v7, hf⟩ := hf
  refine mx_S.pu (pc2 := 26) (lv2 := [(0, .ref a0), (1, .int a1), (2, .int a2)]) (st2 := [.int v7, .ref v4]) hm dX13_at__25 (by rw [← e_v7]; rfl) ?_
  clear e_v7
  replace hf := mx_sv_el hf; obtain ⟨v8, e_v8, hf⟩ := hf
  refine sx_ald hm dX13_at__26 e_v8 ?_
  clear e_v8
  refine mx_S.pu (pc2 := 28) (lv2 := [(3, .int v8), (0, .ref a0), (1, .int a1), (2, .int a2)]) (st2 := []) hm dX13_at__27 rfl ?_
  refine mx_S.pu (pc2 := 29) (lv2 := [(3, .int v8), (0, .ref a0), (1, .int a1), (2, .int a2)]) (st2 := [.ref a0]) hm dX13_at__28 rfl ?_
  refine mx_S.pu (pc2 := 30) (lv2 := [(3, .int v8), (0, .ref a0), (1, .int a1), (2, .int a2)]) (st2 := [.ref a0, .ref a0]) hm dX13_at__29 rfl ?_
  refine mx_S.pu (pc2 := 31) (lv2 := [(3, .int v8), (0, .ref a0), (1, .int a1), (2, .int a2)]) (st2 := [.ref a0, .ref a0, .ref a0]) hm dX13_at__30 rfl ?_
  replace hf := mx_sv_el hf; obtain ⟨v9, e_v9, hf⟩ := hf
  refine sx_get hm dX13_at__31 rs_RX13_932 (xgi_el e_v9) ?_
  clear e_v9
  refine mx_S.pu (pc2 := 35) (lv2 := [(3, .int v8), (0, .ref a0), (1, .int a1), (2, .int a2)]) (st2 := [.int v8, .int v9, .ref a0, .ref a0]) hm dX13_at__34 rfl ?_
  refine sx_ic (v := 3) hm dX13_at__35 (by decide) ?_
  replace hf := xl_el hf; obtain ⟨v10, e_v10, hf⟩ := hf
  refine mx_S.pu (pc2 := 37) (lv2 := [(3, .int v8), (0, .ref a0), (1, .int a1), (2, .int a2)]) (st2 := [.int v10, .int v9, .ref a0, .ref a0]) hm dX13_at__36 (by rw [← e_v10]; rfl) ?_
  clear e_v10
  replace hf := mx_gd_el hf; obtain ⟨c11, hf⟩ := hf
  replace hf := mx_sv_el hf; obtain ⟨u12, e_u12, hf⟩ := hf
  refine sx_cv hm dX13_at__37 rs_RX13_864 mt_X13_byteAt [.int v9, .int v10] [.ref a0] (b := a0) (ci := 13) rfl rfl rfl c11 (Nat.le_of_ble_eq_true rfl) (Nat.le_of_ble_eq_true rfl) (by omega) (by omega) (f_X13_byteAt_ok X (by omega) (by omega) nn a0 v9 v10 h3 e_u12) ?_
  clear e_u12
  show mx_S X F L 553 40 [(3, .int v8), (0, .ref a0), (1, .int a1), (2, .int a2)] [.int u12.1, .ref a0] u12.2 0 0 (none, r, 0, 0)
  replace hf := mx_sv_el hf; obtain ⟨h13, e_h13, hf⟩ := hf
  refine sx_put hm dX13_at__40 rs_RX13_967 ft_13_130 ⟨rfl, rfl⟩ (fun z => by cases z) e_h13 ?_
  clear e_h13
  refine mx_S.pu (pc2 := 44) (lv2 := [(3, .int v8), (0, .ref a0), (1, .int a1), (2, .int a2)]) (st2 := [.ref a0]) hm dX13_at__43 rfl ?_
  refine mx_S.pu (pc2 := 45) (lv2 := [(3, .int v8), (0, .ref a0), (1, .int a1), (2, .int a2)]) (st2 := [.ref a0, .ref a0]) hm dX13_at__44 rfl ?_
  refine mx_S.pu (pc2 := 46) (lv2 := [(3, .int v8), (0, .ref a0), (1, .int a1), (2, .int a2)]) (st2 := [.ref a0, .ref a0, .ref a0]) hm dX13_at__45 rfl ?_
  replace hf := mx_sv_el hf; obtain ⟨v14, e_v14, hf⟩ := hf
  refine sx_get hm dX13_at__46 rs_RX13_932 (xgi_el e_v14) ?_
  clear e_v14
  refine mx_S.pu (pc2 := 50) (lv2 := [(3, .int v8), (0, .ref a0), (1, .int a1), (2, .int a2)]) (st2 := [.int v8, .int v14, .ref a0, .ref a0]) hm dX13_at__49 rfl ?_
  refine sx_ic (v := 4) hm dX13_at__50 (by decide) ?_
  replace hf := xl_el hf; obtain ⟨v15, e_v15, hf⟩ := hf
  refine mx_S.pu (pc2 := 52) (lv2 := [(3, .int v8), (0, .ref a0), (1, .int a1), (2, .int a2)]) (st2 := [.int v15, .int v14, .ref a0, .ref a0]) hm dX13_at__51 (by rw [← e_v15]; rfl) ?_
  clear e_v15
  replace hf := mx_gd_el hf; obtain ⟨c16, hf⟩ := hf
  replace hf := mx_sv_el hf; obtain ⟨u17, e_u17, hf⟩ := hf
  refine sx_cv hm dX13_at__52 rs_RX13_864 mt_X13_byteAt [.int v14, .int v15] [.ref a0] (b := a0) (ci := 13) rfl rfl rfl c16 (Nat.le_of_ble_eq_true rfl) (Nat.le_of_ble_eq_true rfl) (by omega) (by omega) (f_X13_byteAt_ok X (by omega) (by omega) nn a0 v14 v15 h13 e_u17) ?_
  clear e_u17
  show mx_S X F L 553 55 [(3, .int v8), (0, .ref a0), (1, .int a1), (2, .int a2)] [.int u17.1, .ref a0] u17.2 0 0 (none, r, 0, 0)
  replace hf := mx_sv_el hf; obtain ⟨h18, e_h18, hf⟩ := hf
  refine sx_put hm dX13_at__55 rs_RX13_964 ft_13_129 ⟨rfl, rfl⟩ (fun z => by cases z) e_h18 ?_
  clear e_h18
  refine mx_S.pu (pc2 := 59) (lv2 := [(3, .int v8), (0, .ref a0), (1, .int a1), (2, .int a2)]) (st2 := [.ref a0]) hm dX13_at__58 rfl ?_
  refine mx_S.pu (pc2 := 60) (lv2 := [(3, .int v8), (0, .ref a0), (1, .int a1), (2, .int a2)]) (st2 := [.ref a0, .ref a0]) hm dX13_at__59 rfl ?_
  refine mx_S.pu (pc2 := 61) (lv2 := [(3, .int v8), (0, .ref a0), (1, .int a1), (2, .int a2)]) (st2 := [.int v8, .ref a0, .ref a0]) hm dX13_at__60 rfl ?_
  refine sx_ic (v := 5) hm dX13_at__61 (by decide) ?_
  replace hf := xl_el hf; obtain ⟨v19, e_v19, hf⟩ := hf
  refine mx_S.pu (pc2 := 63) (lv2 := [(3, .int v8), (0, .ref a0), (1, .int a1), (2, .int a2)]) (st2 := [.int v19, .ref a0, .ref a0]) hm dX13_at__62 (by rw [← e_v19]; rfl) ?_
  clear e_v19
  replace hf := mx_gd_el hf; obtain ⟨c20, hf⟩ := hf
  replace hf := mx_sv_el hf; obtain ⟨u21, e_u21, hf⟩ := hf
  refine sx_cv hm dX13_at__63 rs_RX13_949 mt_X13_pairIn [.int v19] [.ref a0] (b := a0) (ci := 13) rfl rfl rfl c20 (Nat.le_of_ble_eq_true rfl) (Nat.le_of_ble_eq_true rfl) (by omega) (by omega) (f_X13_pairIn_ok X (by omega) (by omega) nn a0 v19 h18 e_u21) ?_
  clear e_u21
  show mx_S X F L 553 66 [(3, .int v8), (0, .ref a0), (1, .int a1), (2, .int a2)] [.int u21.1, .ref a0] u21.2 0 0 (none, r, 0, 0)
  replace hf := mx_sv_el hf; obtain ⟨h22, e_h22, hf⟩ := hf
  refine sx_put hm dX13_at__66 rs_RX13_970 ft_13_135 ⟨rfl, rfl⟩ (fun z => by cases z) e_h22 ?_
  clear e_h22
  refine mx_S.pu (pc2 := 70) (lv2 := [(3, .int v8), (0, .ref a0), (1, .int a1), (2, .int a2)]) (st2 := [.ref a0]) hm dX13_at__69 rfl ?_
  refine mx_S.pu (pc2 := 71) (lv2 := [(3, .int v8), (0, .ref a0), (1, .int a1), (2, .int a2)]) (st2 := [.int v8, .ref a0]) hm dX13_at__70 rfl ?_
  refine sx_bi (v := 7) hm dX13_at__71 (by decide) ?_
  replace hf := xl_el hf; obtain ⟨v23, e_v23, hf⟩ := hf
  refine mx_S.pu (pc2 := 74) (lv2 := [(3, .int v8), (0, .ref a0), (1, .int a1), (2, .int a2)]) (st2 := [.int v23, .ref a0]) hm dX13_at__73 (by rw [← e_v23]; rfl) ?_
  clear e_v23
  replace hf := mx_sv_el hf; obtain ⟨h24, e_h24, hf⟩ := hf
  refine sx_put hm dX13_at__74 rs_RX13_935 ft_13_134 ⟨rfl, rfl⟩ (fun z => by cases z) e_h24 ?_
  clear e_h24
  cases hf
  exact sx_ret hm dX13_at__77 rfl
set_option maxHeartbeats 4000000 in
set_option maxRecDepth 20000 in
theorem f_X13_typeOfClass_ok (X : Nat × (Nat → Int32)) {F L : Nat} (hF : 8 ≤ F) (hL : 187 ≤ L) (nn : Nat) (a0 : Nat) (a1 : Int32) (a2 : Int32) (h : mx_H) {r : (Int32 × mx_H)} (hf : f_X13_typeOfClass nn a0 a1 a2 h = some r) : mx_R X F L 527 [.ref a0, .int a1, .int a2] h (some (.int r.1), r.2, 0, 0) := by
  have hm : mx_mt 527 = some (yX13_typeOfClass, cX13_typeOfClass, 5, (some .int)) := mt_X13_typeOfClass
  show mx_S X F L 527 0 [(0, .ref a0), (1, .int a1), (2, .int a2)] [] h 0 0 (some (.int r.1), r.2, 0, 0)
  unfold f_X13_typeOfClass at hf
  refine mx_S.pu (pc2 := 1) (lv2 := [(0, .ref a0), (1, .int a1), (2, .int a2)]) (st2 := [.ref a0]) hm dX13_typeOfClass_0 rfl ?_
  refine mx_S.pu (pc2 := 2) (lv2 := [(0, .ref a0), (1, .int a1), (2, .int a2)]) (st2 := [.int a1, .ref a0]) hm dX13_typeOfClass_1 rfl ?_
  refine mx_S.pu (pc2 := 3) (lv2 := [(0, .ref a0), (1, .int a1), (2, .int a2)]) (st2 := [.int a2, .int a1, .ref a0]) hm dX13_typeOfClass_2 rfl ?_
  replace hf := mx_gd_el hf; obtain ⟨c1, hf⟩ := hf
  replace hf := mx_sv_el hf; obtain ⟨u2, e_u2, hf⟩ := hf
  refine sx_cv hm dX13_typeOfClass_3 rs_RX13_867 mt_X13_textOfClass [.int a1, .int a2] [] (b := a0) (ci := 13) rfl rfl rfl c1 (Nat.le_of_ble_eq_true rfl) (Nat.le_of_ble_eq_true rfl) (by omega) (by omega) (f_X13_textOfClass_ok X (by omega) (by omega) nn a0 a1 a2 h e_u2) ?_
  clear e_u2
  show mx_S X F L 527 6 [(0, .ref a0), (1, .int a1), (2, .int a2)] [.int u2.1] u2.2 0 0 (some (.int r.1), r.2, 0, 0)
  refine mx_S.pu (pc2 := 7) (lv2 := [(3, .int u2.1), (0, .ref a0), (1, .int a1), (2, .int a2)]) (st2 := []) hm dX13_typeOfClass_6 rfl ?_
  refine sx_si (v := 6000) hm dX13_typeOfClass_7 (by decide) ?_
  refine mx_S.pu (pc2 := 11) (lv2 := [(3, .int u2.1), (0, .ref a0), (1, .int a1), (2, .int a2)]) (st2 := [.int a1, .int 6000]) hm dX13_typeOfClass_10 rfl ?_
  replace hf := xl_el hf; obtain ⟨v3, e_v3, hf⟩ := hf
  refine mx_S.pu (pc2 := 12) (lv2 := [(3, .int u2.1), (0, .ref a0), (1, .int a1), (2, .int a2)]) (st2 := [.int v3]) hm dX13_typeOfClass_11 (by rw [← e_v3]; rfl) ?_
  clear e_v3
  refine mx_S.pu (pc2 := 13) (lv2 := [(3, .int u2.1), (0, .ref a0), (1, .int a1), (2, .int a2)]) (st2 := [.ref a0, .int v3]) hm dX13_typeOfClass_12 rfl ?_
  replace hf := mx_sv_el hf; obtain ⟨v4, e_v4, hf⟩ := hf
  refine sx_get hm dX13_typeOfClass_13 rs_RX13_215 (xgr_el e_v4) ?_
  clear e_v4
  refine sx_si (v := 256) hm dX13_typeOfClass_16 (by decide) ?_
  refine mx_S.pu (pc2 := 20) (lv2 := [(3, .int u2.1), (0, .ref a0), (1, .int a1), (2, .int a2)]) (st2 := [.int a1, .int 256, .ref v4, .int v3]) hm dX13_typeOfClass_19 rfl ?_
  replace hf := xl_el hf; obtain ⟨v5, e_v5, hf⟩ := hf
  refine mx_S.pu (pc2 := 21) (lv2 := [(3, .int u2.1), (0, .ref a0), (1, .int a1), (2, .int a2)]) (st2 := [.int v5, .ref v4, .int v3]) hm dX13_typeOfClass_20 (by rw [← e_v5]; rfl) ?_
  clear e_v5
  refine mx_S.pu (pc2 := 22) (lv2 := [(3, .int u2.1), (0, .ref a0), (1, .int a1), (2, .int a2)]) (st2 := [.int u2.1, .int v5, .ref v4, .int v3]) hm dX13_typeOfClass_21 rfl ?_
  replace hf := xl_el hf; obtain ⟨v6, e_v6, hf⟩ := hf
  refine mx_S.pu (pc2 := 23) (lv2 := [(3, .int u2.1), (0, .ref a0), (1, .int a1), (2, .int a2)]) (st2 := [.int v6, .ref v4, .int v3]) hm dX13_typeOfClass_22 (by rw [← e_v6]; rfl) ?_
  clear e_v6
  replace hf := mx_sv_el hf; obtain ⟨v7, e_v7, hf⟩ := hf
  refine sx_ald hm dX13_typeOfClass_23 e_v7 ?_
  clear e_v7
  replace hf := xl_el hf; obtain ⟨v8, e_v8, hf⟩ := hf
  refine mx_S.pu (pc2 := 25) (lv2 := [(3, .int u2.1), (0, .ref a0), (1, .int a1), (2, .int a2)]) (st2 := [.int v8]) hm dX13_typeOfClass_24 (by rw [← e_v8]; rfl) ?_
  clear e_v8
  refine mx_S.pu (pc2 := 27) (lv2 := [(4, .int v8), (3, .int u2.1), (0, .ref a0), (1, .int a1), (2, .int a2)]) (st2 := []) hm dX13_typeOfClass_25 rfl ?_
  refine mx_S.pu (pc2 := 28) (lv2 := [(4, .int v8), (3, .int u2.1), (0, .ref a0), (1, .int a1), (2, .int a2)]) (st2 := [.ref a0]) hm dX13_typeOfClass_27 rfl ?_
  replace hf := mx_sv_el hf; obtain ⟨v9, e_v9, hf⟩ := hf
  refine sx_get hm dX13_typeOfClass_28 rs_RX13_209 (xgr_el e_v9) ?_
  clear e_v9
  refine mx_S.pu (pc2 := 33) (lv2 := [(4, .int v8), (3, .int u2.1), (0, .ref a0), (1, .int a1), (2, .int a2)]) (st2 := [.int v8, .ref v9]) hm dX13_typeOfClass_31 rfl ?_
  refine sx_ic (v := 2) hm dX13_typeOfClass_33 (by decide) ?_
  replace hf := xl_el hf; obtain ⟨v10, e_v10, hf⟩ := hf
  refine mx_S.pu (pc2 := 35) (lv2 := [(4, .int v8), (3, .int u2.1), (0, .ref a0), (1, .int a1), (2, .int a2)]) (st2 := [.int v10, .ref v9]) hm dX13_typeOfClass_34 (by rw [← e_v10]; rfl) ?_
  clear e_v10
  replace hf := mx_sv_el hf; obtain ⟨v11, e_v11, hf⟩ := hf
  refine sx_ald hm dX13_typeOfClass_35 e_v11 ?_
  clear e_v11
  refine sx_bi (v := 91) hm dX13_typeOfClass_36 (by decide) ?_
  rcases mx_if_el hf with ⟨c23, hf⟩ | ⟨c23, hf⟩
  · refine sb_ic_ne hm dX13_typeOfClass_38 (tgt := 50) rfl (fun _ => ?_) (fun z => absurd c23 z)
    refine sx_ic (v := 4) hm dX13_typeOfClass_50 (by decide) ?_
    refine sx_ic (v := 2) hm dX13_typeOfClass_51 (by decide) ?_
    refine mx_S.pu (pc2 := 53) (lv2 := [(4, .int v8), (3, .int u2.1), (0, .ref a0), (1, .int a1), (2, .int a2)]) (st2 := [.ref a0, .int 2, .int 4]) hm dX13_typeOfClass_52 rfl ?_
    refine mx_S.pu (pc2 := 55) (lv2 := [(4, .int v8), (3, .int u2.1), (0, .ref a0), (1, .int a1), (2, .int a2)]) (st2 := [.int v8, .ref a0, .int 2, .int 4]) hm dX13_typeOfClass_53 rfl ?_
    refine sx_ic (v := 2) hm dX13_typeOfClass_55 (by decide) ?_
    replace hf := xl_el hf; obtain ⟨v12, e_v12, hf⟩ := hf
    refine mx_S.pu (pc2 := 57) (lv2 := [(4, .int v8), (3, .int u2.1), (0, .ref a0), (1, .int a1), (2, .int a2)]) (st2 := [.int v12, .ref a0, .int 2, .int 4]) hm dX13_typeOfClass_56 (by rw [← e_v12]; rfl) ?_
    clear e_v12
    refine mx_S.pu (pc2 := 58) (lv2 := [(4, .int v8), (3, .int u2.1), (0, .ref a0), (1, .int a1), (2, .int a2)]) (st2 := [.ref a0, .int v12, .ref a0, .int 2, .int 4]) hm dX13_typeOfClass_57 rfl ?_
    replace hf := mx_sv_el hf; obtain ⟨v13, e_v13, hf⟩ := hf
    refine sx_get hm dX13_typeOfClass_58 rs_RX13_209 (xgr_el e_v13) ?_
    clear e_v13
    refine mx_S.pu (pc2 := 63) (lv2 := [(4, .int v8), (3, .int u2.1), (0, .ref a0), (1, .int a1), (2, .int a2)]) (st2 := [.int v8, .ref v13, .int v12, .ref a0, .int 2, .int 4]) hm dX13_typeOfClass_61 rfl ?_
    refine sx_ic (v := 1) hm dX13_typeOfClass_63 (by decide) ?_
    replace hf := xl_el hf; obtain ⟨v14, e_v14, hf⟩ := hf
    refine mx_S.pu (pc2 := 65) (lv2 := [(4, .int v8), (3, .int u2.1), (0, .ref a0), (1, .int a1), (2, .int a2)]) (st2 := [.int v14, .ref v13, .int v12, .ref a0, .int 2, .int 4]) hm dX13_typeOfClass_64 (by rw [← e_v14]; rfl) ?_
    clear e_v14
    replace hf := mx_sv_el hf; obtain ⟨v15, e_v15, hf⟩ := hf
    refine sx_ald hm dX13_typeOfClass_65 e_v15 ?_
    clear e_v15
    replace hf := mx_gd_el hf; obtain ⟨c16, hf⟩ := hf
    replace hf := mx_sv_el hf; obtain ⟨u17, e_u17, hf⟩ := hf
    refine sx_cv hm dX13_typeOfClass_66 rs_RX13_882 mt_X13_nameNumber [.int v12, .int v15] [.int 2, .int 4] (b := a0) (ci := 13) rfl rfl rfl c16 (Nat.le_of_ble_eq_true rfl) (Nat.le_of_ble_eq_true rfl) (by omega) (by omega) (f_X13_nameNumber_ok X (by omega) (by omega) nn a0 v12 v15 u2.2 e_u17) ?_
    clear e_u17
    show mx_S X F L 527 69 [(4, .int v8), (3, .int u2.1), (0, .ref a0), (1, .int a1), (2, .int a2)] [.int u17.1, .int 2, .int 4] u17.2 0 0 (some (.int r.1), r.2, 0, 0)
    replace hf := xl_el hf; obtain ⟨v18, e_v18, hf⟩ := hf
    refine mx_S.pu (pc2 := 70) (lv2 := [(4, .int v8), (3, .int u2.1), (0, .ref a0), (1, .int a1), (2, .int a2)]) (st2 := [.int v18, .int 4]) hm dX13_typeOfClass_69 (by rw [← e_v18]; rfl) ?_
    clear e_v18
    replace hf := xl_el hf; obtain ⟨v19, e_v19, hf⟩ := hf
    refine mx_S.pu (pc2 := 71) (lv2 := [(4, .int v8), (3, .int u2.1), (0, .ref a0), (1, .int a1), (2, .int a2)]) (st2 := [.int v19]) hm dX13_typeOfClass_70 (by rw [← e_v19]; rfl) ?_
    clear e_v19
    cases hf
    exact sx_ire hm dX13_typeOfClass_71 rfl rfl
  · refine sb_ic_ne hm dX13_typeOfClass_38 (tgt := 50) rfl (fun z => absurd z c23) (fun _ => ?_)
    refine mx_S.pu (pc2 := 42) (lv2 := [(4, .int v8), (3, .int u2.1), (0, .ref a0), (1, .int a1), (2, .int a2)]) (st2 := [.ref a0]) hm dX13_typeOfClass_41 rfl ?_
    refine mx_S.pu (pc2 := 44) (lv2 := [(4, .int v8), (3, .int u2.1), (0, .ref a0), (1, .int a1), (2, .int a2)]) (st2 := [.int v8, .ref a0]) hm dX13_typeOfClass_42 rfl ?_
    refine sx_ic (v := 2) hm dX13_typeOfClass_44 (by decide) ?_
    replace hf := xl_el hf; obtain ⟨v20, e_v20, hf⟩ := hf
    refine mx_S.pu (pc2 := 46) (lv2 := [(4, .int v8), (3, .int u2.1), (0, .ref a0), (1, .int a1), (2, .int a2)]) (st2 := [.int v20, .ref a0]) hm dX13_typeOfClass_45 (by rw [← e_v20]; rfl) ?_
    clear e_v20
    replace hf := mx_gd_el hf; obtain ⟨c21, hf⟩ := hf
    replace hf := mx_sv_el hf; obtain ⟨u22, e_u22, hf⟩ := hf
    refine sx_cv hm dX13_typeOfClass_46 rs_RX13_885 mt_X13_typeAt [.int v20] [] (b := a0) (ci := 13) rfl rfl rfl c21 (Nat.le_of_ble_eq_true rfl) (Nat.le_of_ble_eq_true rfl) (by omega) (by omega) (f_X13_typeAt_ok X (by omega) (by omega) nn a0 v20 u2.2 e_u22) ?_
    clear e_u22
    show mx_S X F L 527 49 [(4, .int v8), (3, .int u2.1), (0, .ref a0), (1, .int a1), (2, .int a2)] [.int u22.1] u22.2 0 0 (some (.int r.1), r.2, 0, 0)
    cases hf
    exact sx_ire hm dX13_typeOfClass_49 rfl rfl
set_option maxHeartbeats 4000000 in
set_option maxRecDepth 20000 in
theorem f_X13_framed_ok (X : Nat × (Nat → Int32)) {F L : Nat} (hF : 9 ≤ F) (hL : 211 ≤ L) (nn : Nat) (a0 : Nat) (a1 : Int32) (h : mx_H) {r : (Int32 × mx_H)} (hf : f_X13_framed nn a0 a1 h = some r) : mx_R X F L 549 [.ref a0, .int a1] h (some (.int r.1), r.2, 0, 0) := by
  have hm : mx_mt 549 = some (yX13_framed, cX13_framed, 2, (some .int)) := mt_X13_framed
  show mx_S X F L 549 0 [(0, .ref a0), (1, .int a1)] [] h 0 0 (some (.int r.1), r.2, 0, 0)
  unfold f_X13_framed at hf
  refine mx_S.pu (pc2 := 1) (lv2 := [(0, .ref a0), (1, .int a1)]) (st2 := [.ref a0]) hm dX13_framed_0 rfl ?_
  refine mx_S.pu (pc2 := 2) (lv2 := [(0, .ref a0), (1, .int a1)]) (st2 := [.ref a0, .ref a0]) hm dX13_framed_1 rfl ?_
  replace hf := mx_sv_el hf; obtain ⟨v1, e_v1, hf⟩ := hf
  refine sx_get hm dX13_framed_2 rs_RX13_932 (xgi_el e_v1) ?_
  clear e_v1
  refine mx_S.pu (pc2 := 6) (lv2 := [(0, .ref a0), (1, .int a1)]) (st2 := [.int a1, .int v1, .ref a0]) hm dX13_framed_5 rfl ?_
  replace hf := mx_gd_el hf; obtain ⟨c2, hf⟩ := hf
  replace hf := mx_sv_el hf; obtain ⟨u3, e_u3, hf⟩ := hf
  refine sx_cv hm dX13_framed_6 rs_RX13_864 mt_X13_byteAt [.int v1, .int a1] [] (b := a0) (ci := 13) rfl rfl rfl c2 (Nat.le_of_ble_eq_true rfl) (Nat.le_of_ble_eq_true rfl) (by omega) (by omega) (f_X13_byteAt_ok X (by omega) (by omega) nn a0 v1 a1 h e_u3) ?_
  clear e_u3
  show mx_S X F L 549 9 [(0, .ref a0), (1, .int a1)] [.int u3.1] u3.2 0 0 (some (.int r.1), r.2, 0, 0)
  refine sx_ic (v := 3) hm dX13_framed_9 (by decide) ?_
  rcases mx_if_el hf with ⟨c14, hf⟩ | ⟨c14, hf⟩
  · refine sb_ic_ge hm dX13_framed_10 (tgt := 25) rfl (fun _ => ?_) (fun z => absurd c14 z)
    refine mx_S.pu (pc2 := 26) (lv2 := [(0, .ref a0), (1, .int a1)]) (st2 := [.ref a0]) hm dX13_framed_25 rfl ?_
    refine mx_S.pu (pc2 := 27) (lv2 := [(0, .ref a0), (1, .int a1)]) (st2 := [.ref a0, .ref a0]) hm dX13_framed_26 rfl ?_
    replace hf := mx_sv_el hf; obtain ⟨v4, e_v4, hf⟩ := hf
    refine sx_get hm dX13_framed_27 rs_RX13_932 (xgi_el e_v4) ?_
    clear e_v4
    refine mx_S.pu (pc2 := 31) (lv2 := [(0, .ref a0), (1, .int a1)]) (st2 := [.ref a0, .int v4, .ref a0]) hm dX13_framed_30 rfl ?_
    refine mx_S.pu (pc2 := 32) (lv2 := [(0, .ref a0), (1, .int a1)]) (st2 := [.ref a0, .ref a0, .int v4, .ref a0]) hm dX13_framed_31 rfl ?_
    replace hf := mx_sv_el hf; obtain ⟨v5, e_v5, hf⟩ := hf
    refine sx_get hm dX13_framed_32 rs_RX13_932 (xgi_el e_v5) ?_
    clear e_v5
    refine mx_S.pu (pc2 := 36) (lv2 := [(0, .ref a0), (1, .int a1)]) (st2 := [.int a1, .int v5, .ref a0, .int v4, .ref a0]) hm dX13_framed_35 rfl ?_
    refine sx_ic (v := 1) hm dX13_framed_36 (by decide) ?_
    replace hf := xl_el hf; obtain ⟨v6, e_v6, hf⟩ := hf
    refine mx_S.pu (pc2 := 38) (lv2 := [(0, .ref a0), (1, .int a1)]) (st2 := [.int v6, .int v5, .ref a0, .int v4, .ref a0]) hm dX13_framed_37 (by rw [← e_v6]; rfl) ?_
    clear e_v6
    replace hf := mx_gd_el hf; obtain ⟨c7, hf⟩ := hf
    replace hf := mx_sv_el hf; obtain ⟨u8, e_u8, hf⟩ := hf
    refine sx_cv hm dX13_framed_38 rs_RX13_864 mt_X13_byteAt [.int v5, .int v6] [.int v4, .ref a0] (b := a0) (ci := 13) rfl rfl rfl c7 (Nat.le_of_ble_eq_true rfl) (Nat.le_of_ble_eq_true rfl) (by omega) (by omega) (f_X13_byteAt_ok X (by omega) (by omega) nn a0 v5 v6 u3.2 e_u8) ?_
    clear e_u8
    show mx_S X F L 549 41 [(0, .ref a0), (1, .int a1)] [.int u8.1, .int v4, .ref a0] u8.2 0 0 (some (.int r.1), r.2, 0, 0)
    replace hf := mx_gd_el hf; obtain ⟨c9, hf⟩ := hf
    replace hf := mx_sv_el hf; obtain ⟨u10, e_u10, hf⟩ := hf
    refine sx_cv hm dX13_framed_41 rs_RX13_952 mt_X13_typeOfClass [.int v4, .int u8.1] [] (b := a0) (ci := 13) rfl rfl rfl c9 (Nat.le_of_ble_eq_true rfl) (Nat.le_of_ble_eq_true rfl) (by omega) (by omega) (f_X13_typeOfClass_ok X (by omega) (by omega) nn a0 v4 u8.1 u8.2 e_u10) ?_
    clear e_u10
    show mx_S X F L 549 44 [(0, .ref a0), (1, .int a1)] [.int u10.1] u10.2 0 0 (some (.int r.1), r.2, 0, 0)
    cases hf
    exact sx_ire hm dX13_framed_44 rfl rfl
  · refine sb_ic_ge hm dX13_framed_10 (tgt := 25) rfl (fun z => absurd z c14) (fun _ => ?_)
    refine mx_S.pu (pc2 := 14) (lv2 := [(0, .ref a0), (1, .int a1)]) (st2 := [.ref a0]) hm dX13_framed_13 rfl ?_
    refine mx_S.pu (pc2 := 15) (lv2 := [(0, .ref a0), (1, .int a1)]) (st2 := [.ref a0, .ref a0]) hm dX13_framed_14 rfl ?_
    replace hf := mx_sv_el hf; obtain ⟨v11, e_v11, hf⟩ := hf
    refine sx_get hm dX13_framed_15 rs_RX13_932 (xgi_el e_v11) ?_
    clear e_v11
    refine mx_S.pu (pc2 := 19) (lv2 := [(0, .ref a0), (1, .int a1)]) (st2 := [.int a1, .int v11, .ref a0]) hm dX13_framed_18 rfl ?_
    replace hf := mx_gd_el hf; obtain ⟨c12, hf⟩ := hf
    replace hf := mx_sv_el hf; obtain ⟨u13, e_u13, hf⟩ := hf
    refine sx_cv hm dX13_framed_19 rs_RX13_864 mt_X13_byteAt [.int v11, .int a1] [] (b := a0) (ci := 13) rfl rfl rfl c12 (Nat.le_of_ble_eq_true rfl) (Nat.le_of_ble_eq_true rfl) (by omega) (by omega) (f_X13_byteAt_ok X (by omega) (by omega) nn a0 v11 a1 u3.2 e_u13) ?_
    clear e_u13
    show mx_S X F L 549 22 [(0, .ref a0), (1, .int a1)] [.int u13.1] u13.2 0 0 (some (.int r.1), r.2, 0, 0)
    refine mx_S.pu (pc2 := 44) (lv2 := [(0, .ref a0), (1, .int a1)]) (st2 := [.int u13.1]) hm dX13_framed_22 rfl ?_
    cases hf
    exact sx_ire hm dX13_framed_44 rfl rfl
set_option maxHeartbeats 4000000 in
set_option maxRecDepth 20000 in
theorem j_X13_typesEnd_42_ok (X : Nat × (Nat → Int32)) {F L : Nat} (hF : 1 ≤ F) (hL : 22 ≤ L) (nn : Nat) {kk_17 : Nat → Int32 → Int32 → Int32 → mx_H → Option (Int32 × mx_H)} (hk_17 : ∀ (l0 : Nat) (l2 : Int32) (l3 : Int32) (l4 : Int32) (h : mx_H) (r : (Int32 × mx_H)), kk_17 l0 l2 l3 l4 h = some r → mx_S X F L 546 17 [(0, .ref l0), (2, .int l2), (3, .int l3), (4, .int l4)] [] h 0 0 (some (.int r.1), r.2, 0, 0)) (l0 : Nat) (l2 : Int32) (l4 : Int32) (s0 : Int32) (s1 : Int32) (h : mx_H) {r : (Int32 × mx_H)} (hf : j_X13_typesEnd_42 nn kk_17 l0 l2 l4 s0 s1 h = some r) : mx_S X F L 546 42 [(0, .ref l0), (2, .int l2), (4, .int l4)] [.int s0, .int s1] h 0 0 (some (.int r.1), r.2, 0, 0) := by
  have hm : mx_mt 546 = some (yX13_typesEnd, cX13_typesEnd, 5, (some .int)) := mt_X13_typesEnd
  unfold j_X13_typesEnd_42 at hf
  replace hf := xl_el hf; obtain ⟨v1, e_v1, hf⟩ := hf
  refine mx_S.pu (pc2 := 43) (lv2 := [(0, .ref l0), (2, .int l2), (4, .int l4)]) (st2 := [.int v1]) hm dX13_typesEnd_42 (by rw [← e_v1]; rfl) ?_
  clear e_v1
  refine mx_S.pu (pc2 := 44) (lv2 := [(3, .int v1), (0, .ref l0), (2, .int l2), (4, .int l4)]) (st2 := []) hm dX13_typesEnd_43 rfl ?_
  replace hf := xl_el hf; obtain ⟨v2, e_v2, hf⟩ := hf
  refine mx_S.pu (pc2 := 47) (lv2 := [(4, .int v2), (3, .int v1), (0, .ref l0), (2, .int l2)]) (st2 := []) hm dX13_typesEnd_44 (by rw [← e_v2]; rfl) ?_
  clear e_v2
  refine mx_S.pu (pc2 := 17) (lv2 := [(4, .int v2), (3, .int v1), (0, .ref l0), (2, .int l2)]) (st2 := []) hm dX13_typesEnd_47 rfl ?_
  refine mx_S.ext [(0, .ref l0), (2, .int l2), (3, .int v1), (4, .int v2)] (mx_sub_pos [2, 3, 1, 0] rfl (show ([4, 3, 0, 2] : List Nat).Nodup by decide)) ?_
  exact hk_17 l0 l2 v1 v2 h _ hf
set_option maxHeartbeats 4000000 in
set_option maxRecDepth 20000 in
theorem w_X13_typesEnd_17_ok (X : Nat × (Nat → Int32)) {F L : Nat} (hF : 1 ≤ F) (hL : 22 ≤ L) (nn : Nat) : ∀ (k : Nat) (l0 : Nat) (l2 : Int32) (l3 : Int32) (l4 : Int32) (h : mx_H) (r : (Int32 × mx_H)), w_X13_typesEnd_17 nn k l0 l2 l3 l4 h = some r → mx_S X F L 546 17 [(0, .ref l0), (2, .int l2), (3, .int l3), (4, .int l4)] [] h 0 0 (some (.int r.1), r.2, 0, 0) := by
  have hm : mx_mt 546 = some (yX13_typesEnd, cX13_typesEnd, 5, (some .int)) := mt_X13_typesEnd
  intro k
  induction k with
  | zero => intro l0 l2 l3 l4 h r hf; cases hf
  | succ k ih =>
    intro l0 l2 l3 l4 h r hf
    unfold w_X13_typesEnd_17 at hf
    refine mx_S.pu (pc2 := 19) (lv2 := [(0, .ref l0), (2, .int l2), (3, .int l3), (4, .int l4)]) (st2 := [.int l4]) hm dX13_typesEnd_17 rfl ?_
    refine mx_S.pu (pc2 := 20) (lv2 := [(0, .ref l0), (2, .int l2), (3, .int l3), (4, .int l4)]) (st2 := [.int l2, .int l4]) hm dX13_typesEnd_19 rfl ?_
    rcases mx_if_el hf with ⟨c7, hf⟩ | ⟨c7, hf⟩
    · refine sb_ic_ge hm dX13_typesEnd_20 (tgt := 50) rfl (fun _ => ?_) (fun z => absurd c7 z)
      refine mx_S.pu (pc2 := 51) (lv2 := [(0, .ref l0), (2, .int l2), (3, .int l3), (4, .int l4)]) (st2 := [.int l3]) hm dX13_typesEnd_50 rfl ?_
      cases hf
      exact sx_ire hm dX13_typesEnd_51 rfl rfl
    · refine sb_ic_ge hm dX13_typesEnd_20 (tgt := 50) rfl (fun z => absurd z c7) (fun _ => ?_)
      refine mx_S.pu (pc2 := 24) (lv2 := [(0, .ref l0), (2, .int l2), (3, .int l3), (4, .int l4)]) (st2 := [.int l3]) hm dX13_typesEnd_23 rfl ?_
      refine mx_S.pu (pc2 := 25) (lv2 := [(0, .ref l0), (2, .int l2), (3, .int l3), (4, .int l4)]) (st2 := [.ref l0, .int l3]) hm dX13_typesEnd_24 rfl ?_
      refine mx_S.pu (pc2 := 26) (lv2 := [(0, .ref l0), (2, .int l2), (3, .int l3), (4, .int l4)]) (st2 := [.ref l0, .ref l0, .int l3]) hm dX13_typesEnd_25 rfl ?_
      replace hf := mx_sv_el hf; obtain ⟨v3, e_v3, hf⟩ := hf
      refine sx_get hm dX13_typesEnd_26 rs_RX13_932 (xgi_el e_v3) ?_
      clear e_v3
      refine mx_S.pu (pc2 := 30) (lv2 := [(0, .ref l0), (2, .int l2), (3, .int l3), (4, .int l4)]) (st2 := [.int l3, .int v3, .ref l0, .int l3]) hm dX13_typesEnd_29 rfl ?_
      replace hf := mx_gd_el hf; obtain ⟨c4, hf⟩ := hf
      replace hf := mx_sv_el hf; obtain ⟨u5, e_u5, hf⟩ := hf
      refine sx_cv hm dX13_typesEnd_30 rs_RX13_864 mt_X13_byteAt [.int v3, .int l3] [.int l3] (b := l0) (ci := 13) rfl rfl rfl c4 (Nat.le_of_ble_eq_true rfl) (Nat.le_of_ble_eq_true rfl) (by omega) (by omega) (f_X13_byteAt_ok X (by omega) (by omega) nn l0 v3 l3 h e_u5) ?_
      clear e_u5
      show mx_S X F L 546 33 [(0, .ref l0), (2, .int l2), (3, .int l3), (4, .int l4)] [.int u5.1, .int l3] u5.2 0 0 (some (.int r.1), r.2, 0, 0)
      refine sx_ic (v := 3) hm dX13_typesEnd_33 (by decide) ?_
      rcases mx_if_el hf with ⟨c6, hf⟩ | ⟨c6, hf⟩
      · refine sb_ic_ne hm dX13_typesEnd_34 (tgt := 41) rfl (fun _ => ?_) (fun z => absurd c6 z)
        refine sx_ic (v := 1) hm dX13_typesEnd_41 (by decide) ?_
        refine mx_S.ext [(0, .ref l0), (2, .int l2), (4, .int l4)] (mx_sub_pos [0, 1, 3] rfl (show ([0, 2, 3, 4] : List Nat).Nodup by decide)) ?_
        exact j_X13_typesEnd_42_ok X hF hL nn ih l0 l2 l4 1 l3 u5.2 hf
      · refine sb_ic_ne hm dX13_typesEnd_34 (tgt := 41) rfl (fun z => absurd z c6) (fun _ => ?_)
        refine sx_ic (v := 2) hm dX13_typesEnd_37 (by decide) ?_
        refine mx_S.pu (pc2 := 42) (lv2 := [(0, .ref l0), (2, .int l2), (3, .int l3), (4, .int l4)]) (st2 := [.int 2, .int l3]) hm dX13_typesEnd_38 rfl ?_
        refine mx_S.ext [(0, .ref l0), (2, .int l2), (4, .int l4)] (mx_sub_pos [0, 1, 3] rfl (show ([0, 2, 3, 4] : List Nat).Nodup by decide)) ?_
        exact j_X13_typesEnd_42_ok X hF hL nn ih l0 l2 l4 2 l3 u5.2 hf
set_option maxHeartbeats 4000000 in
set_option maxRecDepth 20000 in
theorem f_X13_typesEnd_ok (X : Nat × (Nat → Int32)) {F L : Nat} (hF : 1 ≤ F) (hL : 22 ≤ L) (nn : Nat) (a0 : Nat) (a1 : Int32) (h : mx_H) {r : (Int32 × mx_H)} (hf : f_X13_typesEnd nn a0 a1 h = some r) : mx_R X F L 546 [.ref a0, .int a1] h (some (.int r.1), r.2, 0, 0) := by
  have hm : mx_mt 546 = some (yX13_typesEnd, cX13_typesEnd, 5, (some .int)) := mt_X13_typesEnd
  show mx_S X F L 546 0 [(0, .ref a0), (1, .int a1)] [] h 0 0 (some (.int r.1), r.2, 0, 0)
  unfold f_X13_typesEnd at hf
  refine mx_S.pu (pc2 := 1) (lv2 := [(0, .ref a0), (1, .int a1)]) (st2 := [.ref a0]) hm dX13_typesEnd_0 rfl ?_
  refine mx_S.pu (pc2 := 2) (lv2 := [(0, .ref a0), (1, .int a1)]) (st2 := [.ref a0, .ref a0]) hm dX13_typesEnd_1 rfl ?_
  replace hf := mx_sv_el hf; obtain ⟨v8, e_v8, hf⟩ := hf
  refine sx_get hm dX13_typesEnd_2 rs_RX13_932 (xgi_el e_v8) ?_
  clear e_v8
  refine mx_S.pu (pc2 := 6) (lv2 := [(0, .ref a0), (1, .int a1)]) (st2 := [.int a1, .int v8, .ref a0]) hm dX13_typesEnd_5 rfl ?_
  replace hf := mx_gd_el hf; obtain ⟨c9, hf⟩ := hf
  replace hf := mx_sv_el hf; obtain ⟨u10, e_u10, hf⟩ := hf
  refine sx_cv hm dX13_typesEnd_6 rs_RX13_864 mt_X13_byteAt [.int v8, .int a1] [] (b := a0) (ci := 13) rfl rfl rfl c9 (Nat.le_of_ble_eq_true rfl) (Nat.le_of_ble_eq_true rfl) (by omega) (by omega) (f_X13_byteAt_ok X (by omega) (by omega) nn a0 v8 a1 h e_u10) ?_
  clear e_u10
  show mx_S X F L 546 9 [(0, .ref a0), (1, .int a1)] [.int u10.1] u10.2 0 0 (some (.int r.1), r.2, 0, 0)
  refine mx_S.pu (pc2 := 10) (lv2 := [(2, .int u10.1), (0, .ref a0), (1, .int a1)]) (st2 := []) hm dX13_typesEnd_9 rfl ?_
  refine mx_S.pu (pc2 := 11) (lv2 := [(2, .int u10.1), (0, .ref a0), (1, .int a1)]) (st2 := [.int a1]) hm dX13_typesEnd_10 rfl ?_
  refine sx_ic (v := 1) hm dX13_typesEnd_11 (by decide) ?_
  replace hf := xl_el hf; obtain ⟨v11, e_v11, hf⟩ := hf
  refine mx_S.pu (pc2 := 13) (lv2 := [(2, .int u10.1), (0, .ref a0), (1, .int a1)]) (st2 := [.int v11]) hm dX13_typesEnd_12 (by rw [← e_v11]; rfl) ?_
  clear e_v11
  refine mx_S.pu (pc2 := 14) (lv2 := [(3, .int v11), (2, .int u10.1), (0, .ref a0), (1, .int a1)]) (st2 := []) hm dX13_typesEnd_13 rfl ?_
  refine sx_ic (v := 0) hm dX13_typesEnd_14 (by decide) ?_
  refine mx_S.pu (pc2 := 17) (lv2 := [(4, .int 0), (3, .int v11), (2, .int u10.1), (0, .ref a0), (1, .int a1)]) (st2 := []) hm dX13_typesEnd_15 rfl ?_
  refine mx_S.ext [(0, .ref a0), (2, .int u10.1), (3, .int v11), (4, .int 0)] (mx_sub_pos [3, 2, 1, 0] rfl (show ([4, 3, 2, 0, 1] : List Nat).Nodup by decide)) ?_
  exact w_X13_typesEnd_17_ok X hF hL nn nn a0 u10.1 v11 0 u10.2 _ hf
set_option maxHeartbeats 4000000 in
set_option maxRecDepth 20000 in
theorem j_X13_becomes_151_ok (X : Nat × (Nat → Int32)) {F L : Nat} (hF : 10 ≤ F) (hL : 232 ≤ L) (nn : Nat) {kk_114 : Nat → Int32 → Int32 → Int32 → mx_H → Option mx_H} (hk_114 : ∀ (l0 : Nat) (l2 : Int32) (l3 : Int32) (l4 : Int32) (h : mx_H) (r : mx_H), kk_114 l0 l2 l3 l4 h = some r → mx_S X F L 552 114 [(0, .ref l0), (2, .int l2), (3, .int l3), (4, .int l4)] [] h 0 0 (none, r, 0, 0)) (l0 : Nat) (l3 : Int32) (l4 : Int32) (s0 : Int32) (s1 : Int32) (h : mx_H) {r : mx_H} (hf : j_X13_becomes_151 nn kk_114 l0 l3 l4 s0 s1 h = some r) : mx_S X F L 552 151 [(0, .ref l0), (3, .int l3), (4, .int l4)] [.int s0, .int s1] h 0 0 (none, r, 0, 0) := by
  have hm : mx_mt 552 = some (yX13_becomes, cX13_becomes, 5, none) := mt_X13_becomes
  unfold j_X13_becomes_151 at hf
  replace hf := xl_el hf; obtain ⟨v1, e_v1, hf⟩ := hf
  refine mx_S.pu (pc2 := 152) (lv2 := [(0, .ref l0), (3, .int l3), (4, .int l4)]) (st2 := [.int v1]) hm dX13_becomes_151 (by rw [← e_v1]; rfl) ?_
  clear e_v1
  refine mx_S.pu (pc2 := 153) (lv2 := [(2, .int v1), (0, .ref l0), (3, .int l3), (4, .int l4)]) (st2 := []) hm dX13_becomes_152 rfl ?_
  replace hf := xl_el hf; obtain ⟨v2, e_v2, hf⟩ := hf
  refine mx_S.pu (pc2 := 156) (lv2 := [(4, .int v2), (2, .int v1), (0, .ref l0), (3, .int l3)]) (st2 := []) hm dX13_becomes_153 (by rw [← e_v2]; rfl) ?_
  clear e_v2
  refine mx_S.pu (pc2 := 114) (lv2 := [(4, .int v2), (2, .int v1), (0, .ref l0), (3, .int l3)]) (st2 := []) hm dX13_becomes_156 rfl ?_
  refine mx_S.ext [(0, .ref l0), (2, .int v1), (3, .int l3), (4, .int v2)] (mx_sub_pos [2, 1, 3, 0] rfl (show ([4, 2, 0, 3] : List Nat).Nodup by decide)) ?_
  exact hk_114 l0 v1 l3 v2 h _ hf
set_option maxHeartbeats 4000000 in
set_option maxRecDepth 20000 in
theorem w_X13_becomes_114_ok (X : Nat × (Nat → Int32)) {F L : Nat} (hF : 10 ≤ F) (hL : 232 ≤ L) (nn : Nat) : ∀ (k : Nat) (l0 : Nat) (l2 : Int32) (l3 : Int32) (l4 : Int32) (h : mx_H) (r : mx_H), w_X13_becomes_114 nn k l0 l2 l3 l4 h = some r → mx_S X F L 552 114 [(0, .ref l0), (2, .int l2), (3, .int l3), (4, .int l4)] [] h 0 0 (none, r, 0, 0) := by
  have hm : mx_mt 552 = some (yX13_becomes, cX13_becomes, 5, none) := mt_X13_becomes
  intro k
  induction k with
  | zero => intro l0 l2 l3 l4 h r hf; cases hf
  | succ k ih =>
    intro l0 l2 l3 l4 h r hf
    unfold w_X13_becomes_114 at hf
    refine mx_S.pu (pc2 := 116) (lv2 := [(0, .ref l0), (2, .int l2), (3, .int l3), (4, .int l4)]) (st2 := [.int l4]) hm dX13_becomes_114 rfl ?_
    refine mx_S.pu (pc2 := 117) (lv2 := [(0, .ref l0), (2, .int l2), (3, .int l3), (4, .int l4)]) (st2 := [.int l3, .int l4]) hm dX13_becomes_116 rfl ?_
    rcases mx_if_el hf with ⟨c11, hf⟩ | ⟨c11, hf⟩
    · refine sb_ic_ge hm dX13_becomes_117 (tgt := 159) rfl (fun _ => ?_) (fun z => absurd c11 z)
      cases hf
      exact sx_ret hm dX13_becomes_159 rfl
    · refine sb_ic_ge hm dX13_becomes_117 (tgt := 159) rfl (fun z => absurd z c11) (fun _ => ?_)
      refine mx_S.pu (pc2 := 121) (lv2 := [(0, .ref l0), (2, .int l2), (3, .int l3), (4, .int l4)]) (st2 := [.ref l0]) hm dX13_becomes_120 rfl ?_
      replace hf := mx_sv_el hf; obtain ⟨v3, e_v3, hf⟩ := hf
      refine sx_get hm dX13_becomes_121 rs_RX13_273 (xgr_el e_v3) ?_
      clear e_v3
      refine mx_S.pu (pc2 := 126) (lv2 := [(0, .ref l0), (2, .int l2), (3, .int l3), (4, .int l4)]) (st2 := [.int l4, .ref v3]) hm dX13_becomes_124 rfl ?_
      refine mx_S.pu (pc2 := 127) (lv2 := [(0, .ref l0), (2, .int l2), (3, .int l3), (4, .int l4)]) (st2 := [.ref l0, .int l4, .ref v3]) hm dX13_becomes_126 rfl ?_
      refine mx_S.pu (pc2 := 128) (lv2 := [(0, .ref l0), (2, .int l2), (3, .int l3), (4, .int l4)]) (st2 := [.int l2, .ref l0, .int l4, .ref v3]) hm dX13_becomes_127 rfl ?_
      replace hf := mx_gd_el hf; obtain ⟨c4, hf⟩ := hf
      replace hf := mx_sv_el hf; obtain ⟨u5, e_u5, hf⟩ := hf
      refine sx_cv hm dX13_becomes_128 rs_RX13_955 mt_X13_framed [.int l2] [.int l4, .ref v3] (b := l0) (ci := 13) rfl rfl rfl c4 (Nat.le_of_ble_eq_true rfl) (Nat.le_of_ble_eq_true rfl) (by omega) (by omega) (f_X13_framed_ok X (by omega) (by omega) nn l0 l2 h e_u5) ?_
      clear e_u5
      show mx_S X F L 552 131 [(0, .ref l0), (2, .int l2), (3, .int l3), (4, .int l4)] [.int u5.1, .int l4, .ref v3] u5.2 0 0 (none, r, 0, 0)
      replace hf := mx_sv_el hf; obtain ⟨h6, e_h6, hf⟩ := hf
      refine sx_ast hm dX13_becomes_131 e_h6 ?_
      clear e_h6
      refine mx_S.pu (pc2 := 133) (lv2 := [(0, .ref l0), (2, .int l2), (3, .int l3), (4, .int l4)]) (st2 := [.int l2]) hm dX13_becomes_132 rfl ?_
      refine mx_S.pu (pc2 := 134) (lv2 := [(0, .ref l0), (2, .int l2), (3, .int l3), (4, .int l4)]) (st2 := [.ref l0, .int l2]) hm dX13_becomes_133 rfl ?_
      refine mx_S.pu (pc2 := 135) (lv2 := [(0, .ref l0), (2, .int l2), (3, .int l3), (4, .int l4)]) (st2 := [.ref l0, .ref l0, .int l2]) hm dX13_becomes_134 rfl ?_
      replace hf := mx_sv_el hf; obtain ⟨v7, e_v7, hf⟩ := hf
      refine sx_get hm dX13_becomes_135 rs_RX13_932 (xgi_el e_v7) ?_
      clear e_v7
      refine mx_S.pu (pc2 := 139) (lv2 := [(0, .ref l0), (2, .int l2), (3, .int l3), (4, .int l4)]) (st2 := [.int l2, .int v7, .ref l0, .int l2]) hm dX13_becomes_138 rfl ?_
      replace hf := mx_gd_el hf; obtain ⟨c8, hf⟩ := hf
      replace hf := mx_sv_el hf; obtain ⟨u9, e_u9, hf⟩ := hf
      refine sx_cv hm dX13_becomes_139 rs_RX13_864 mt_X13_byteAt [.int v7, .int l2] [.int l2] (b := l0) (ci := 13) rfl rfl rfl c8 (Nat.le_of_ble_eq_true rfl) (Nat.le_of_ble_eq_true rfl) (by omega) (by omega) (f_X13_byteAt_ok X (by omega) (by omega) nn l0 v7 l2 h6 e_u9) ?_
      clear e_u9
      show mx_S X F L 552 142 [(0, .ref l0), (2, .int l2), (3, .int l3), (4, .int l4)] [.int u9.1, .int l2] u9.2 0 0 (none, r, 0, 0)
      refine sx_ic (v := 3) hm dX13_becomes_142 (by decide) ?_
      rcases mx_if_el hf with ⟨c10, hf⟩ | ⟨c10, hf⟩
      · refine sb_ic_ne hm dX13_becomes_143 (tgt := 150) rfl (fun _ => ?_) (fun z => absurd c10 z)
        refine sx_ic (v := 1) hm dX13_becomes_150 (by decide) ?_
        refine mx_S.ext [(0, .ref l0), (3, .int l3), (4, .int l4)] (mx_sub_pos [0, 2, 3] rfl (show ([0, 2, 3, 4] : List Nat).Nodup by decide)) ?_
        exact j_X13_becomes_151_ok X hF hL nn ih l0 l3 l4 1 l2 u9.2 hf
      · refine sb_ic_ne hm dX13_becomes_143 (tgt := 150) rfl (fun z => absurd z c10) (fun _ => ?_)
        refine sx_ic (v := 2) hm dX13_becomes_146 (by decide) ?_
        refine mx_S.pu (pc2 := 151) (lv2 := [(0, .ref l0), (2, .int l2), (3, .int l3), (4, .int l4)]) (st2 := [.int 2, .int l2]) hm dX13_becomes_147 rfl ?_
        refine mx_S.ext [(0, .ref l0), (3, .int l3), (4, .int l4)] (mx_sub_pos [0, 2, 3] rfl (show ([0, 2, 3, 4] : List Nat).Nodup by decide)) ?_
        exact j_X13_becomes_151_ok X hF hL nn ih l0 l3 l4 2 l2 u9.2 hf
set_option maxHeartbeats 4000000 in
set_option maxRecDepth 20000 in
theorem j_X13_becomes_77_ok (X : Nat × (Nat → Int32)) {F L : Nat} (hF : 10 ≤ F) (hL : 232 ≤ L) (nn : Nat) {kk_20 : Nat → Int32 → Int32 → Int32 → Int32 → mx_H → Option mx_H} (hk_20 : ∀ (l0 : Nat) (l1 : Int32) (l2 : Int32) (l3 : Int32) (l4 : Int32) (h : mx_H) (r : mx_H), kk_20 l0 l1 l2 l3 l4 h = some r → mx_S X F L 552 20 [(0, .ref l0), (1, .int l1), (2, .int l2), (3, .int l3), (4, .int l4)] [] h 0 0 (none, r, 0, 0)) (l0 : Nat) (l1 : Int32) (l3 : Int32) (l4 : Int32) (s0 : Int32) (s1 : Int32) (h : mx_H) {r : mx_H} (hf : j_X13_becomes_77 nn kk_20 l0 l1 l3 l4 s0 s1 h = some r) : mx_S X F L 552 77 [(0, .ref l0), (1, .int l1), (3, .int l3), (4, .int l4)] [.int s0, .int s1] h 0 0 (none, r, 0, 0) := by
  have hm : mx_mt 552 = some (yX13_becomes, cX13_becomes, 5, none) := mt_X13_becomes
  unfold j_X13_becomes_77 at hf
  replace hf := xl_el hf; obtain ⟨v12, e_v12, hf⟩ := hf
  refine mx_S.pu (pc2 := 78) (lv2 := [(0, .ref l0), (1, .int l1), (3, .int l3), (4, .int l4)]) (st2 := [.int v12]) hm dX13_becomes_77 (by rw [← e_v12]; rfl) ?_
  clear e_v12
  refine mx_S.pu (pc2 := 79) (lv2 := [(2, .int v12), (0, .ref l0), (1, .int l1), (3, .int l3), (4, .int l4)]) (st2 := []) hm dX13_becomes_78 rfl ?_
  replace hf := xl_el hf; obtain ⟨v13, e_v13, hf⟩ := hf
  refine mx_S.pu (pc2 := 82) (lv2 := [(4, .int v13), (2, .int v12), (0, .ref l0), (1, .int l1), (3, .int l3)]) (st2 := []) hm dX13_becomes_79 (by rw [← e_v13]; rfl) ?_
  clear e_v13
  refine mx_S.pu (pc2 := 20) (lv2 := [(4, .int v13), (2, .int v12), (0, .ref l0), (1, .int l1), (3, .int l3)]) (st2 := []) hm dX13_becomes_82 rfl ?_
  refine mx_S.ext [(0, .ref l0), (1, .int l1), (2, .int v12), (3, .int l3), (4, .int v13)] (mx_sub_pos [2, 3, 1, 4, 0] rfl (show ([4, 2, 0, 1, 3] : List Nat).Nodup by decide)) ?_
  exact hk_20 l0 l1 v12 l3 v13 h _ hf
set_option maxHeartbeats 4000000 in
set_option maxRecDepth 20000 in
theorem w_X13_becomes_20_ok (X : Nat × (Nat → Int32)) {F L : Nat} (hF : 10 ≤ F) (hL : 232 ≤ L) (nn : Nat) : ∀ (k : Nat) (l0 : Nat) (l1 : Int32) (l2 : Int32) (l3 : Int32) (l4 : Int32) (h : mx_H) (r : mx_H), w_X13_becomes_20 nn k l0 l1 l2 l3 l4 h = some r → mx_S X F L 552 20 [(0, .ref l0), (1, .int l1), (2, .int l2), (3, .int l3), (4, .int l4)] [] h 0 0 (none, r, 0, 0) := by
  have hm : mx_mt 552 = some (yX13_becomes, cX13_becomes, 5, none) := mt_X13_becomes
  intro k
  induction k with
  | zero => intro l0 l1 l2 l3 l4 h r hf; cases hf
  | succ k ih =>
    intro l0 l1 l2 l3 l4 h r hf
    unfold w_X13_becomes_20 at hf
    refine mx_S.pu (pc2 := 22) (lv2 := [(0, .ref l0), (1, .int l1), (2, .int l2), (3, .int l3), (4, .int l4)]) (st2 := [.int l4]) hm dX13_becomes_20 rfl ?_
    refine mx_S.pu (pc2 := 23) (lv2 := [(0, .ref l0), (1, .int l1), (2, .int l2), (3, .int l3), (4, .int l4)]) (st2 := [.ref l0, .int l4]) hm dX13_becomes_22 rfl ?_
    replace hf := mx_sv_el hf; obtain ⟨v14, e_v14, hf⟩ := hf
    refine sx_get hm dX13_becomes_23 rs_RX13_964 (xgi_el e_v14) ?_
    clear e_v14
    rcases mx_if_el hf with ⟨c35, hf⟩ | ⟨c35, hf⟩
    · refine sb_ic_ge hm dX13_becomes_26 (tgt := 85) rfl (fun _ => ?_) (fun z => absurd c35 z)
      refine mx_S.pu (pc2 := 86) (lv2 := [(0, .ref l0), (1, .int l1), (2, .int l2), (3, .int l3), (4, .int l4)]) (st2 := [.ref l0]) hm dX13_becomes_85 rfl ?_
      refine mx_S.pu (pc2 := 87) (lv2 := [(0, .ref l0), (1, .int l1), (2, .int l2), (3, .int l3), (4, .int l4)]) (st2 := [.int l1, .ref l0]) hm dX13_becomes_86 rfl ?_
      refine sx_ic (v := 2) hm dX13_becomes_87 (by decide) ?_
      replace hf := xl_el hf; obtain ⟨v15, e_v15, hf⟩ := hf
      refine mx_S.pu (pc2 := 89) (lv2 := [(0, .ref l0), (1, .int l1), (2, .int l2), (3, .int l3), (4, .int l4)]) (st2 := [.int v15, .ref l0]) hm dX13_becomes_88 (by rw [← e_v15]; rfl) ?_
      clear e_v15
      replace hf := mx_gd_el hf; obtain ⟨c16, hf⟩ := hf
      replace hf := mx_sv_el hf; obtain ⟨u17, e_u17, hf⟩ := hf
      refine sx_cv hm dX13_becomes_89 rs_RX13_943 mt_X13_typesEnd [.int v15] [] (b := l0) (ci := 13) rfl rfl rfl c16 (Nat.le_of_ble_eq_true rfl) (Nat.le_of_ble_eq_true rfl) (by omega) (by omega) (f_X13_typesEnd_ok X (by omega) (by omega) nn l0 v15 h e_u17) ?_
      clear e_u17
      show mx_S X F L 552 92 [(0, .ref l0), (1, .int l1), (2, .int l2), (3, .int l3), (4, .int l4)] [.int u17.1] u17.2 0 0 (none, r, 0, 0)
      refine mx_S.pu (pc2 := 93) (lv2 := [(2, .int u17.1), (0, .ref l0), (1, .int l1), (3, .int l3), (4, .int l4)]) (st2 := []) hm dX13_becomes_92 rfl ?_
      refine mx_S.pu (pc2 := 94) (lv2 := [(2, .int u17.1), (0, .ref l0), (1, .int l1), (3, .int l3), (4, .int l4)]) (st2 := [.ref l0]) hm dX13_becomes_93 rfl ?_
      refine mx_S.pu (pc2 := 95) (lv2 := [(2, .int u17.1), (0, .ref l0), (1, .int l1), (3, .int l3), (4, .int l4)]) (st2 := [.ref l0, .ref l0]) hm dX13_becomes_94 rfl ?_
      replace hf := mx_sv_el hf; obtain ⟨v18, e_v18, hf⟩ := hf
      refine sx_get hm dX13_becomes_95 rs_RX13_932 (xgi_el e_v18) ?_
      clear e_v18
      refine mx_S.pu (pc2 := 99) (lv2 := [(2, .int u17.1), (0, .ref l0), (1, .int l1), (3, .int l3), (4, .int l4)]) (st2 := [.int u17.1, .int v18, .ref l0]) hm dX13_becomes_98 rfl ?_
      replace hf := mx_gd_el hf; obtain ⟨c19, hf⟩ := hf
      replace hf := mx_sv_el hf; obtain ⟨u20, e_u20, hf⟩ := hf
      refine sx_cv hm dX13_becomes_99 rs_RX13_864 mt_X13_byteAt [.int v18, .int u17.1] [] (b := l0) (ci := 13) rfl rfl rfl c19 (Nat.le_of_ble_eq_true rfl) (Nat.le_of_ble_eq_true rfl) (by omega) (by omega) (f_X13_byteAt_ok X (by omega) (by omega) nn l0 v18 u17.1 u17.2 e_u20) ?_
      clear e_u20
      show mx_S X F L 552 102 [(2, .int u17.1), (0, .ref l0), (1, .int l1), (3, .int l3), (4, .int l4)] [.int u20.1] u20.2 0 0 (none, r, 0, 0)
      refine mx_S.pu (pc2 := 103) (lv2 := [(3, .int u20.1), (2, .int u17.1), (0, .ref l0), (1, .int l1), (4, .int l4)]) (st2 := []) hm dX13_becomes_102 rfl ?_
      replace hf := xl_el hf; obtain ⟨v21, e_v21, hf⟩ := hf
      refine mx_S.pu (pc2 := 106) (lv2 := [(2, .int v21), (3, .int u20.1), (0, .ref l0), (1, .int l1), (4, .int l4)]) (st2 := []) hm dX13_becomes_103 (by rw [← e_v21]; rfl) ?_
      clear e_v21
      refine mx_S.pu (pc2 := 107) (lv2 := [(2, .int v21), (3, .int u20.1), (0, .ref l0), (1, .int l1), (4, .int l4)]) (st2 := [.ref l0]) hm dX13_becomes_106 rfl ?_
      refine mx_S.pu (pc2 := 108) (lv2 := [(2, .int v21), (3, .int u20.1), (0, .ref l0), (1, .int l1), (4, .int l4)]) (st2 := [.int u20.1, .ref l0]) hm dX13_becomes_107 rfl ?_
      replace hf := mx_sv_el hf; obtain ⟨h22, e_h22, hf⟩ := hf
      refine sx_put hm dX13_becomes_108 rs_RX13_961 ft_13_131 ⟨rfl, rfl⟩ (fun z => by cases z) e_h22 ?_
      clear e_h22
      refine sx_ic (v := 0) hm dX13_becomes_111 (by decide) ?_
      refine mx_S.pu (pc2 := 114) (lv2 := [(4, .int 0), (2, .int v21), (3, .int u20.1), (0, .ref l0), (1, .int l1)]) (st2 := []) hm dX13_becomes_112 rfl ?_
      refine mx_S.ext [(0, .ref l0), (2, .int v21), (3, .int u20.1), (4, .int 0)] (mx_sub_pos [3, 1, 2, 0] rfl (show ([4, 2, 3, 0, 1] : List Nat).Nodup by decide)) ?_
      exact w_X13_becomes_114_ok X hF hL nn nn l0 v21 u20.1 0 h22 _ hf
    · refine sb_ic_ge hm dX13_becomes_26 (tgt := 85) rfl (fun z => absurd z c35) (fun _ => ?_)
      refine mx_S.pu (pc2 := 30) (lv2 := [(0, .ref l0), (1, .int l1), (2, .int l2), (3, .int l3), (4, .int l4)]) (st2 := [.ref l0]) hm dX13_becomes_29 rfl ?_
      replace hf := mx_sv_el hf; obtain ⟨v23, e_v23, hf⟩ := hf
      refine sx_get hm dX13_becomes_30 rs_RX13_270 (xgr_el e_v23) ?_
      clear e_v23
      refine mx_S.pu (pc2 := 35) (lv2 := [(0, .ref l0), (1, .int l1), (2, .int l2), (3, .int l3), (4, .int l4)]) (st2 := [.int l4, .ref v23]) hm dX13_becomes_33 rfl ?_
      refine sx_ic (v := 0) hm dX13_becomes_35 (by decide) ?_
      replace hf := mx_sv_el hf; obtain ⟨h24, e_h24, hf⟩ := hf
      refine sx_ast hm dX13_becomes_36 e_h24 ?_
      clear e_h24
      refine mx_S.pu (pc2 := 39) (lv2 := [(0, .ref l0), (1, .int l1), (2, .int l2), (3, .int l3), (4, .int l4)]) (st2 := [.int l4]) hm dX13_becomes_37 rfl ?_
      refine mx_S.pu (pc2 := 40) (lv2 := [(0, .ref l0), (1, .int l1), (2, .int l2), (3, .int l3), (4, .int l4)]) (st2 := [.int l3, .int l4]) hm dX13_becomes_39 rfl ?_
      rcases mx_if_el hf with ⟨c34, hf⟩ | ⟨c34, hf⟩
      · refine sb_ic_lt hm dX13_becomes_40 (tgt := 46) rfl (fun _ => ?_) (fun z => absurd c34 z)
        refine mx_S.pu (pc2 := 47) (lv2 := [(0, .ref l0), (1, .int l1), (2, .int l2), (3, .int l3), (4, .int l4)]) (st2 := [.ref l0]) hm dX13_becomes_46 rfl ?_
        replace hf := mx_sv_el hf; obtain ⟨v25, e_v25, hf⟩ := hf
        refine sx_get hm dX13_becomes_47 rs_RX13_270 (xgr_el e_v25) ?_
        clear e_v25
        refine mx_S.pu (pc2 := 52) (lv2 := [(0, .ref l0), (1, .int l1), (2, .int l2), (3, .int l3), (4, .int l4)]) (st2 := [.int l4, .ref v25]) hm dX13_becomes_50 rfl ?_
        refine mx_S.pu (pc2 := 53) (lv2 := [(0, .ref l0), (1, .int l1), (2, .int l2), (3, .int l3), (4, .int l4)]) (st2 := [.ref l0, .int l4, .ref v25]) hm dX13_becomes_52 rfl ?_
        refine mx_S.pu (pc2 := 54) (lv2 := [(0, .ref l0), (1, .int l1), (2, .int l2), (3, .int l3), (4, .int l4)]) (st2 := [.int l2, .ref l0, .int l4, .ref v25]) hm dX13_becomes_53 rfl ?_
        replace hf := mx_gd_el hf; obtain ⟨c26, hf⟩ := hf
        replace hf := mx_sv_el hf; obtain ⟨u27, e_u27, hf⟩ := hf
        refine sx_cv hm dX13_becomes_54 rs_RX13_955 mt_X13_framed [.int l2] [.int l4, .ref v25] (b := l0) (ci := 13) rfl rfl rfl c26 (Nat.le_of_ble_eq_true rfl) (Nat.le_of_ble_eq_true rfl) (by omega) (by omega) (f_X13_framed_ok X (by omega) (by omega) nn l0 l2 h24 e_u27) ?_
        clear e_u27
        show mx_S X F L 552 57 [(0, .ref l0), (1, .int l1), (2, .int l2), (3, .int l3), (4, .int l4)] [.int u27.1, .int l4, .ref v25] u27.2 0 0 (none, r, 0, 0)
        replace hf := mx_sv_el hf; obtain ⟨h28, e_h28, hf⟩ := hf
        refine sx_ast hm dX13_becomes_57 e_h28 ?_
        clear e_h28
        refine mx_S.pu (pc2 := 59) (lv2 := [(0, .ref l0), (1, .int l1), (2, .int l2), (3, .int l3), (4, .int l4)]) (st2 := [.int l2]) hm dX13_becomes_58 rfl ?_
        refine mx_S.pu (pc2 := 60) (lv2 := [(0, .ref l0), (1, .int l1), (2, .int l2), (3, .int l3), (4, .int l4)]) (st2 := [.ref l0, .int l2]) hm dX13_becomes_59 rfl ?_
        refine mx_S.pu (pc2 := 61) (lv2 := [(0, .ref l0), (1, .int l1), (2, .int l2), (3, .int l3), (4, .int l4)]) (st2 := [.ref l0, .ref l0, .int l2]) hm dX13_becomes_60 rfl ?_
        replace hf := mx_sv_el hf; obtain ⟨v29, e_v29, hf⟩ := hf
        refine sx_get hm dX13_becomes_61 rs_RX13_932 (xgi_el e_v29) ?_
        clear e_v29
        refine mx_S.pu (pc2 := 65) (lv2 := [(0, .ref l0), (1, .int l1), (2, .int l2), (3, .int l3), (4, .int l4)]) (st2 := [.int l2, .int v29, .ref l0, .int l2]) hm dX13_becomes_64 rfl ?_
        replace hf := mx_gd_el hf; obtain ⟨c30, hf⟩ := hf
        replace hf := mx_sv_el hf; obtain ⟨u31, e_u31, hf⟩ := hf
        refine sx_cv hm dX13_becomes_65 rs_RX13_864 mt_X13_byteAt [.int v29, .int l2] [.int l2] (b := l0) (ci := 13) rfl rfl rfl c30 (Nat.le_of_ble_eq_true rfl) (Nat.le_of_ble_eq_true rfl) (by omega) (by omega) (f_X13_byteAt_ok X (by omega) (by omega) nn l0 v29 l2 h28 e_u31) ?_
        clear e_u31
        show mx_S X F L 552 68 [(0, .ref l0), (1, .int l1), (2, .int l2), (3, .int l3), (4, .int l4)] [.int u31.1, .int l2] u31.2 0 0 (none, r, 0, 0)
        refine sx_ic (v := 3) hm dX13_becomes_68 (by decide) ?_
        rcases mx_if_el hf with ⟨c32, hf⟩ | ⟨c32, hf⟩
        · refine sb_ic_ne hm dX13_becomes_69 (tgt := 76) rfl (fun _ => ?_) (fun z => absurd c32 z)
          refine sx_ic (v := 1) hm dX13_becomes_76 (by decide) ?_
          refine mx_S.ext [(0, .ref l0), (1, .int l1), (3, .int l3), (4, .int l4)] (mx_sub_pos [0, 1, 3, 4] rfl (show ([0, 1, 2, 3, 4] : List Nat).Nodup by decide)) ?_
          exact j_X13_becomes_77_ok X hF hL nn ih l0 l1 l3 l4 1 l2 u31.2 hf
        · refine sb_ic_ne hm dX13_becomes_69 (tgt := 76) rfl (fun z => absurd z c32) (fun _ => ?_)
          refine sx_ic (v := 2) hm dX13_becomes_72 (by decide) ?_
          refine mx_S.pu (pc2 := 77) (lv2 := [(0, .ref l0), (1, .int l1), (2, .int l2), (3, .int l3), (4, .int l4)]) (st2 := [.int 2, .int l2]) hm dX13_becomes_73 rfl ?_
          refine mx_S.ext [(0, .ref l0), (1, .int l1), (3, .int l3), (4, .int l4)] (mx_sub_pos [0, 1, 3, 4] rfl (show ([0, 1, 2, 3, 4] : List Nat).Nodup by decide)) ?_
          exact j_X13_becomes_77_ok X hF hL nn ih l0 l1 l3 l4 2 l2 u31.2 hf
      · refine sb_ic_lt hm dX13_becomes_40 (tgt := 46) rfl (fun z => absurd z c34) (fun _ => ?_)
        refine mx_S.pu (pc2 := 79) (lv2 := [(0, .ref l0), (1, .int l1), (2, .int l2), (3, .int l3), (4, .int l4)]) (st2 := []) hm dX13_becomes_43 rfl ?_
        replace hf := xl_el hf; obtain ⟨v33, e_v33, hf⟩ := hf
        refine mx_S.pu (pc2 := 82) (lv2 := [(4, .int v33), (0, .ref l0), (1, .int l1), (2, .int l2), (3, .int l3)]) (st2 := []) hm dX13_becomes_79 (by rw [← e_v33]; rfl) ?_
        clear e_v33
        refine mx_S.pu (pc2 := 20) (lv2 := [(4, .int v33), (0, .ref l0), (1, .int l1), (2, .int l2), (3, .int l3)]) (st2 := []) hm dX13_becomes_82 rfl ?_
        refine mx_S.ext [(0, .ref l0), (1, .int l1), (2, .int l2), (3, .int l3), (4, .int v33)] (mx_sub_pos [1, 2, 3, 4, 0] rfl (show ([4, 0, 1, 2, 3] : List Nat).Nodup by decide)) ?_
        exact ih l0 l1 l2 l3 v33 h24 _ hf

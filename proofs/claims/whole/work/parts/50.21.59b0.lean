set_option maxHeartbeats 4000000 in
set_option maxRecDepth 20000 in
theorem j_X13_wanted_1642_ok (X : Nat × (Nat → Int32)) {F L : Nat} (hF : 12 ≤ F) (hL : 276 ≤ L) (nn : Nat) (l0 : Nat) (h : mx_H) {r : (Int32 × mx_H)} (hf : j_X13_wanted_1642 nn l0 h = some r) : mx_S X F L 567 1642 [(0, .ref l0)] [] h 0 0 (some (.int r.1), r.2, 0, 0) := by
  have hm : mx_mt 567 = some (yX13_wanted, cX13_wanted, 5, (some .boolean)) := mt_X13_wanted
  unfold j_X13_wanted_1642 at hf
  refine mx_S.pu (pc2 := 1643) (lv2 := [(0, .ref l0)]) (st2 := [.ref l0]) hm dX13_wanted_1642 rfl ?_
  replace hf := mx_gd_el hf; obtain ⟨c1, hf⟩ := hf
  replace hf := mx_sv_el hf; obtain ⟨u2, e_u2, hf⟩ := hf
  refine sx_cv hm dX13_wanted_1643 rs_RX13_1034 mt_X13_pullThing [] [] (b := l0) (ci := 13) rfl rfl rfl c1 (Nat.le_of_ble_eq_true rfl) (Nat.le_of_ble_eq_true rfl) (by omega) (by omega) (f_X13_pullThing_ok X (by omega) (by omega) nn l0 h e_u2) ?_
  clear e_u2
  show mx_S X F L 567 1646 [(0, .ref l0)] [.int u2.1] u2.2 0 0 (some (.int r.1), r.2, 0, 0)
  rcases mx_if_el hf with ⟨c6, hf⟩ | ⟨c6, hf⟩
  · refine sb_if_eq hm dX13_wanted_1646 (tgt := 1661) rfl (fun _ => ?_) (fun z => absurd c6 z)
    refine sx_ic (v := 0) hm dX13_wanted_1661 (by decide) ?_
    cases hf
    exact sx_ire hm dX13_wanted_1662 rfl (by decide)
  · refine sb_if_eq hm dX13_wanted_1646 (tgt := 1661) rfl (fun z => absurd z c6) (fun _ => ?_)
    refine mx_S.pu (pc2 := 1650) (lv2 := [(0, .ref l0)]) (st2 := [.ref l0]) hm dX13_wanted_1649 rfl ?_
    refine sx_ic (v := 1) hm dX13_wanted_1650 (by decide) ?_
    replace hf := mx_gd_el hf; obtain ⟨c3, hf⟩ := hf
    replace hf := mx_sv_el hf; obtain ⟨u4, e_u4, hf⟩ := hf
    refine sx_cv hm dX13_wanted_1651 rs_RX13_1028 mt_X13_comesBack [.int 1] [] (b := l0) (ci := 13) rfl rfl rfl c3 (Nat.le_of_ble_eq_true rfl) (Nat.le_of_ble_eq_true rfl) (by omega) (by omega) (f_X13_comesBack_ok X (by omega) (by omega) nn l0 1 u2.2 e_u4) ?_
    clear e_u4
    show mx_S X F L 567 1654 [(0, .ref l0)] [.int u4.1] u4.2 0 0 (some (.int r.1), r.2, 0, 0)
    rcases mx_if_el hf with ⟨c5, hf⟩ | ⟨c5, hf⟩
    · refine sb_if_eq hm dX13_wanted_1654 (tgt := 1661) rfl (fun _ => ?_) (fun z => absurd c5 z)
      refine sx_ic (v := 0) hm dX13_wanted_1661 (by decide) ?_
      cases hf
      exact sx_ire hm dX13_wanted_1662 rfl (by decide)
    · refine sb_if_eq hm dX13_wanted_1654 (tgt := 1661) rfl (fun z => absurd z c5) (fun _ => ?_)
      refine sx_ic (v := 1) hm dX13_wanted_1657 (by decide) ?_
      refine mx_S.pu (pc2 := 1662) (lv2 := [(0, .ref l0)]) (st2 := [.int 1]) hm dX13_wanted_1658 rfl ?_
      cases hf
      exact sx_ire hm dX13_wanted_1662 rfl (by decide)
set_option maxHeartbeats 4000000 in
set_option maxRecDepth 20000 in
theorem j_X13_wanted_1592_ok (X : Nat × (Nat → Int32)) {F L : Nat} (hF : 12 ≤ F) (hL : 276 ≤ L) (nn : Nat) (l0 : Nat) (h : mx_H) {r : (Int32 × mx_H)} (hf : j_X13_wanted_1592 nn l0 h = some r) : mx_S X F L 567 1592 [(0, .ref l0)] [] h 0 0 (some (.int r.1), r.2, 0, 0) := by
  have hm : mx_mt 567 = some (yX13_wanted, cX13_wanted, 5, (some .boolean)) := mt_X13_wanted
  unfold j_X13_wanted_1592 at hf
  refine mx_S.pu (pc2 := 1593) (lv2 := [(0, .ref l0)]) (st2 := [.ref l0]) hm dX13_wanted_1592 rfl ?_
  refine sx_ic (v := 1) hm dX13_wanted_1593 (by decide) ?_
  replace hf := mx_gd_el hf; obtain ⟨c7, hf⟩ := hf
  replace hf := mx_sv_el hf; obtain ⟨u8, e_u8, hf⟩ := hf
  refine sx_cv hm dX13_wanted_1594 rs_RX13_1028 mt_X13_comesBack [.int 1] [] (b := l0) (ci := 13) rfl rfl rfl c7 (Nat.le_of_ble_eq_true rfl) (Nat.le_of_ble_eq_true rfl) (by omega) (by omega) (f_X13_comesBack_ok X (by omega) (by omega) nn l0 1 h e_u8) ?_
  clear e_u8
  show mx_S X F L 567 1597 [(0, .ref l0)] [.int u8.1] u8.2 0 0 (some (.int r.1), r.2, 0, 0)
  rcases mx_if_el hf with ⟨c9, hf⟩ | ⟨c9, hf⟩
  · refine sb_if_eq hm dX13_wanted_1597 (tgt := 1604) rfl (fun _ => ?_) (fun z => absurd c9 z)
    refine sx_ic (v := 0) hm dX13_wanted_1604 (by decide) ?_
    cases hf
    exact sx_ire hm dX13_wanted_1605 rfl (by decide)
  · refine sb_if_eq hm dX13_wanted_1597 (tgt := 1604) rfl (fun z => absurd z c9) (fun _ => ?_)
    refine sx_ic (v := 1) hm dX13_wanted_1600 (by decide) ?_
    refine mx_S.pu (pc2 := 1605) (lv2 := [(0, .ref l0)]) (st2 := [.int 1]) hm dX13_wanted_1601 rfl ?_
    cases hf
    exact sx_ire hm dX13_wanted_1605 rfl (by decide)
set_option maxHeartbeats 4000000 in
set_option maxRecDepth 20000 in
theorem j_X13_wanted_1480_ok (X : Nat × (Nat → Int32)) {F L : Nat} (hF : 12 ≤ F) (hL : 276 ≤ L) (nn : Nat) (l0 : Nat) (l2 : Int32) (l3 : Int32) (h : mx_H) {r : (Int32 × mx_H)} (hf : j_X13_wanted_1480 nn l0 l2 l3 h = some r) : mx_S X F L 567 1480 [(0, .ref l0), (2, .int l2), (3, .int l3)] [] h 0 0 (some (.int r.1), r.2, 0, 0) := by
  have hm : mx_mt 567 = some (yX13_wanted, cX13_wanted, 5, (some .boolean)) := mt_X13_wanted
  unfold j_X13_wanted_1480 at hf
  refine mx_S.pu (pc2 := 1481) (lv2 := [(0, .ref l0), (2, .int l2), (3, .int l3)]) (st2 := [.ref l0]) hm dX13_wanted_1480 rfl ?_
  refine mx_S.pu (pc2 := 1482) (lv2 := [(0, .ref l0), (2, .int l2), (3, .int l3)]) (st2 := [.int l3, .ref l0]) hm dX13_wanted_1481 rfl ?_
  refine mx_S.pu (pc2 := 1483) (lv2 := [(0, .ref l0), (2, .int l2), (3, .int l3)]) (st2 := [.int l2, .int l3, .ref l0]) hm dX13_wanted_1482 rfl ?_
  refine sx_si (v := 184) hm dX13_wanted_1483 (by decide) ?_
  rcases mx_if_el hf with ⟨c16, hf⟩ | ⟨c16, hf⟩
  · refine sb_ic_ne hm dX13_wanted_1486 (tgt := 1493) rfl (fun _ => ?_) (fun z => absurd c16 z)
    refine sx_ic (v := 0) hm dX13_wanted_1493 (by decide) ?_
    replace hf := mx_gd_el hf; obtain ⟨c10, hf⟩ := hf
    replace hf := mx_sv_el hf; obtain ⟨u11, e_u11, hf⟩ := hf
    refine sx_cv hm dX13_wanted_1494 rs_RX13_1040 mt_X13_calls [.int l3, .int 0] [] (b := l0) (ci := 13) rfl rfl rfl c10 (Nat.le_of_ble_eq_true rfl) (Nat.le_of_ble_eq_true rfl) (by omega) (by omega) (f_X13_calls_ok X (by omega) (by omega) nn l0 l3 0 h e_u11) ?_
    clear e_u11
    show mx_S X F L 567 1497 [(0, .ref l0), (2, .int l2), (3, .int l3)] [.int u11.1] u11.2 0 0 (some (.int r.1), r.2, 0, 0)
    replace hf := mx_gd_el hf; obtain ⟨c12, hf⟩ := hf
    cases hf
    exact sx_ire hm dX13_wanted_1497 rfl (xbq_ok c12).1
  · refine sb_ic_ne hm dX13_wanted_1486 (tgt := 1493) rfl (fun z => absurd z c16) (fun _ => ?_)
    refine sx_ic (v := 1) hm dX13_wanted_1489 (by decide) ?_
    refine mx_S.pu (pc2 := 1494) (lv2 := [(0, .ref l0), (2, .int l2), (3, .int l3)]) (st2 := [.int 1, .int l3, .ref l0]) hm dX13_wanted_1490 rfl ?_
    replace hf := mx_gd_el hf; obtain ⟨c13, hf⟩ := hf
    replace hf := mx_sv_el hf; obtain ⟨u14, e_u14, hf⟩ := hf
    refine sx_cv hm dX13_wanted_1494 rs_RX13_1040 mt_X13_calls [.int l3, .int 1] [] (b := l0) (ci := 13) rfl rfl rfl c13 (Nat.le_of_ble_eq_true rfl) (Nat.le_of_ble_eq_true rfl) (by omega) (by omega) (f_X13_calls_ok X (by omega) (by omega) nn l0 l3 1 h e_u14) ?_
    clear e_u14
    show mx_S X F L 567 1497 [(0, .ref l0), (2, .int l2), (3, .int l3)] [.int u14.1] u14.2 0 0 (some (.int r.1), r.2, 0, 0)
    replace hf := mx_gd_el hf; obtain ⟨c15, hf⟩ := hf
    cases hf
    exact sx_ire hm dX13_wanted_1497 rfl (xbq_ok c15).1
set_option maxHeartbeats 4000000 in
set_option maxRecDepth 20000 in
theorem j_X13_wanted_1453_ok (X : Nat × (Nat → Int32)) {F L : Nat} (hF : 12 ≤ F) (hL : 276 ≤ L) (nn : Nat) (l0 : Nat) (l3 : Int32) (h : mx_H) {r : (Int32 × mx_H)} (hf : j_X13_wanted_1453 nn l0 l3 h = some r) : mx_S X F L 567 1453 [(0, .ref l0), (3, .int l3)] [] h 0 0 (some (.int r.1), r.2, 0, 0) := by
  have hm : mx_mt 567 = some (yX13_wanted, cX13_wanted, 5, (some .boolean)) := mt_X13_wanted
  unfold j_X13_wanted_1453 at hf
  refine mx_S.pu (pc2 := 1454) (lv2 := [(0, .ref l0), (3, .int l3)]) (st2 := [.ref l0]) hm dX13_wanted_1453 rfl ?_
  refine mx_S.pu (pc2 := 1455) (lv2 := [(0, .ref l0), (3, .int l3)]) (st2 := [.ref l0, .ref l0]) hm dX13_wanted_1454 rfl ?_
  refine mx_S.pu (pc2 := 1456) (lv2 := [(0, .ref l0), (3, .int l3)]) (st2 := [.ref l0, .ref l0, .ref l0]) hm dX13_wanted_1455 rfl ?_
  replace hf := mx_sv_el hf; obtain ⟨v17, e_v17, hf⟩ := hf
  refine sx_get hm dX13_wanted_1456 rs_RX13_932 (xgi_el e_v17) ?_
  clear e_v17
  refine mx_S.pu (pc2 := 1460) (lv2 := [(0, .ref l0), (3, .int l3)]) (st2 := [.ref l0, .int v17, .ref l0, .ref l0]) hm dX13_wanted_1459 rfl ?_
  refine mx_S.pu (pc2 := 1461) (lv2 := [(0, .ref l0), (3, .int l3)]) (st2 := [.int l3, .ref l0, .int v17, .ref l0, .ref l0]) hm dX13_wanted_1460 rfl ?_
  refine sx_ic (v := 0) hm dX13_wanted_1461 (by decide) ?_
  replace hf := mx_gd_el hf; obtain ⟨c18, hf⟩ := hf
  replace hf := mx_sv_el hf; obtain ⟨u19, e_u19, hf⟩ := hf
  refine sx_cv hm dX13_wanted_1462 rs_RX13_1022 mt_X13_partOf [.int l3, .int 0] [.int v17, .ref l0, .ref l0] (b := l0) (ci := 13) rfl rfl rfl c18 (Nat.le_of_ble_eq_true rfl) (Nat.le_of_ble_eq_true rfl) (by omega) (by omega) (f_X13_partOf_ok X (by omega) (by omega) nn l0 l3 0 h e_u19) ?_
  clear e_u19
  show mx_S X F L 567 1465 [(0, .ref l0), (3, .int l3)] [.int u19.1, .int v17, .ref l0, .ref l0] u19.2 0 0 (some (.int r.1), r.2, 0, 0)
  replace hf := mx_gd_el hf; obtain ⟨c20, hf⟩ := hf
  replace hf := mx_sv_el hf; obtain ⟨u21, e_u21, hf⟩ := hf
  refine sx_cv hm dX13_wanted_1465 rs_RX13_952 mt_X13_typeOfClass [.int v17, .int u19.1] [.ref l0] (b := l0) (ci := 13) rfl rfl rfl c20 (Nat.le_of_ble_eq_true rfl) (Nat.le_of_ble_eq_true rfl) (by omega) (by omega) (f_X13_typeOfClass_ok X (by omega) (by omega) nn l0 v17 u19.1 u19.2 e_u21) ?_
  clear e_u21
  show mx_S X F L 567 1468 [(0, .ref l0), (3, .int l3)] [.int u21.1, .ref l0] u21.2 0 0 (some (.int r.1), r.2, 0, 0)
  replace hf := mx_gd_el hf; obtain ⟨c22, hf⟩ := hf
  replace hf := mx_sv_el hf; obtain ⟨u23, e_u23, hf⟩ := hf
  refine sx_cv hm dX13_wanted_1468 rs_RX13_1037 mt_X13_pullFit [.int u21.1] [] (b := l0) (ci := 13) rfl rfl rfl c22 (Nat.le_of_ble_eq_true rfl) (Nat.le_of_ble_eq_true rfl) (by omega) (by omega) (f_X13_pullFit_ok X (by omega) (by omega) nn l0 u21.1 u21.2 e_u23) ?_
  clear e_u23
  show mx_S X F L 567 1471 [(0, .ref l0), (3, .int l3)] [.int u23.1] u23.2 0 0 (some (.int r.1), r.2, 0, 0)
  rcases mx_if_el hf with ⟨c24, hf⟩ | ⟨c24, hf⟩
  · refine sb_if_eq hm dX13_wanted_1471 (tgt := 1478) rfl (fun _ => ?_) (fun z => absurd c24 z)
    refine sx_ic (v := 0) hm dX13_wanted_1478 (by decide) ?_
    cases hf
    exact sx_ire hm dX13_wanted_1479 rfl (by decide)
  · refine sb_if_eq hm dX13_wanted_1471 (tgt := 1478) rfl (fun z => absurd z c24) (fun _ => ?_)
    refine sx_ic (v := 1) hm dX13_wanted_1474 (by decide) ?_
    refine mx_S.pu (pc2 := 1479) (lv2 := [(0, .ref l0), (3, .int l3)]) (st2 := [.int 1]) hm dX13_wanted_1475 rfl ?_
    cases hf
    exact sx_ire hm dX13_wanted_1479 rfl (by decide)
set_option maxHeartbeats 4000000 in
set_option maxRecDepth 20000 in
theorem j_X13_wanted_1287_ok (X : Nat × (Nat → Int32)) {F L : Nat} (hF : 12 ≤ F) (hL : 276 ≤ L) (nn : Nat) (l0 : Nat) (h : mx_H) {r : (Int32 × mx_H)} (hf : j_X13_wanted_1287 nn l0 h = some r) : mx_S X F L 567 1287 [(0, .ref l0)] [] h 0 0 (some (.int r.1), r.2, 0, 0) := by
  have hm : mx_mt 567 = some (yX13_wanted, cX13_wanted, 5, (some .boolean)) := mt_X13_wanted
  unfold j_X13_wanted_1287 at hf
  refine mx_S.pu (pc2 := 1288) (lv2 := [(0, .ref l0)]) (st2 := [.ref l0]) hm dX13_wanted_1287 rfl ?_
  refine sx_ic (v := 1) hm dX13_wanted_1288 (by decide) ?_
  replace hf := mx_gd_el hf; obtain ⟨c25, hf⟩ := hf
  replace hf := mx_sv_el hf; obtain ⟨u26, e_u26, hf⟩ := hf
  refine sx_cv hm dX13_wanted_1289 rs_RX13_1031 mt_X13_pullInts [.int 1] [] (b := l0) (ci := 13) rfl rfl rfl c25 (Nat.le_of_ble_eq_true rfl) (Nat.le_of_ble_eq_true rfl) (by omega) (by omega) (f_X13_pullInts_ok X (by omega) (by omega) nn l0 1 h e_u26) ?_
  clear e_u26
  show mx_S X F L 567 1292 [(0, .ref l0)] [.int u26.1] u26.2 0 0 (some (.int r.1), r.2, 0, 0)
  rcases mx_if_el hf with ⟨c27, hf⟩ | ⟨c27, hf⟩
  · refine sb_if_eq hm dX13_wanted_1292 (tgt := 1299) rfl (fun _ => ?_) (fun z => absurd c27 z)
    refine sx_ic (v := 0) hm dX13_wanted_1299 (by decide) ?_
    cases hf
    exact sx_ire hm dX13_wanted_1300 rfl (by decide)
  · refine sb_if_eq hm dX13_wanted_1292 (tgt := 1299) rfl (fun z => absurd z c27) (fun _ => ?_)
    refine sx_ic (v := 1) hm dX13_wanted_1295 (by decide) ?_
    refine mx_S.pu (pc2 := 1300) (lv2 := [(0, .ref l0)]) (st2 := [.int 1]) hm dX13_wanted_1296 rfl ?_
    cases hf
    exact sx_ire hm dX13_wanted_1300 rfl (by decide)
set_option maxHeartbeats 4000000 in
set_option maxRecDepth 20000 in
theorem j_X13_wanted_1239_ok (X : Nat × (Nat → Int32)) {F L : Nat} (hF : 12 ≤ F) (hL : 276 ≤ L) (nn : Nat) (l0 : Nat) (h : mx_H) {r : (Int32 × mx_H)} (hf : j_X13_wanted_1239 nn l0 h = some r) : mx_S X F L 567 1239 [(0, .ref l0)] [] h 0 0 (some (.int r.1), r.2, 0, 0) := by
  have hm : mx_mt 567 = some (yX13_wanted, cX13_wanted, 5, (some .boolean)) := mt_X13_wanted
  unfold j_X13_wanted_1239 at hf
  refine mx_S.pu (pc2 := 1240) (lv2 := [(0, .ref l0)]) (st2 := [.ref l0]) hm dX13_wanted_1239 rfl ?_
  replace hf := mx_gd_el hf; obtain ⟨c28, hf⟩ := hf
  replace hf := mx_sv_el hf; obtain ⟨u29, e_u29, hf⟩ := hf
  refine sx_cv hm dX13_wanted_1240 rs_RX13_1034 mt_X13_pullThing [] [] (b := l0) (ci := 13) rfl rfl rfl c28 (Nat.le_of_ble_eq_true rfl) (Nat.le_of_ble_eq_true rfl) (by omega) (by omega) (f_X13_pullThing_ok X (by omega) (by omega) nn l0 h e_u29) ?_
  clear e_u29
  show mx_S X F L 567 1243 [(0, .ref l0)] [.int u29.1] u29.2 0 0 (some (.int r.1), r.2, 0, 0)
  rcases mx_if_el hf with ⟨c33, hf⟩ | ⟨c33, hf⟩
  · refine sb_if_eq hm dX13_wanted_1243 (tgt := 1257) rfl (fun _ => ?_) (fun z => absurd c33 z)
    refine sx_ic (v := 0) hm dX13_wanted_1257 (by decide) ?_
    cases hf
    exact sx_ire hm dX13_wanted_1258 rfl (by decide)
  · refine sb_if_eq hm dX13_wanted_1243 (tgt := 1257) rfl (fun z => absurd z c33) (fun _ => ?_)
    refine mx_S.pu (pc2 := 1247) (lv2 := [(0, .ref l0)]) (st2 := [.ref l0]) hm dX13_wanted_1246 rfl ?_
    replace hf := mx_gd_el hf; obtain ⟨c30, hf⟩ := hf
    replace hf := mx_sv_el hf; obtain ⟨u31, e_u31, hf⟩ := hf
    refine sx_cv hm dX13_wanted_1247 rs_RX13_1034 mt_X13_pullThing [] [] (b := l0) (ci := 13) rfl rfl rfl c30 (Nat.le_of_ble_eq_true rfl) (Nat.le_of_ble_eq_true rfl) (by omega) (by omega) (f_X13_pullThing_ok X (by omega) (by omega) nn l0 u29.2 e_u31) ?_
    clear e_u31
    show mx_S X F L 567 1250 [(0, .ref l0)] [.int u31.1] u31.2 0 0 (some (.int r.1), r.2, 0, 0)
    rcases mx_if_el hf with ⟨c32, hf⟩ | ⟨c32, hf⟩
    · refine sb_if_eq hm dX13_wanted_1250 (tgt := 1257) rfl (fun _ => ?_) (fun z => absurd c32 z)
      refine sx_ic (v := 0) hm dX13_wanted_1257 (by decide) ?_
      cases hf
      exact sx_ire hm dX13_wanted_1258 rfl (by decide)
    · refine sb_if_eq hm dX13_wanted_1250 (tgt := 1257) rfl (fun z => absurd z c32) (fun _ => ?_)
      refine sx_ic (v := 1) hm dX13_wanted_1253 (by decide) ?_
      refine mx_S.pu (pc2 := 1258) (lv2 := [(0, .ref l0)]) (st2 := [.int 1]) hm dX13_wanted_1254 rfl ?_
      cases hf
      exact sx_ire hm dX13_wanted_1258 rfl (by decide)
set_option maxHeartbeats 4000000 in
set_option maxRecDepth 20000 in
theorem j_X13_wanted_1233_ok (X : Nat × (Nat → Int32)) {F L : Nat} (hF : 12 ≤ F) (hL : 276 ≤ L) (nn : Nat) (l0 : Nat) (h : mx_H) {r : (Int32 × mx_H)} (hf : j_X13_wanted_1233 nn l0 h = some r) : mx_S X F L 567 1233 [(0, .ref l0)] [] h 0 0 (some (.int r.1), r.2, 0, 0) := by
  have hm : mx_mt 567 = some (yX13_wanted, cX13_wanted, 5, (some .boolean)) := mt_X13_wanted
  unfold j_X13_wanted_1233 at hf
  refine mx_S.pu (pc2 := 1234) (lv2 := [(0, .ref l0)]) (st2 := [.ref l0]) hm dX13_wanted_1233 rfl ?_
  refine sx_ic (v := 2) hm dX13_wanted_1234 (by decide) ?_
  replace hf := mx_gd_el hf; obtain ⟨c34, hf⟩ := hf
  replace hf := mx_sv_el hf; obtain ⟨u35, e_u35, hf⟩ := hf
  refine sx_cv hm dX13_wanted_1235 rs_RX13_1031 mt_X13_pullInts [.int 2] [] (b := l0) (ci := 13) rfl rfl rfl c34 (Nat.le_of_ble_eq_true rfl) (Nat.le_of_ble_eq_true rfl) (by omega) (by omega) (f_X13_pullInts_ok X (by omega) (by omega) nn l0 2 h e_u35) ?_
  clear e_u35
  show mx_S X F L 567 1238 [(0, .ref l0)] [.int u35.1] u35.2 0 0 (some (.int r.1), r.2, 0, 0)
  replace hf := mx_gd_el hf; obtain ⟨c36, hf⟩ := hf
  cases hf
  exact sx_ire hm dX13_wanted_1238 rfl (xbq_ok c36).1
set_option maxHeartbeats 4000000 in
set_option maxRecDepth 20000 in
theorem j_X13_wanted_1227_ok (X : Nat × (Nat → Int32)) {F L : Nat} (hF : 12 ≤ F) (hL : 276 ≤ L) (nn : Nat) (l0 : Nat) (h : mx_H) {r : (Int32 × mx_H)} (hf : j_X13_wanted_1227 nn l0 h = some r) : mx_S X F L 567 1227 [(0, .ref l0)] [] h 0 0 (some (.int r.1), r.2, 0, 0) := by
  have hm : mx_mt 567 = some (yX13_wanted, cX13_wanted, 5, (some .boolean)) := mt_X13_wanted
  unfold j_X13_wanted_1227 at hf
  refine mx_S.pu (pc2 := 1228) (lv2 := [(0, .ref l0)]) (st2 := [.ref l0]) hm dX13_wanted_1227 rfl ?_
  refine sx_ic (v := 1) hm dX13_wanted_1228 (by decide) ?_
  replace hf := mx_gd_el hf; obtain ⟨c37, hf⟩ := hf
  replace hf := mx_sv_el hf; obtain ⟨u38, e_u38, hf⟩ := hf
  refine sx_cv hm dX13_wanted_1229 rs_RX13_1031 mt_X13_pullInts [.int 1] [] (b := l0) (ci := 13) rfl rfl rfl c37 (Nat.le_of_ble_eq_true rfl) (Nat.le_of_ble_eq_true rfl) (by omega) (by omega) (f_X13_pullInts_ok X (by omega) (by omega) nn l0 1 h e_u38) ?_
  clear e_u38
  show mx_S X F L 567 1232 [(0, .ref l0)] [.int u38.1] u38.2 0 0 (some (.int r.1), r.2, 0, 0)
  replace hf := mx_gd_el hf; obtain ⟨c39, hf⟩ := hf
  cases hf
  exact sx_ire hm dX13_wanted_1232 rfl (xbq_ok c39).1
set_option maxHeartbeats 4000000 in
set_option maxRecDepth 20000 in
theorem j_X13_wanted_1183_ok (X : Nat × (Nat → Int32)) {F L : Nat} (hF : 12 ≤ F) (hL : 276 ≤ L) (nn : Nat) (l0 : Nat) (h : mx_H) {r : (Int32 × mx_H)} (hf : j_X13_wanted_1183 nn l0 h = some r) : mx_S X F L 567 1183 [(0, .ref l0)] [] h 0 0 (some (.int r.1), r.2, 0, 0) := by
  have hm : mx_mt 567 = some (yX13_wanted, cX13_wanted, 5, (some .boolean)) := mt_X13_wanted
  unfold j_X13_wanted_1183 at hf
  refine mx_S.pu (pc2 := 1184) (lv2 := [(0, .ref l0)]) (st2 := [.ref l0]) hm dX13_wanted_1183 rfl ?_
  refine sx_ic (v := 2) hm dX13_wanted_1184 (by decide) ?_
  replace hf := mx_gd_el hf; obtain ⟨c40, hf⟩ := hf
  replace hf := mx_sv_el hf; obtain ⟨u41, e_u41, hf⟩ := hf
  refine sx_cv hm dX13_wanted_1185 rs_RX13_1031 mt_X13_pullInts [.int 2] [] (b := l0) (ci := 13) rfl rfl rfl c40 (Nat.le_of_ble_eq_true rfl) (Nat.le_of_ble_eq_true rfl) (by omega) (by omega) (f_X13_pullInts_ok X (by omega) (by omega) nn l0 2 h e_u41) ?_
  clear e_u41
  show mx_S X F L 567 1188 [(0, .ref l0)] [.int u41.1] u41.2 0 0 (some (.int r.1), r.2, 0, 0)
  rcases mx_if_el hf with ⟨c45, hf⟩ | ⟨c45, hf⟩
  · refine sb_if_eq hm dX13_wanted_1188 (tgt := 1203) rfl (fun _ => ?_) (fun z => absurd c45 z)
    refine sx_ic (v := 0) hm dX13_wanted_1203 (by decide) ?_
    cases hf
    exact sx_ire hm dX13_wanted_1204 rfl (by decide)
  · refine sb_if_eq hm dX13_wanted_1188 (tgt := 1203) rfl (fun z => absurd z c45) (fun _ => ?_)
    refine mx_S.pu (pc2 := 1192) (lv2 := [(0, .ref l0)]) (st2 := [.ref l0]) hm dX13_wanted_1191 rfl ?_
    refine sx_ic (v := 1) hm dX13_wanted_1192 (by decide) ?_
    replace hf := mx_gd_el hf; obtain ⟨c42, hf⟩ := hf
    replace hf := mx_sv_el hf; obtain ⟨u43, e_u43, hf⟩ := hf
    refine sx_cv hm dX13_wanted_1193 rs_RX13_1028 mt_X13_comesBack [.int 1] [] (b := l0) (ci := 13) rfl rfl rfl c42 (Nat.le_of_ble_eq_true rfl) (Nat.le_of_ble_eq_true rfl) (by omega) (by omega) (f_X13_comesBack_ok X (by omega) (by omega) nn l0 1 u41.2 e_u43) ?_
    clear e_u43
    show mx_S X F L 567 1196 [(0, .ref l0)] [.int u43.1] u43.2 0 0 (some (.int r.1), r.2, 0, 0)
    rcases mx_if_el hf with ⟨c44, hf⟩ | ⟨c44, hf⟩
    · refine sb_if_eq hm dX13_wanted_1196 (tgt := 1203) rfl (fun _ => ?_) (fun z => absurd c44 z)
      refine sx_ic (v := 0) hm dX13_wanted_1203 (by decide) ?_
      cases hf
      exact sx_ire hm dX13_wanted_1204 rfl (by decide)
    · refine sb_if_eq hm dX13_wanted_1196 (tgt := 1203) rfl (fun z => absurd z c44) (fun _ => ?_)
      refine sx_ic (v := 1) hm dX13_wanted_1199 (by decide) ?_
      refine mx_S.pu (pc2 := 1204) (lv2 := [(0, .ref l0)]) (st2 := [.int 1]) hm dX13_wanted_1200 rfl ?_
      cases hf
      exact sx_ire hm dX13_wanted_1204 rfl (by decide)
set_option maxHeartbeats 4000000 in
set_option maxRecDepth 20000 in
theorem j_X13_wanted_1136_ok (X : Nat × (Nat → Int32)) {F L : Nat} (hF : 12 ≤ F) (hL : 276 ≤ L) (nn : Nat) (h : mx_H) {r : (Int32 × mx_H)} (hf : j_X13_wanted_1136 nn h = some r) : mx_S X F L 567 1136 [] [] h 0 0 (some (.int r.1), r.2, 0, 0) := by
  have hm : mx_mt 567 = some (yX13_wanted, cX13_wanted, 5, (some .boolean)) := mt_X13_wanted
  unfold j_X13_wanted_1136 at hf
  refine sx_ic (v := 0) hm dX13_wanted_1136 (by decide) ?_
  cases hf
  exact sx_ire hm dX13_wanted_1137 rfl (by decide)
set_option maxHeartbeats 4000000 in
set_option maxRecDepth 20000 in
theorem j_X13_wanted_982_ok (X : Nat × (Nat → Int32)) {F L : Nat} (hF : 12 ≤ F) (hL : 276 ≤ L) (nn : Nat) (l0 : Nat) (h : mx_H) {r : (Int32 × mx_H)} (hf : j_X13_wanted_982 nn l0 h = some r) : mx_S X F L 567 982 [(0, .ref l0)] [] h 0 0 (some (.int r.1), r.2, 0, 0) := by
  have hm : mx_mt 567 = some (yX13_wanted, cX13_wanted, 5, (some .boolean)) := mt_X13_wanted
  unfold j_X13_wanted_982 at hf
  refine mx_S.pu (pc2 := 983) (lv2 := [(0, .ref l0)]) (st2 := [.ref l0]) hm dX13_wanted_982 rfl ?_
  refine sx_ic (v := 1) hm dX13_wanted_983 (by decide) ?_
  replace hf := mx_gd_el hf; obtain ⟨c46, hf⟩ := hf
  replace hf := mx_sv_el hf; obtain ⟨u47, e_u47, hf⟩ := hf
  refine sx_cv hm dX13_wanted_984 rs_RX13_1028 mt_X13_comesBack [.int 1] [] (b := l0) (ci := 13) rfl rfl rfl c46 (Nat.le_of_ble_eq_true rfl) (Nat.le_of_ble_eq_true rfl) (by omega) (by omega) (f_X13_comesBack_ok X (by omega) (by omega) nn l0 1 h e_u47) ?_
  clear e_u47
  show mx_S X F L 567 987 [(0, .ref l0)] [.int u47.1] u47.2 0 0 (some (.int r.1), r.2, 0, 0)
  rcases mx_if_el hf with ⟨c48, hf⟩ | ⟨c48, hf⟩
  · refine sb_if_eq hm dX13_wanted_987 (tgt := 994) rfl (fun _ => ?_) (fun z => absurd c48 z)
    refine sx_ic (v := 0) hm dX13_wanted_994 (by decide) ?_
    cases hf
    exact sx_ire hm dX13_wanted_995 rfl (by decide)
  · refine sb_if_eq hm dX13_wanted_987 (tgt := 994) rfl (fun z => absurd z c48) (fun _ => ?_)
    refine sx_ic (v := 1) hm dX13_wanted_990 (by decide) ?_
    refine mx_S.pu (pc2 := 995) (lv2 := [(0, .ref l0)]) (st2 := [.int 1]) hm dX13_wanted_991 rfl ?_
    cases hf
    exact sx_ire hm dX13_wanted_995 rfl (by decide)
set_option maxHeartbeats 4000000 in
set_option maxRecDepth 20000 in
theorem j_X13_wanted_962_ok (X : Nat × (Nat → Int32)) {F L : Nat} (hF : 12 ≤ F) (hL : 276 ≤ L) (nn : Nat) (h : mx_H) {r : (Int32 × mx_H)} (hf : j_X13_wanted_962 nn h = some r) : mx_S X F L 567 962 [] [] h 0 0 (some (.int r.1), r.2, 0, 0) := by
  have hm : mx_mt 567 = some (yX13_wanted, cX13_wanted, 5, (some .boolean)) := mt_X13_wanted
  unfold j_X13_wanted_962 at hf
  refine sx_ic (v := 0) hm dX13_wanted_962 (by decide) ?_
  cases hf
  exact sx_ire hm dX13_wanted_963 rfl (by decide)
set_option maxHeartbeats 4000000 in
set_option maxRecDepth 20000 in
theorem j_X13_wanted_820_ok (X : Nat × (Nat → Int32)) {F L : Nat} (hF : 12 ≤ F) (hL : 276 ≤ L) (nn : Nat) (l0 : Nat) (h : mx_H) {r : (Int32 × mx_H)} (hf : j_X13_wanted_820 nn l0 h = some r) : mx_S X F L 567 820 [(0, .ref l0)] [] h 0 0 (some (.int r.1), r.2, 0, 0) := by
  have hm : mx_mt 567 = some (yX13_wanted, cX13_wanted, 5, (some .boolean)) := mt_X13_wanted
  unfold j_X13_wanted_820 at hf
  refine mx_S.pu (pc2 := 821) (lv2 := [(0, .ref l0)]) (st2 := [.ref l0]) hm dX13_wanted_820 rfl ?_
  refine sx_ic (v := 1) hm dX13_wanted_821 (by decide) ?_
  replace hf := mx_gd_el hf; obtain ⟨c49, hf⟩ := hf
  replace hf := mx_sv_el hf; obtain ⟨u50, e_u50, hf⟩ := hf
  refine sx_cv hm dX13_wanted_822 rs_RX13_1028 mt_X13_comesBack [.int 1] [] (b := l0) (ci := 13) rfl rfl rfl c49 (Nat.le_of_ble_eq_true rfl) (Nat.le_of_ble_eq_true rfl) (by omega) (by omega) (f_X13_comesBack_ok X (by omega) (by omega) nn l0 1 h e_u50) ?_
  clear e_u50
  show mx_S X F L 567 825 [(0, .ref l0)] [.int u50.1] u50.2 0 0 (some (.int r.1), r.2, 0, 0)
  replace hf := mx_gd_el hf; obtain ⟨c51, hf⟩ := hf
  cases hf
  exact sx_ire hm dX13_wanted_825 rfl (xbq_ok c51).1
set_option maxHeartbeats 4000000 in
set_option maxRecDepth 20000 in
theorem j_X13_wanted_812_ok (X : Nat × (Nat → Int32)) {F L : Nat} (hF : 12 ≤ F) (hL : 276 ≤ L) (nn : Nat) (h : mx_H) {r : (Int32 × mx_H)} (hf : j_X13_wanted_812 nn h = some r) : mx_S X F L 567 812 [] [] h 0 0 (some (.int r.1), r.2, 0, 0) := by
  have hm : mx_mt 567 = some (yX13_wanted, cX13_wanted, 5, (some .boolean)) := mt_X13_wanted
  unfold j_X13_wanted_812 at hf
  refine sx_ic (v := 1) hm dX13_wanted_812 (by decide) ?_
  cases hf
  exact sx_ire hm dX13_wanted_813 rfl (by decide)
set_option maxHeartbeats 4000000 in
set_option maxRecDepth 20000 in
theorem j_X13_wanted_25_ok (X : Nat × (Nat → Int32)) {F L : Nat} (hF : 12 ≤ F) (hL : 276 ≤ L) (nn : Nat) (l0 : Nat) (l2 : Int32) (s0 : Int32) (h : mx_H) {r : (Int32 × mx_H)} (hf : j_X13_wanted_25 nn l0 l2 s0 h = some r) : mx_S X F L 567 25 [(0, .ref l0), (2, .int l2)] [.int s0] h 0 0 (some (.int r.1), r.2, 0, 0) := by
  have hm : mx_mt 567 = some (yX13_wanted, cX13_wanted, 5, (some .boolean)) := mt_X13_wanted
  unfold j_X13_wanted_25 at hf
  refine mx_S.pu (pc2 := 26) (lv2 := [(3, .int s0), (0, .ref l0), (2, .int l2)]) (st2 := []) hm dX13_wanted_25 rfl ?_
  refine mx_S.pu (pc2 := 27) (lv2 := [(3, .int s0), (0, .ref l0), (2, .int l2)]) (st2 := [.int l2]) hm dX13_wanted_26 rfl ?_
  rcases mx_if_el hf with ⟨n_0, hf⟩ | ⟨n_0, hf⟩
  · refine sx_tin hm dX13_wanted_27 (by rw [n_0]; decide) (by rw [n_0]; decide) (off := 785) (by rw [n_0]; rfl) (tgt := 812) rfl ?_
    clear n_0
    refine mx_S.ext [] (mx_sub_pos [] rfl (show ([3, 0, 2] : List Nat).Nodup by decide)) ?_
    exact j_X13_wanted_812_ok X hF hL nn h hf
  · rcases mx_if_el hf with ⟨n_1, hf⟩ | ⟨n_1, hf⟩
    · refine sx_tin hm dX13_wanted_27 (by rw [n_1]; decide) (by rw [n_1]; decide) (off := 787) (by rw [n_1]; rfl) (tgt := 814) rfl ?_
      clear n_0 n_1
      refine mx_S.pu (pc2 := 815) (lv2 := [(3, .int s0), (0, .ref l0), (2, .int l2)]) (st2 := [.ref l0]) hm dX13_wanted_814 rfl ?_
      refine sx_ic (v := 2) hm dX13_wanted_815 (by decide) ?_
      replace hf := mx_gd_el hf; obtain ⟨c52, hf⟩ := hf
      replace hf := mx_sv_el hf; obtain ⟨u53, e_u53, hf⟩ := hf
      refine sx_cv hm dX13_wanted_816 rs_RX13_1028 mt_X13_comesBack [.int 2] [] (b := l0) (ci := 13) rfl rfl rfl c52 (Nat.le_of_ble_eq_true rfl) (Nat.le_of_ble_eq_true rfl) (by omega) (by omega) (f_X13_comesBack_ok X (by omega) (by omega) nn l0 2 h e_u53) ?_
      clear e_u53
      show mx_S X F L 567 819 [(3, .int s0), (0, .ref l0), (2, .int l2)] [.int u53.1] u53.2 0 0 (some (.int r.1), r.2, 0, 0)
      replace hf := mx_gd_el hf; obtain ⟨c54, hf⟩ := hf
      cases hf
      exact sx_ire hm dX13_wanted_819 rfl (xbq_ok c54).1
    · rcases mx_if_el hf with ⟨n_2, hf⟩ | ⟨n_2, hf⟩
      · refine sx_tin hm dX13_wanted_27 (by rw [n_2]; decide) (by rw [n_2]; decide) (off := 793) (by rw [n_2]; rfl) (tgt := 820) rfl ?_
        clear n_0 n_1 n_2
        refine mx_S.ext [(0, .ref l0)] (mx_sub_pos [1] rfl (show ([3, 0, 2] : List Nat).Nodup by decide)) ?_
        exact j_X13_wanted_820_ok X hF hL nn l0 h hf
      · rcases mx_if_el hf with ⟨n_3, hf⟩ | ⟨n_3, hf⟩
        · refine sx_tin hm dX13_wanted_27 (by rw [n_3]; decide) (by rw [n_3]; decide) (off := 793) (by rw [n_3]; rfl) (tgt := 820) rfl ?_
          clear n_0 n_1 n_2 n_3
          refine mx_S.ext [(0, .ref l0)] (mx_sub_pos [1] rfl (show ([3, 0, 2] : List Nat).Nodup by decide)) ?_
          exact j_X13_wanted_820_ok X hF hL nn l0 h hf
        · rcases mx_if_el hf with ⟨n_4, hf⟩ | ⟨n_4, hf⟩
          · refine sx_tin hm dX13_wanted_27 (by rw [n_4]; decide) (by rw [n_4]; decide) (off := 793) (by rw [n_4]; rfl) (tgt := 820) rfl ?_
            clear n_0 n_1 n_2 n_3 n_4
            refine mx_S.ext [(0, .ref l0)] (mx_sub_pos [1] rfl (show ([3, 0, 2] : List Nat).Nodup by decide)) ?_
            exact j_X13_wanted_820_ok X hF hL nn l0 h hf
          · rcases mx_if_el hf with ⟨n_5, hf⟩ | ⟨n_5, hf⟩
            · refine sx_tin hm dX13_wanted_27 (by rw [n_5]; decide) (by rw [n_5]; decide) (off := 793) (by rw [n_5]; rfl) (tgt := 820) rfl ?_
              clear n_0 n_1 n_2 n_3 n_4 n_5
              refine mx_S.ext [(0, .ref l0)] (mx_sub_pos [1] rfl (show ([3, 0, 2] : List Nat).Nodup by decide)) ?_
              exact j_X13_wanted_820_ok X hF hL nn l0 h hf
            · rcases mx_if_el hf with ⟨n_6, hf⟩ | ⟨n_6, hf⟩
              · refine sx_tin hm dX13_wanted_27 (by rw [n_6]; decide) (by rw [n_6]; decide) (off := 793) (by rw [n_6]; rfl) (tgt := 820) rfl ?_
                clear n_0 n_1 n_2 n_3 n_4 n_5 n_6
                refine mx_S.ext [(0, .ref l0)] (mx_sub_pos [1] rfl (show ([3, 0, 2] : List Nat).Nodup by decide)) ?_
                exact j_X13_wanted_820_ok X hF hL nn l0 h hf
              · rcases mx_if_el hf with ⟨n_7, hf⟩ | ⟨n_7, hf⟩
                · refine sx_tin hm dX13_wanted_27 (by rw [n_7]; decide) (by rw [n_7]; decide) (off := 793) (by rw [n_7]; rfl) (tgt := 820) rfl ?_
                  clear n_0 n_1 n_2 n_3 n_4 n_5 n_6 n_7
                  refine mx_S.ext [(0, .ref l0)] (mx_sub_pos [1] rfl (show ([3, 0, 2] : List Nat).Nodup by decide)) ?_
                  exact j_X13_wanted_820_ok X hF hL nn l0 h hf
                · rcases mx_if_el hf with ⟨n_8, hf⟩ | ⟨n_8, hf⟩
                  · refine sx_tin hm dX13_wanted_27 (by rw [n_8]; decide) (by rw [n_8]; decide) (off := 793) (by rw [n_8]; rfl) (tgt := 820) rfl ?_
                    clear n_0 n_1 n_2 n_3 n_4 n_5 n_6 n_7 n_8
                    refine mx_S.ext [(0, .ref l0)] (mx_sub_pos [1] rfl (show ([3, 0, 2] : List Nat).Nodup by decide)) ?_
                    exact j_X13_wanted_820_ok X hF hL nn l0 h hf
                  · rcases mx_if_el hf with ⟨n_9, hf⟩ | ⟨n_9, hf⟩
                    · refine sx_tin hm dX13_wanted_27 (by rw [n_9]; decide) (by rw [n_9]; decide) (off := 793) (by rw [n_9]; rfl) (tgt := 820) rfl ?_
                      clear n_0 n_1 n_2 n_3 n_4 n_5 n_6 n_7 n_8 n_9
                      refine mx_S.ext [(0, .ref l0)] (mx_sub_pos [1] rfl (show ([3, 0, 2] : List Nat).Nodup by decide)) ?_
                      exact j_X13_wanted_820_ok X hF hL nn l0 h hf
                    · rcases mx_if_el hf with ⟨n_10, hf⟩ | ⟨n_10, hf⟩
                      · refine sx_tin hm dX13_wanted_27 (by rw [n_10]; decide) (by rw [n_10]; decide) (off := 793) (by rw [n_10]; rfl) (tgt := 820) rfl ?_
                        clear n_0 n_1 n_2 n_3 n_4 n_5 n_6 n_7 n_8 n_9 n_10
                        refine mx_S.ext [(0, .ref l0)] (mx_sub_pos [1] rfl (show ([3, 0, 2] : List Nat).Nodup by decide)) ?_
                        exact j_X13_wanted_820_ok X hF hL nn l0 h hf
                      · rcases mx_if_el hf with ⟨n_11, hf⟩ | ⟨n_11, hf⟩
                        · refine sx_tin hm dX13_wanted_27 (by rw [n_11]; decide) (by rw [n_11]; decide) (off := 799) (by rw [n_11]; rfl) (tgt := 826) rfl ?_
                          clear n_0 n_1 n_2 n_3 n_4 n_5 n_6 n_7 n_8 n_9 n_10 n_11
                          refine mx_S.pu (pc2 := 827) (lv2 := [(3, .int s0), (0, .ref l0), (2, .int l2)]) (st2 := [.int s0]) hm dX13_wanted_826 rfl ?_
                          refine mx_S.pu (pc2 := 828) (lv2 := [(3, .int s0), (0, .ref l0), (2, .int l2)]) (st2 := [.ref l0, .int s0]) hm dX13_wanted_827 rfl ?_
                          replace hf := mx_sv_el hf; obtain ⟨v55, e_v55, hf⟩ := hf
                          refine sx_get hm dX13_wanted_828 rs_RX13_964 (xgi_el e_v55) ?_
                          clear e_v55
                          rcases mx_if_el hf with ⟨c62, hf⟩ | ⟨c62, hf⟩
                          · refine sb_ic_ge hm dX13_wanted_831 (tgt := 856) rfl (fun _ => ?_) (fun z => absurd c62 z)
                            refine sx_ic (v := 0) hm dX13_wanted_856 (by decide) ?_
                            cases hf
                            exact sx_ire hm dX13_wanted_857 rfl (by decide)
                          · refine sb_ic_ge hm dX13_wanted_831 (tgt := 856) rfl (fun z => absurd z c62) (fun _ => ?_)
                            refine mx_S.pu (pc2 := 835) (lv2 := [(3, .int s0), (0, .ref l0), (2, .int l2)]) (st2 := [.ref l0]) hm dX13_wanted_834 rfl ?_
                            replace hf := mx_sv_el hf; obtain ⟨v56, e_v56, hf⟩ := hf
                            refine sx_get hm dX13_wanted_835 rs_RX13_270 (xgr_el e_v56) ?_
                            clear e_v56
                            refine mx_S.pu (pc2 := 839) (lv2 := [(3, .int s0), (0, .ref l0), (2, .int l2)]) (st2 := [.int s0, .ref v56]) hm dX13_wanted_838 rfl ?_
                            replace hf := mx_sv_el hf; obtain ⟨v57, e_v57, hf⟩ := hf
                            refine sx_ald hm dX13_wanted_839 e_v57 ?_
                            clear e_v57
                            refine sx_ic (v := 1) hm dX13_wanted_840 (by decide) ?_
                            rcases mx_if_el hf with ⟨c61, hf⟩ | ⟨c61, hf⟩
                            · refine sb_ic_ne hm dX13_wanted_841 (tgt := 856) rfl (fun _ => ?_) (fun z => absurd c61 z)
                              refine sx_ic (v := 0) hm dX13_wanted_856 (by decide) ?_
                              cases hf
                              exact sx_ire hm dX13_wanted_857 rfl (by decide)
                            · refine sb_ic_ne hm dX13_wanted_841 (tgt := 856) rfl (fun z => absurd z c61) (fun _ => ?_)
                              refine mx_S.pu (pc2 := 845) (lv2 := [(3, .int s0), (0, .ref l0), (2, .int l2)]) (st2 := [.ref l0]) hm dX13_wanted_844 rfl ?_
                              refine sx_ic (v := 1) hm dX13_wanted_845 (by decide) ?_
                              replace hf := mx_gd_el hf; obtain ⟨c58, hf⟩ := hf
                              replace hf := mx_sv_el hf; obtain ⟨u59, e_u59, hf⟩ := hf
                              refine sx_cv hm dX13_wanted_846 rs_RX13_1028 mt_X13_comesBack [.int 1] [] (b := l0) (ci := 13) rfl rfl rfl c58 (Nat.le_of_ble_eq_true rfl) (Nat.le_of_ble_eq_true rfl) (by omega) (by omega) (f_X13_comesBack_ok X (by omega) (by omega) nn l0 1 h e_u59) ?_
                              clear e_u59
                              show mx_S X F L 567 849 [(3, .int s0), (0, .ref l0), (2, .int l2)] [.int u59.1] u59.2 0 0 (some (.int r.1), r.2, 0, 0)
                              rcases mx_if_el hf with ⟨c60, hf⟩ | ⟨c60, hf⟩
                              · refine sb_if_eq hm dX13_wanted_849 (tgt := 856) rfl (fun _ => ?_) (fun z => absurd c60 z)
                                refine sx_ic (v := 0) hm dX13_wanted_856 (by decide) ?_
                                cases hf
                                exact sx_ire hm dX13_wanted_857 rfl (by decide)
                              · refine sb_if_eq hm dX13_wanted_849 (tgt := 856) rfl (fun z => absurd z c60) (fun _ => ?_)
                                refine sx_ic (v := 1) hm dX13_wanted_852 (by decide) ?_
                                refine mx_S.pu (pc2 := 857) (lv2 := [(3, .int s0), (0, .ref l0), (2, .int l2)]) (st2 := [.int 1]) hm dX13_wanted_853 rfl ?_
                                cases hf
                                exact sx_ire hm dX13_wanted_857 rfl (by decide)
                        · rcases mx_if_el hf with ⟨n_12, hf⟩ | ⟨n_12, hf⟩
                          · refine sx_tin hm dX13_wanted_27 (by rw [n_12]; decide) (by rw [n_12]; decide) (off := 831) (by rw [n_12]; rfl) (tgt := 858) rfl ?_
                            clear n_0 n_1 n_2 n_3 n_4 n_5 n_6 n_7 n_8 n_9 n_10 n_11 n_12
                            refine mx_S.pu (pc2 := 859) (lv2 := [(3, .int s0), (0, .ref l0), (2, .int l2)]) (st2 := [.int s0]) hm dX13_wanted_858 rfl ?_
                            refine mx_S.pu (pc2 := 860) (lv2 := [(3, .int s0), (0, .ref l0), (2, .int l2)]) (st2 := [.ref l0, .int s0]) hm dX13_wanted_859 rfl ?_
                            replace hf := mx_sv_el hf; obtain ⟨v63, e_v63, hf⟩ := hf
                            refine sx_get hm dX13_wanted_860 rs_RX13_964 (xgi_el e_v63) ?_
                            clear e_v63
                            rcases mx_if_el hf with ⟨c72, hf⟩ | ⟨c72, hf⟩
                            · refine sb_ic_ge hm dX13_wanted_863 (tgt := 893) rfl (fun _ => ?_) (fun z => absurd c72 z)
                              refine sx_ic (v := 0) hm dX13_wanted_893 (by decide) ?_
                              cases hf
                              exact sx_ire hm dX13_wanted_894 rfl (by decide)
                            · refine sb_ic_ge hm dX13_wanted_863 (tgt := 893) rfl (fun z => absurd z c72) (fun _ => ?_)
                              refine mx_S.pu (pc2 := 867) (lv2 := [(3, .int s0), (0, .ref l0), (2, .int l2)]) (st2 := [.ref l0]) hm dX13_wanted_866 rfl ?_
                              replace hf := mx_sv_el hf; obtain ⟨v64, e_v64, hf⟩ := hf
                              refine sx_get hm dX13_wanted_867 rs_RX13_270 (xgr_el e_v64) ?_
                              clear e_v64
                              refine mx_S.pu (pc2 := 871) (lv2 := [(3, .int s0), (0, .ref l0), (2, .int l2)]) (st2 := [.int s0, .ref v64]) hm dX13_wanted_870 rfl ?_
                              replace hf := mx_sv_el hf; obtain ⟨v65, e_v65, hf⟩ := hf
                              refine sx_ald hm dX13_wanted_871 e_v65 ?_
                              clear e_v65
                              refine sx_ic (v := 2) hm dX13_wanted_872 (by decide) ?_
                              rcases mx_if_el hf with ⟨c71, hf⟩ | ⟨c71, hf⟩
                              · refine sb_ic_lt hm dX13_wanted_873 (tgt := 893) rfl (fun _ => ?_) (fun z => absurd c71 z)
                                refine sx_ic (v := 0) hm dX13_wanted_893 (by decide) ?_
                                cases hf
                                exact sx_ire hm dX13_wanted_894 rfl (by decide)
                              · refine sb_ic_lt hm dX13_wanted_873 (tgt := 893) rfl (fun z => absurd z c71) (fun _ => ?_)
                                refine mx_S.pu (pc2 := 877) (lv2 := [(3, .int s0), (0, .ref l0), (2, .int l2)]) (st2 := [.ref l0]) hm dX13_wanted_876 rfl ?_
                                refine mx_S.pu (pc2 := 878) (lv2 := [(3, .int s0), (0, .ref l0), (2, .int l2)]) (st2 := [.ref l0, .ref l0]) hm dX13_wanted_877 rfl ?_
                                replace hf := mx_sv_el hf; obtain ⟨v66, e_v66, hf⟩ := hf
                                refine sx_get hm dX13_wanted_878 rs_RX13_270 (xgr_el e_v66) ?_
                                clear e_v66
                                refine mx_S.pu (pc2 := 882) (lv2 := [(3, .int s0), (0, .ref l0), (2, .int l2)]) (st2 := [.int s0, .ref v66, .ref l0]) hm dX13_wanted_881 rfl ?_
                                replace hf := mx_sv_el hf; obtain ⟨v67, e_v67, hf⟩ := hf
                                refine sx_ald hm dX13_wanted_882 e_v67 ?_
                                clear e_v67
                                replace hf := mx_gd_el hf; obtain ⟨c68, hf⟩ := hf
                                replace hf := mx_sv_el hf; obtain ⟨u69, e_u69, hf⟩ := hf
                                refine sx_cv hm dX13_wanted_883 rs_RX13_1028 mt_X13_comesBack [.int v67] [] (b := l0) (ci := 13) rfl rfl rfl c68 (Nat.le_of_ble_eq_true rfl) (Nat.le_of_ble_eq_true rfl) (by omega) (by omega) (f_X13_comesBack_ok X (by omega) (by omega) nn l0 v67 h e_u69) ?_
                                clear e_u69
                                show mx_S X F L 567 886 [(3, .int s0), (0, .ref l0), (2, .int l2)] [.int u69.1] u69.2 0 0 (some (.int r.1), r.2, 0, 0)
                                rcases mx_if_el hf with ⟨c70, hf⟩ | ⟨c70, hf⟩
                                · refine sb_if_eq hm dX13_wanted_886 (tgt := 893) rfl (fun _ => ?_) (fun z => absurd c70 z)
                                  refine sx_ic (v := 0) hm dX13_wanted_893 (by decide) ?_
                                  cases hf
                                  exact sx_ire hm dX13_wanted_894 rfl (by decide)
                                · refine sb_if_eq hm dX13_wanted_886 (tgt := 893) rfl (fun z => absurd z c70) (fun _ => ?_)
                                  refine sx_ic (v := 1) hm dX13_wanted_889 (by decide) ?_
                                  refine mx_S.pu (pc2 := 894) (lv2 := [(3, .int s0), (0, .ref l0), (2, .int l2)]) (st2 := [.int 1]) hm dX13_wanted_890 rfl ?_
                                  cases hf
                                  exact sx_ire hm dX13_wanted_894 rfl (by decide)
                          · rcases mx_if_el hf with ⟨n_13, hf⟩ | ⟨n_13, hf⟩
                            · refine sx_tin hm dX13_wanted_27 (by rw [n_13]; decide) (by rw [n_13]; decide) (off := 927) (by rw [n_13]; rfl) (tgt := 954) rfl ?_
                              clear n_0 n_1 n_2 n_3 n_4 n_5 n_6 n_7 n_8 n_9 n_10 n_11 n_12 n_13
                              refine mx_S.pu (pc2 := 955) (lv2 := [(3, .int s0), (0, .ref l0), (2, .int l2)]) (st2 := [.ref l0]) hm dX13_wanted_954 rfl ?_
                              refine sx_ic (v := 1) hm dX13_wanted_955 (by decide) ?_
                              replace hf := mx_gd_el hf; obtain ⟨c73, hf⟩ := hf
                              replace hf := mx_sv_el hf; obtain ⟨u74, e_u74, hf⟩ := hf
                              refine sx_cv hm dX13_wanted_956 rs_RX13_1031 mt_X13_pullInts [.int 1] [] (b := l0) (ci := 13) rfl rfl rfl c73 (Nat.le_of_ble_eq_true rfl) (Nat.le_of_ble_eq_true rfl) (by omega) (by omega) (f_X13_pullInts_ok X (by omega) (by omega) nn l0 1 h e_u74) ?_
                              clear e_u74
                              show mx_S X F L 567 959 [(3, .int s0), (0, .ref l0), (2, .int l2)] [.int u74.1] u74.2 0 0 (some (.int r.1), r.2, 0, 0)
                              rcases mx_if_el hf with ⟨c79, hf⟩ | ⟨c79, hf⟩
                              · refine sb_if_ne hm dX13_wanted_959 (tgt := 964) rfl (fun _ => ?_) (fun z => absurd c79 z)
                                refine mx_S.pu (pc2 := 965) (lv2 := [(3, .int s0), (0, .ref l0), (2, .int l2)]) (st2 := [.ref l0]) hm dX13_wanted_964 rfl ?_
                                replace hf := mx_gd_el hf; obtain ⟨c75, hf⟩ := hf
                                replace hf := mx_sv_el hf; obtain ⟨u76, e_u76, hf⟩ := hf
                                refine sx_cv hm dX13_wanted_965 rs_RX13_1025 mt_X13_pull [] [] (b := l0) (ci := 13) rfl rfl rfl c75 (Nat.le_of_ble_eq_true rfl) (Nat.le_of_ble_eq_true rfl) (by omega) (by omega) (f_X13_pull_ok X (by omega) (by omega) nn l0 u74.2 e_u76) ?_
                                clear e_u76
                                show mx_S X F L 567 968 [(3, .int s0), (0, .ref l0), (2, .int l2)] [.int u76.1] u76.2 0 0 (some (.int r.1), r.2, 0, 0)
                                refine mx_S.pu (pc2 := 970) (lv2 := [(4, .int u76.1), (3, .int s0), (0, .ref l0), (2, .int l2)]) (st2 := []) hm dX13_wanted_968 rfl ?_
                                refine mx_S.pu (pc2 := 972) (lv2 := [(4, .int u76.1), (3, .int s0), (0, .ref l0), (2, .int l2)]) (st2 := [.int u76.1]) hm dX13_wanted_970 rfl ?_
                                refine sx_ic (v := 3) hm dX13_wanted_972 (by decide) ?_
                                rcases mx_if_el hf with ⟨c78, hf⟩ | ⟨c78, hf⟩
                                · refine sb_ic_eq hm dX13_wanted_973 (tgt := 982) rfl (fun _ => ?_) (fun z => absurd c78 z)
                                  refine mx_S.ext [(0, .ref l0)] (mx_sub_pos [2] rfl (show ([4, 3, 0, 2] : List Nat).Nodup by decide)) ?_
                                  exact j_X13_wanted_982_ok X hF hL nn l0 u76.2 hf
                                · refine sb_ic_eq hm dX13_wanted_973 (tgt := 982) rfl (fun z => absurd z c78) (fun _ => ?_)
                                  refine mx_S.pu (pc2 := 978) (lv2 := [(4, .int u76.1), (3, .int s0), (0, .ref l0), (2, .int l2)]) (st2 := [.int u76.1]) hm dX13_wanted_976 rfl ?_
                                  refine sx_ic (v := 2) hm dX13_wanted_978 (by decide) ?_
                                  rcases mx_if_el hf with ⟨c77, hf⟩ | ⟨c77, hf⟩
                                  · refine sb_ic_ne hm dX13_wanted_979 (tgt := 994) rfl (fun _ => ?_) (fun z => absurd c77 z)
                                    refine sx_ic (v := 0) hm dX13_wanted_994 (by decide) ?_
                                    cases hf
                                    exact sx_ire hm dX13_wanted_995 rfl (by decide)
                                  · refine sb_ic_ne hm dX13_wanted_979 (tgt := 994) rfl (fun z => absurd z c77) (fun _ => ?_)
                                    refine mx_S.ext [(0, .ref l0)] (mx_sub_pos [2] rfl (show ([4, 3, 0, 2] : List Nat).Nodup by decide)) ?_
                                    exact j_X13_wanted_982_ok X hF hL nn l0 u76.2 hf
                              · refine sb_if_ne hm dX13_wanted_959 (tgt := 964) rfl (fun z => absurd z c79) (fun _ => ?_)
                                refine mx_S.ext [] (mx_sub_pos [] rfl (show ([3, 0, 2] : List Nat).Nodup by decide)) ?_
                                exact j_X13_wanted_962_ok X hF hL nn u74.2 hf
                            · rcases mx_if_el hf with ⟨n_14, hf⟩ | ⟨n_14, hf⟩
                              · refine sx_tin hm dX13_wanted_27 (by rw [n_14]; decide) (by rw [n_14]; decide) (off := 969) (by rw [n_14]; rfl) (tgt := 996) rfl ?_
                                clear n_0 n_1 n_2 n_3 n_4 n_5 n_6 n_7 n_8 n_9 n_10 n_11 n_12 n_13 n_14
                                refine mx_S.pu (pc2 := 997) (lv2 := [(3, .int s0), (0, .ref l0), (2, .int l2)]) (st2 := [.ref l0]) hm dX13_wanted_996 rfl ?_
                                refine sx_ic (v := 1) hm dX13_wanted_997 (by decide) ?_
                                replace hf := mx_gd_el hf; obtain ⟨c80, hf⟩ := hf
                                replace hf := mx_sv_el hf; obtain ⟨u81, e_u81, hf⟩ := hf
                                refine sx_cv hm dX13_wanted_998 rs_RX13_1031 mt_X13_pullInts [.int 1] [] (b := l0) (ci := 13) rfl rfl rfl c80 (Nat.le_of_ble_eq_true rfl) (Nat.le_of_ble_eq_true rfl) (by omega) (by omega) (f_X13_pullInts_ok X (by omega) (by omega) nn l0 1 h e_u81) ?_
                                clear e_u81
                                show mx_S X F L 567 1001 [(3, .int s0), (0, .ref l0), (2, .int l2)] [.int u81.1] u81.2 0 0 (some (.int r.1), r.2, 0, 0)
                                rcases mx_if_el hf with ⟨c95, hf⟩ | ⟨c95, hf⟩
                                · refine sb_if_ne hm dX13_wanted_1001 (tgt := 1006) rfl (fun _ => ?_) (fun z => absurd c95 z)
                                  refine mx_S.pu (pc2 := 1007) (lv2 := [(3, .int s0), (0, .ref l0), (2, .int l2)]) (st2 := [.ref l0]) hm dX13_wanted_1006 rfl ?_
                                  replace hf := mx_gd_el hf; obtain ⟨c82, hf⟩ := hf
                                  replace hf := mx_sv_el hf; obtain ⟨u83, e_u83, hf⟩ := hf
                                  refine sx_cv hm dX13_wanted_1007 rs_RX13_1025 mt_X13_pull [] [] (b := l0) (ci := 13) rfl rfl rfl c82 (Nat.le_of_ble_eq_true rfl) (Nat.le_of_ble_eq_true rfl) (by omega) (by omega) (f_X13_pull_ok X (by omega) (by omega) nn l0 u81.2 e_u83) ?_
                                  clear e_u83
                                  show mx_S X F L 567 1010 [(3, .int s0), (0, .ref l0), (2, .int l2)] [.int u83.1] u83.2 0 0 (some (.int r.1), r.2, 0, 0)
                                  refine mx_S.pu (pc2 := 1012) (lv2 := [(4, .int u83.1), (3, .int s0), (0, .ref l0), (2, .int l2)]) (st2 := []) hm dX13_wanted_1010 rfl ?_
                                  refine mx_S.pu (pc2 := 1014) (lv2 := [(4, .int u83.1), (3, .int s0), (0, .ref l0), (2, .int l2)]) (st2 := [.int u83.1]) hm dX13_wanted_1012 rfl ?_
                                  refine sx_ic (v := 2) hm dX13_wanted_1014 (by decide) ?_
                                  rcases mx_if_el hf with ⟨c94, hf⟩ | ⟨c94, hf⟩
                                  · refine sb_ic_ne hm dX13_wanted_1015 (tgt := 1024) rfl (fun _ => ?_) (fun z => absurd c94 z)
                                    refine mx_S.pu (pc2 := 1026) (lv2 := [(4, .int u83.1), (3, .int s0), (0, .ref l0), (2, .int l2)]) (st2 := [.int u83.1]) hm dX13_wanted_1024 rfl ?_
                                    refine sx_ic (v := 3) hm dX13_wanted_1026 (by decide) ?_
                                    rcases mx_if_el hf with ⟨c90, hf⟩ | ⟨c90, hf⟩
                                    · refine sb_ic_le hm dX13_wanted_1027 (tgt := 1053) rfl (fun _ => ?_) (fun z => absurd c90 z)
                                      refine sx_ic (v := 0) hm dX13_wanted_1053 (by decide) ?_
                                      cases hf
                                      exact sx_ire hm dX13_wanted_1054 rfl (by decide)
                                    · refine sb_ic_le hm dX13_wanted_1027 (tgt := 1053) rfl (fun z => absurd z c90) (fun _ => ?_)
                                      refine mx_S.pu (pc2 := 1032) (lv2 := [(4, .int u83.1), (3, .int s0), (0, .ref l0), (2, .int l2)]) (st2 := [.int u83.1]) hm dX13_wanted_1030 rfl ?_
                                      replace hf := mx_sv_el hf; obtain ⟨u84, e_u84, hf⟩ := hf
                                      refine sx_cs hm dX13_wanted_1032 rs_RX13_888 mt_X13_isRow [.int u83.1] [] rfl rfl (Nat.le_of_ble_eq_true rfl) (Nat.le_of_ble_eq_true rfl) (by omega) (by omega) (f_X13_isRow_ok X (by omega) (by omega) nn u83.1 u83.2 e_u84) ?_
                                      clear e_u84
                                      show mx_S X F L 567 1035 [(4, .int u83.1), (3, .int s0), (0, .ref l0), (2, .int l2)] [.int u84.1] u84.2 0 0 (some (.int r.1), r.2, 0, 0)
                                      rcases mx_if_el hf with ⟨c89, hf⟩ | ⟨c89, hf⟩
                                      · refine sb_if_eq hm dX13_wanted_1035 (tgt := 1053) rfl (fun _ => ?_) (fun z => absurd c89 z)
                                        refine sx_ic (v := 0) hm dX13_wanted_1053 (by decide) ?_
                                        cases hf
                                        exact sx_ire hm dX13_wanted_1054 rfl (by decide)
                                      · refine sb_if_eq hm dX13_wanted_1035 (tgt := 1053) rfl (fun z => absurd z c89) (fun _ => ?_)
                                        refine mx_S.pu (pc2 := 1039) (lv2 := [(4, .int u83.1), (3, .int s0), (0, .ref l0), (2, .int l2)]) (st2 := [.ref l0]) hm dX13_wanted_1038 rfl ?_
                                        refine mx_S.pu (pc2 := 1041) (lv2 := [(4, .int u83.1), (3, .int s0), (0, .ref l0), (2, .int l2)]) (st2 := [.int u83.1, .ref l0]) hm dX13_wanted_1039 rfl ?_
                                        refine sx_ic (v := 1) hm dX13_wanted_1041 (by decide) ?_
                                        replace hf := xl_el hf; obtain ⟨v85, e_v85, hf⟩ := hf
                                        refine mx_S.pu (pc2 := 1043) (lv2 := [(4, .int u83.1), (3, .int s0), (0, .ref l0), (2, .int l2)]) (st2 := [.int v85, .ref l0]) hm dX13_wanted_1042 (by rw [← e_v85]; rfl) ?_
                                        clear e_v85
                                        replace hf := mx_gd_el hf; obtain ⟨c86, hf⟩ := hf
                                        replace hf := mx_sv_el hf; obtain ⟨u87, e_u87, hf⟩ := hf
                                        refine sx_cv hm dX13_wanted_1043 rs_RX13_1028 mt_X13_comesBack [.int v85] [] (b := l0) (ci := 13) rfl rfl rfl c86 (Nat.le_of_ble_eq_true rfl) (Nat.le_of_ble_eq_true rfl) (by omega) (by omega) (f_X13_comesBack_ok X (by omega) (by omega) nn l0 v85 u84.2 e_u87) ?_
                                        clear e_u87
                                        show mx_S X F L 567 1046 [(4, .int u83.1), (3, .int s0), (0, .ref l0), (2, .int l2)] [.int u87.1] u87.2 0 0 (some (.int r.1), r.2, 0, 0)
                                        rcases mx_if_el hf with ⟨c88, hf⟩ | ⟨c88, hf⟩
                                        · refine sb_if_eq hm dX13_wanted_1046 (tgt := 1053) rfl (fun _ => ?_) (fun z => absurd c88 z)
                                          refine sx_ic (v := 0) hm dX13_wanted_1053 (by decide) ?_
                                          cases hf
                                          exact sx_ire hm dX13_wanted_1054 rfl (by decide)
                                        · refine sb_if_eq hm dX13_wanted_1046 (tgt := 1053) rfl (fun z => absurd z c88) (fun _ => ?_)
                                          refine sx_ic (v := 1) hm dX13_wanted_1049 (by decide) ?_
                                          refine mx_S.pu (pc2 := 1054) (lv2 := [(4, .int u83.1), (3, .int s0), (0, .ref l0), (2, .int l2)]) (st2 := [.int 1]) hm dX13_wanted_1050 rfl ?_
                                          cases hf
                                          exact sx_ire hm dX13_wanted_1054 rfl (by decide)
                                  · refine sb_ic_ne hm dX13_wanted_1015 (tgt := 1024) rfl (fun z => absurd z c94) (fun _ => ?_)
                                    refine mx_S.pu (pc2 := 1019) (lv2 := [(4, .int u83.1), (3, .int s0), (0, .ref l0), (2, .int l2)]) (st2 := [.ref l0]) hm dX13_wanted_1018 rfl ?_
                                    refine sx_ic (v := 2) hm dX13_wanted_1019 (by decide) ?_
                                    replace hf := mx_gd_el hf; obtain ⟨c91, hf⟩ := hf
                                    replace hf := mx_sv_el hf; obtain ⟨u92, e_u92, hf⟩ := hf
                                    refine sx_cv hm dX13_wanted_1020 rs_RX13_1028 mt_X13_comesBack [.int 2] [] (b := l0) (ci := 13) rfl rfl rfl c91 (Nat.le_of_ble_eq_true rfl) (Nat.le_of_ble_eq_true rfl) (by omega) (by omega) (f_X13_comesBack_ok X (by omega) (by omega) nn l0 2 u83.2 e_u92) ?_
                                    clear e_u92
                                    show mx_S X F L 567 1023 [(4, .int u83.1), (3, .int s0), (0, .ref l0), (2, .int l2)] [.int u92.1] u92.2 0 0 (some (.int r.1), r.2, 0, 0)
                                    replace hf := mx_gd_el hf; obtain ⟨c93, hf⟩ := hf
                                    cases hf
                                    exact sx_ire hm dX13_wanted_1023 rfl (xbq_ok c93).1
                                · refine sb_if_ne hm dX13_wanted_1001 (tgt := 1006) rfl (fun z => absurd z c95) (fun _ => ?_)
                                  refine sx_ic (v := 0) hm dX13_wanted_1004 (by decide) ?_
                                  cases hf
                                  exact sx_ire hm dX13_wanted_1005 rfl (by decide)
                              · rcases mx_if_el hf with ⟨n_15, hf⟩ | ⟨n_15, hf⟩
                                · refine sx_tin hm dX13_wanted_27 (by rw [n_15]; decide) (by rw [n_15]; decide) (off := 868) (by rw [n_15]; rfl) (tgt := 895) rfl ?_
                                  clear n_0 n_1 n_2 n_3 n_4 n_5 n_6 n_7 n_8 n_9 n_10 n_11 n_12 n_13 n_14 n_15
                                  refine mx_S.pu (pc2 := 896) (lv2 := [(3, .int s0), (0, .ref l0), (2, .int l2)]) (st2 := [.int s0]) hm dX13_wanted_895 rfl ?_
                                  refine mx_S.pu (pc2 := 897) (lv2 := [(3, .int s0), (0, .ref l0), (2, .int l2)]) (st2 := [.ref l0, .int s0]) hm dX13_wanted_896 rfl ?_
                                  replace hf := mx_sv_el hf; obtain ⟨v96, e_v96, hf⟩ := hf
                                  refine sx_get hm dX13_wanted_897 rs_RX13_964 (xgi_el e_v96) ?_
                                  clear e_v96
                                  rcases mx_if_el hf with ⟨c102, hf⟩ | ⟨c102, hf⟩
                                  · refine sb_ic_ge hm dX13_wanted_900 (tgt := 911) rfl (fun _ => ?_) (fun z => absurd c102 z)
                                    refine sx_ic (v := 0) hm dX13_wanted_911 (by decide) ?_
                                    cases hf
                                    exact sx_ire hm dX13_wanted_912 rfl (by decide)
                                  · refine sb_ic_ge hm dX13_wanted_900 (tgt := 911) rfl (fun z => absurd z c102) (fun _ => ?_)
                                    refine mx_S.pu (pc2 := 904) (lv2 := [(3, .int s0), (0, .ref l0), (2, .int l2)]) (st2 := [.ref l0]) hm dX13_wanted_903 rfl ?_
                                    replace hf := mx_gd_el hf; obtain ⟨c97, hf⟩ := hf
                                    replace hf := mx_sv_el hf; obtain ⟨u98, e_u98, hf⟩ := hf
                                    refine sx_cv hm dX13_wanted_904 rs_RX13_1025 mt_X13_pull [] [] (b := l0) (ci := 13) rfl rfl rfl c97 (Nat.le_of_ble_eq_true rfl) (Nat.le_of_ble_eq_true rfl) (by omega) (by omega) (f_X13_pull_ok X (by omega) (by omega) nn l0 h e_u98) ?_
                                    clear e_u98
                                    show mx_S X F L 567 907 [(3, .int s0), (0, .ref l0), (2, .int l2)] [.int u98.1] u98.2 0 0 (some (.int r.1), r.2, 0, 0)
                                    refine sx_ic (v := 1) hm dX13_wanted_907 (by decide) ?_
                                    rcases mx_if_el hf with ⟨c101, hf⟩ | ⟨c101, hf⟩
                                    · refine sb_ic_eq hm dX13_wanted_908 (tgt := 913) rfl (fun _ => ?_) (fun z => absurd c101 z)
                                      refine mx_S.pu (pc2 := 914) (lv2 := [(3, .int s0), (0, .ref l0), (2, .int l2)]) (st2 := [.ref l0]) hm dX13_wanted_913 rfl ?_
                                      replace hf := mx_sv_el hf; obtain ⟨v99, e_v99, hf⟩ := hf
                                      refine sx_get hm dX13_wanted_914 rs_RX13_270 (xgr_el e_v99) ?_
                                      clear e_v99
                                      refine mx_S.pu (pc2 := 918) (lv2 := [(3, .int s0), (0, .ref l0), (2, .int l2)]) (st2 := [.int s0, .ref v99]) hm dX13_wanted_917 rfl ?_
                                      refine sx_ic (v := 1) hm dX13_wanted_918 (by decide) ?_
                                      replace hf := mx_sv_el hf; obtain ⟨h100, e_h100, hf⟩ := hf
                                      refine sx_ast hm dX13_wanted_919 e_h100 ?_
                                      clear e_h100
                                      refine sx_ic (v := 1) hm dX13_wanted_920 (by decide) ?_
                                      cases hf
                                      exact sx_ire hm dX13_wanted_921 rfl (by decide)
                                    · refine sb_ic_eq hm dX13_wanted_908 (tgt := 913) rfl (fun z => absurd z c101) (fun _ => ?_)
                                      refine sx_ic (v := 0) hm dX13_wanted_911 (by decide) ?_
                                      cases hf
                                      exact sx_ire hm dX13_wanted_912 rfl (by decide)
                                · rcases mx_if_el hf with ⟨n_16, hf⟩ | ⟨n_16, hf⟩
                                  · refine sx_tin hm dX13_wanted_27 (by rw [n_16]; decide) (by rw [n_16]; decide) (off := 895) (by rw [n_16]; rfl) (tgt := 922) rfl ?_
                                    clear n_0 n_1 n_2 n_3 n_4 n_5 n_6 n_7 n_8 n_9 n_10 n_11 n_12 n_13 n_14 n_15 n_16
                                    refine mx_S.pu (pc2 := 923) (lv2 := [(3, .int s0), (0, .ref l0), (2, .int l2)]) (st2 := [.ref l0]) hm dX13_wanted_922 rfl ?_
                                    replace hf := mx_gd_el hf; obtain ⟨c103, hf⟩ := hf
                                    replace hf := mx_sv_el hf; obtain ⟨u104, e_u104, hf⟩ := hf
                                    refine sx_cv hm dX13_wanted_923 rs_RX13_1025 mt_X13_pull [] [] (b := l0) (ci := 13) rfl rfl rfl c103 (Nat.le_of_ble_eq_true rfl) (Nat.le_of_ble_eq_true rfl) (by omega) (by omega) (f_X13_pull_ok X (by omega) (by omega) nn l0 h e_u104) ?_
                                    clear e_u104
                                    show mx_S X F L 567 926 [(3, .int s0), (0, .ref l0), (2, .int l2)] [.int u104.1] u104.2 0 0 (some (.int r.1), r.2, 0, 0)
                                    refine mx_S.pu (pc2 := 928) (lv2 := [(4, .int u104.1), (3, .int s0), (0, .ref l0), (2, .int l2)]) (st2 := []) hm dX13_wanted_926 rfl ?_
                                    refine mx_S.pu (pc2 := 929) (lv2 := [(4, .int u104.1), (3, .int s0), (0, .ref l0), (2, .int l2)]) (st2 := [.int s0]) hm dX13_wanted_928 rfl ?_
                                    refine mx_S.pu (pc2 := 930) (lv2 := [(4, .int u104.1), (3, .int s0), (0, .ref l0), (2, .int l2)]) (st2 := [.ref l0, .int s0]) hm dX13_wanted_929 rfl ?_
                                    replace hf := mx_sv_el hf; obtain ⟨v105, e_v105, hf⟩ := hf
                                    refine sx_get hm dX13_wanted_930 rs_RX13_964 (xgi_el e_v105) ?_
                                    clear e_v105
                                    rcases mx_if_el hf with ⟨c109, hf⟩ | ⟨c109, hf⟩
                                    · refine sb_ic_ge hm dX13_wanted_933 (tgt := 942) rfl (fun _ => ?_) (fun z => absurd c109 z)
                                      refine sx_ic (v := 0) hm dX13_wanted_942 (by decide) ?_
                                      cases hf
                                      exact sx_ire hm dX13_wanted_943 rfl (by decide)
                                    · refine sb_ic_ge hm dX13_wanted_933 (tgt := 942) rfl (fun z => absurd z c109) (fun _ => ?_)
                                      refine mx_S.pu (pc2 := 938) (lv2 := [(4, .int u104.1), (3, .int s0), (0, .ref l0), (2, .int l2)]) (st2 := [.int u104.1]) hm dX13_wanted_936 rfl ?_
                                      refine sx_ic (v := 2) hm dX13_wanted_938 (by decide) ?_
                                      rcases mx_if_el hf with ⟨c108, hf⟩ | ⟨c108, hf⟩
                                      · refine sb_ic_ge hm dX13_wanted_939 (tgt := 944) rfl (fun _ => ?_) (fun z => absurd c108 z)
                                        refine mx_S.pu (pc2 := 945) (lv2 := [(4, .int u104.1), (3, .int s0), (0, .ref l0), (2, .int l2)]) (st2 := [.ref l0]) hm dX13_wanted_944 rfl ?_
                                        replace hf := mx_sv_el hf; obtain ⟨v106, e_v106, hf⟩ := hf
                                        refine sx_get hm dX13_wanted_945 rs_RX13_270 (xgr_el e_v106) ?_
                                        clear e_v106
                                        refine mx_S.pu (pc2 := 949) (lv2 := [(4, .int u104.1), (3, .int s0), (0, .ref l0), (2, .int l2)]) (st2 := [.int s0, .ref v106]) hm dX13_wanted_948 rfl ?_
                                        refine mx_S.pu (pc2 := 951) (lv2 := [(4, .int u104.1), (3, .int s0), (0, .ref l0), (2, .int l2)]) (st2 := [.int u104.1, .int s0, .ref v106]) hm dX13_wanted_949 rfl ?_
                                        replace hf := mx_sv_el hf; obtain ⟨h107, e_h107, hf⟩ := hf
                                        refine sx_ast hm dX13_wanted_951 e_h107 ?_
                                        clear e_h107
                                        refine sx_ic (v := 1) hm dX13_wanted_952 (by decide) ?_
                                        cases hf
                                        exact sx_ire hm dX13_wanted_953 rfl (by decide)
                                      · refine sb_ic_ge hm dX13_wanted_939 (tgt := 944) rfl (fun z => absurd z c108) (fun _ => ?_)
                                        refine sx_ic (v := 0) hm dX13_wanted_942 (by decide) ?_
                                        cases hf
                                        exact sx_ire hm dX13_wanted_943 rfl (by decide)
                                  · rcases mx_if_el hf with ⟨n_17, hf⟩ | ⟨n_17, hf⟩
                                    · refine sx_tin hm dX13_wanted_27 (by rw [n_17]; decide) (by rw [n_17]; decide) (off := 1028) (by rw [n_17]; rfl) (tgt := 1055) rfl ?_
                                      clear n_0 n_1 n_2 n_3 n_4 n_5 n_6 n_7 n_8 n_9 n_10 n_11 n_12 n_13 n_14 n_15 n_16 n_17
                                      refine mx_S.pu (pc2 := 1056) (lv2 := [(3, .int s0), (0, .ref l0), (2, .int l2)]) (st2 := [.ref l0]) hm dX13_wanted_1055 rfl ?_
                                      refine sx_ic (v := 2) hm dX13_wanted_1056 (by decide) ?_
                                      replace hf := mx_gd_el hf; obtain ⟨c110, hf⟩ := hf
                                      replace hf := mx_sv_el hf; obtain ⟨u111, e_u111, hf⟩ := hf
                                      refine sx_cv hm dX13_wanted_1057 rs_RX13_1031 mt_X13_pullInts [.int 2] [] (b := l0) (ci := 13) rfl rfl rfl c110 (Nat.le_of_ble_eq_true rfl) (Nat.le_of_ble_eq_true rfl) (by omega) (by omega) (f_X13_pullInts_ok X (by omega) (by omega) nn l0 2 h e_u111) ?_
                                      clear e_u111
                                      show mx_S X F L 567 1060 [(3, .int s0), (0, .ref l0), (2, .int l2)] [.int u111.1] u111.2 0 0 (some (.int r.1), r.2, 0, 0)
                                      rcases mx_if_el hf with ⟨c116, hf⟩ | ⟨c116, hf⟩
                                      · refine sb_if_ne hm dX13_wanted_1060 (tgt := 1065) rfl (fun _ => ?_) (fun z => absurd c116 z)
                                        refine mx_S.pu (pc2 := 1066) (lv2 := [(3, .int s0), (0, .ref l0), (2, .int l2)]) (st2 := [.ref l0]) hm dX13_wanted_1065 rfl ?_
                                        replace hf := mx_gd_el hf; obtain ⟨c112, hf⟩ := hf
                                        replace hf := mx_sv_el hf; obtain ⟨u113, e_u113, hf⟩ := hf
                                        refine sx_cv hm dX13_wanted_1066 rs_RX13_1025 mt_X13_pull [] [] (b := l0) (ci := 13) rfl rfl rfl c112 (Nat.le_of_ble_eq_true rfl) (Nat.le_of_ble_eq_true rfl) (by omega) (by omega) (f_X13_pull_ok X (by omega) (by omega) nn l0 u111.2 e_u113) ?_
                                        clear e_u113
                                        show mx_S X F L 567 1069 [(3, .int s0), (0, .ref l0), (2, .int l2)] [.int u113.1] u113.2 0 0 (some (.int r.1), r.2, 0, 0)
                                        refine mx_S.pu (pc2 := 1071) (lv2 := [(4, .int u113.1), (3, .int s0), (0, .ref l0), (2, .int l2)]) (st2 := []) hm dX13_wanted_1069 rfl ?_
                                        refine mx_S.pu (pc2 := 1073) (lv2 := [(4, .int u113.1), (3, .int s0), (0, .ref l0), (2, .int l2)]) (st2 := [.int u113.1]) hm dX13_wanted_1071 rfl ?_
                                        refine sx_ic (v := 3) hm dX13_wanted_1073 (by decide) ?_
                                        rcases mx_if_el hf with ⟨c115, hf⟩ | ⟨c115, hf⟩
                                        · refine sb_ic_eq hm dX13_wanted_1074 (tgt := 1083) rfl (fun _ => ?_) (fun z => absurd c115 z)
                                          refine sx_ic (v := 1) hm dX13_wanted_1083 (by decide) ?_
                                          refine mx_S.pu (pc2 := 1088) (lv2 := [(4, .int u113.1), (3, .int s0), (0, .ref l0), (2, .int l2)]) (st2 := [.int 1]) hm dX13_wanted_1084 rfl ?_
                                          cases hf
                                          exact sx_ire hm dX13_wanted_1088 rfl (by decide)
                                        · refine sb_ic_eq hm dX13_wanted_1074 (tgt := 1083) rfl (fun z => absurd z c115) (fun _ => ?_)
                                          refine mx_S.pu (pc2 := 1079) (lv2 := [(4, .int u113.1), (3, .int s0), (0, .ref l0), (2, .int l2)]) (st2 := [.int u113.1]) hm dX13_wanted_1077 rfl ?_
                                          refine sx_ic (v := 2) hm dX13_wanted_1079 (by decide) ?_
                                          rcases mx_if_el hf with ⟨c114, hf⟩ | ⟨c114, hf⟩
                                          · refine sb_ic_ne hm dX13_wanted_1080 (tgt := 1087) rfl (fun _ => ?_) (fun z => absurd c114 z)
                                            refine sx_ic (v := 0) hm dX13_wanted_1087 (by decide) ?_
                                            cases hf
                                            exact sx_ire hm dX13_wanted_1088 rfl (by decide)
                                          · refine sb_ic_ne hm dX13_wanted_1080 (tgt := 1087) rfl (fun z => absurd z c114) (fun _ => ?_)
                                            refine sx_ic (v := 1) hm dX13_wanted_1083 (by decide) ?_
                                            refine mx_S.pu (pc2 := 1088) (lv2 := [(4, .int u113.1), (3, .int s0), (0, .ref l0), (2, .int l2)]) (st2 := [.int 1]) hm dX13_wanted_1084 rfl ?_
                                            cases hf
                                            exact sx_ire hm dX13_wanted_1088 rfl (by decide)
                                      · refine sb_if_ne hm dX13_wanted_1060 (tgt := 1065) rfl (fun z => absurd z c116) (fun _ => ?_)
                                        refine sx_ic (v := 0) hm dX13_wanted_1063 (by decide) ?_
                                        cases hf
                                        exact sx_ire hm dX13_wanted_1064 rfl (by decide)
                                    · rcases mx_if_el hf with ⟨n_18, hf⟩ | ⟨n_18, hf⟩
                                      · refine sx_tin hm dX13_wanted_27 (by rw [n_18]; decide) (by rw [n_18]; decide) (off := 1062) (by rw [n_18]; rfl) (tgt := 1089) rfl ?_
                                        clear n_0 n_1 n_2 n_3 n_4 n_5 n_6 n_7 n_8 n_9 n_10 n_11 n_12 n_13 n_14 n_15 n_16 n_17 n_18
                                        refine mx_S.pu (pc2 := 1090) (lv2 := [(3, .int s0), (0, .ref l0), (2, .int l2)]) (st2 := [.ref l0]) hm dX13_wanted_1089 rfl ?_
                                        replace hf := mx_gd_el hf; obtain ⟨c117, hf⟩ := hf
                                        replace hf := mx_sv_el hf; obtain ⟨u118, e_u118, hf⟩ := hf
                                        refine sx_cv hm dX13_wanted_1090 rs_RX13_1034 mt_X13_pullThing [] [] (b := l0) (ci := 13) rfl rfl rfl c117 (Nat.le_of_ble_eq_true rfl) (Nat.le_of_ble_eq_true rfl) (by omega) (by omega) (f_X13_pullThing_ok X (by omega) (by omega) nn l0 h e_u118) ?_
                                        clear e_u118
                                        show mx_S X F L 567 1093 [(3, .int s0), (0, .ref l0), (2, .int l2)] [.int u118.1] u118.2 0 0 (some (.int r.1), r.2, 0, 0)
                                        rcases mx_if_el hf with ⟨c128, hf⟩ | ⟨c128, hf⟩
                                        · refine sb_if_eq hm dX13_wanted_1093 (tgt := 1104) rfl (fun _ => ?_) (fun z => absurd c128 z)
                                          refine sx_ic (v := 0) hm dX13_wanted_1104 (by decide) ?_
                                          cases hf
                                          exact sx_ire hm dX13_wanted_1105 rfl (by decide)
                                        · refine sb_if_eq hm dX13_wanted_1093 (tgt := 1104) rfl (fun z => absurd z c128) (fun _ => ?_)
                                          refine mx_S.pu (pc2 := 1097) (lv2 := [(3, .int s0), (0, .ref l0), (2, .int l2)]) (st2 := [.ref l0]) hm dX13_wanted_1096 rfl ?_
                                          refine sx_ic (v := 1) hm dX13_wanted_1097 (by decide) ?_
                                          replace hf := mx_gd_el hf; obtain ⟨c119, hf⟩ := hf
                                          replace hf := mx_sv_el hf; obtain ⟨u120, e_u120, hf⟩ := hf
                                          refine sx_cv hm dX13_wanted_1098 rs_RX13_1031 mt_X13_pullInts [.int 1] [] (b := l0) (ci := 13) rfl rfl rfl c119 (Nat.le_of_ble_eq_true rfl) (Nat.le_of_ble_eq_true rfl) (by omega) (by omega) (f_X13_pullInts_ok X (by omega) (by omega) nn l0 1 u118.2 e_u120) ?_
                                          clear e_u120
                                          show mx_S X F L 567 1101 [(3, .int s0), (0, .ref l0), (2, .int l2)] [.int u120.1] u120.2 0 0 (some (.int r.1), r.2, 0, 0)
                                          rcases mx_if_el hf with ⟨c127, hf⟩ | ⟨c127, hf⟩
                                          · refine sb_if_ne hm dX13_wanted_1101 (tgt := 1106) rfl (fun _ => ?_) (fun z => absurd c127 z)
                                            refine mx_S.pu (pc2 := 1107) (lv2 := [(3, .int s0), (0, .ref l0), (2, .int l2)]) (st2 := [.ref l0]) hm dX13_wanted_1106 rfl ?_
                                            replace hf := mx_gd_el hf; obtain ⟨c121, hf⟩ := hf
                                            replace hf := mx_sv_el hf; obtain ⟨u122, e_u122, hf⟩ := hf
                                            refine sx_cv hm dX13_wanted_1107 rs_RX13_1025 mt_X13_pull [] [] (b := l0) (ci := 13) rfl rfl rfl c121 (Nat.le_of_ble_eq_true rfl) (Nat.le_of_ble_eq_true rfl) (by omega) (by omega) (f_X13_pull_ok X (by omega) (by omega) nn l0 u120.2 e_u122) ?_
                                            clear e_u122
                                            show mx_S X F L 567 1110 [(3, .int s0), (0, .ref l0), (2, .int l2)] [.int u122.1] u122.2 0 0 (some (.int r.1), r.2, 0, 0)
                                            refine mx_S.pu (pc2 := 1112) (lv2 := [(4, .int u122.1), (3, .int s0), (0, .ref l0), (2, .int l2)]) (st2 := []) hm dX13_wanted_1110 rfl ?_
                                            refine mx_S.pu (pc2 := 1114) (lv2 := [(4, .int u122.1), (3, .int s0), (0, .ref l0), (2, .int l2)]) (st2 := [.int u122.1]) hm dX13_wanted_1112 rfl ?_
                                            refine sx_ic (v := 2) hm dX13_wanted_1114 (by decide) ?_
                                            rcases mx_if_el hf with ⟨c126, hf⟩ | ⟨c126, hf⟩
                                            · refine sb_ic_eq hm dX13_wanted_1115 (tgt := 1132) rfl (fun _ => ?_) (fun z => absurd c126 z)
                                              refine sx_ic (v := 1) hm dX13_wanted_1132 (by decide) ?_
                                              refine mx_S.pu (pc2 := 1137) (lv2 := [(4, .int u122.1), (3, .int s0), (0, .ref l0), (2, .int l2)]) (st2 := [.int 1]) hm dX13_wanted_1133 rfl ?_
                                              cases hf
                                              exact sx_ire hm dX13_wanted_1137 rfl (by decide)
                                            · refine sb_ic_eq hm dX13_wanted_1115 (tgt := 1132) rfl (fun z => absurd z c126) (fun _ => ?_)
                                              refine mx_S.pu (pc2 := 1120) (lv2 := [(4, .int u122.1), (3, .int s0), (0, .ref l0), (2, .int l2)]) (st2 := [.int u122.1]) hm dX13_wanted_1118 rfl ?_
                                              refine sx_ic (v := 3) hm dX13_wanted_1120 (by decide) ?_
                                              rcases mx_if_el hf with ⟨c125, hf⟩ | ⟨c125, hf⟩
                                              · refine sb_ic_le hm dX13_wanted_1121 (tgt := 1136) rfl (fun _ => ?_) (fun z => absurd c125 z)
                                                refine mx_S.ext [] (mx_sub_pos [] rfl (show ([4, 3, 0, 2] : List Nat).Nodup by decide)) ?_
                                                exact j_X13_wanted_1136_ok X hF hL nn u122.2 hf
                                              · refine sb_ic_le hm dX13_wanted_1121 (tgt := 1136) rfl (fun z => absurd z c125) (fun _ => ?_)
                                                refine mx_S.pu (pc2 := 1126) (lv2 := [(4, .int u122.1), (3, .int s0), (0, .ref l0), (2, .int l2)]) (st2 := [.int u122.1]) hm dX13_wanted_1124 rfl ?_
                                                replace hf := mx_sv_el hf; obtain ⟨u123, e_u123, hf⟩ := hf
                                                refine sx_cs hm dX13_wanted_1126 rs_RX13_888 mt_X13_isRow [.int u122.1] [] rfl rfl (Nat.le_of_ble_eq_true rfl) (Nat.le_of_ble_eq_true rfl) (by omega) (by omega) (f_X13_isRow_ok X (by omega) (by omega) nn u122.1 u122.2 e_u123) ?_
                                                clear e_u123
                                                show mx_S X F L 567 1129 [(4, .int u122.1), (3, .int s0), (0, .ref l0), (2, .int l2)] [.int u123.1] u123.2 0 0 (some (.int r.1), r.2, 0, 0)
                                                rcases mx_if_el hf with ⟨c124, hf⟩ | ⟨c124, hf⟩
                                                · refine sb_if_eq hm dX13_wanted_1129 (tgt := 1136) rfl (fun _ => ?_) (fun z => absurd c124 z)
                                                  refine mx_S.ext [] (mx_sub_pos [] rfl (show ([4, 3, 0, 2] : List Nat).Nodup by decide)) ?_
                                                  exact j_X13_wanted_1136_ok X hF hL nn u123.2 hf
                                                · refine sb_if_eq hm dX13_wanted_1129 (tgt := 1136) rfl (fun z => absurd z c124) (fun _ => ?_)
                                                  refine sx_ic (v := 1) hm dX13_wanted_1132 (by decide) ?_
                                                  refine mx_S.pu (pc2 := 1137) (lv2 := [(4, .int u122.1), (3, .int s0), (0, .ref l0), (2, .int l2)]) (st2 := [.int 1]) hm dX13_wanted_1133 rfl ?_
                                                  cases hf
                                                  exact sx_ire hm dX13_wanted_1137 rfl (by decide)
                                          · refine sb_if_ne hm dX13_wanted_1101 (tgt := 1106) rfl (fun z => absurd z c127) (fun _ => ?_)
                                            refine sx_ic (v := 0) hm dX13_wanted_1104 (by decide) ?_
                                            cases hf
                                            exact sx_ire hm dX13_wanted_1105 rfl (by decide)
                                      · rcases mx_if_el hf with ⟨n_19, hf⟩ | ⟨n_19, hf⟩
                                        · refine sx_tin hm dX13_wanted_27 (by rw [n_19]; decide) (by rw [n_19]; decide) (off := 1111) (by rw [n_19]; rfl) (tgt := 1138) rfl ?_
                                          clear n_0 n_1 n_2 n_3 n_4 n_5 n_6 n_7 n_8 n_9 n_10 n_11 n_12 n_13 n_14 n_15 n_16 n_17 n_18 n_19
                                          refine mx_S.pu (pc2 := 1139) (lv2 := [(3, .int s0), (0, .ref l0), (2, .int l2)]) (st2 := [.ref l0]) hm dX13_wanted_1138 rfl ?_
                                          replace hf := mx_gd_el hf; obtain ⟨c129, hf⟩ := hf
                                          replace hf := mx_sv_el hf; obtain ⟨u130, e_u130, hf⟩ := hf
                                          refine sx_cv hm dX13_wanted_1139 rs_RX13_1025 mt_X13_pull [] [] (b := l0) (ci := 13) rfl rfl rfl c129 (Nat.le_of_ble_eq_true rfl) (Nat.le_of_ble_eq_true rfl) (by omega) (by omega) (f_X13_pull_ok X (by omega) (by omega) nn l0 h e_u130) ?_
                                          clear e_u130
                                          show mx_S X F L 567 1142 [(3, .int s0), (0, .ref l0), (2, .int l2)] [.int u130.1] u130.2 0 0 (some (.int r.1), r.2, 0, 0)
                                          refine sx_ic (v := (-1)) hm dX13_wanted_1142 (by decide) ?_
                                          rcases mx_if_el hf with ⟨c131, hf⟩ | ⟨c131, hf⟩
                                          · refine sb_ic_eq hm dX13_wanted_1143 (tgt := 1150) rfl (fun _ => ?_) (fun z => absurd c131 z)
                                            refine sx_ic (v := 0) hm dX13_wanted_1150 (by decide) ?_
                                            cases hf
                                            exact sx_ire hm dX13_wanted_1151 rfl (by decide)
                                          · refine sb_ic_eq hm dX13_wanted_1143 (tgt := 1150) rfl (fun z => absurd z c131) (fun _ => ?_)
                                            refine sx_ic (v := 1) hm dX13_wanted_1146 (by decide) ?_
                                            refine mx_S.pu (pc2 := 1151) (lv2 := [(3, .int s0), (0, .ref l0), (2, .int l2)]) (st2 := [.int 1]) hm dX13_wanted_1147 rfl ?_
                                            cases hf
                                            exact sx_ire hm dX13_wanted_1151 rfl (by decide)
                                        · rcases mx_if_el hf with ⟨n_20, hf⟩ | ⟨n_20, hf⟩
                                          · refine sx_tin hm dX13_wanted_27 (by rw [n_20]; decide) (by rw [n_20]; decide) (off := 1125) (by rw [n_20]; rfl) (tgt := 1152) rfl ?_
                                            clear n_0 n_1 n_2 n_3 n_4 n_5 n_6 n_7 n_8 n_9 n_10 n_11 n_12 n_13 n_14 n_15 n_16 n_17 n_18 n_19 n_20
                                            refine mx_S.pu (pc2 := 1153) (lv2 := [(3, .int s0), (0, .ref l0), (2, .int l2)]) (st2 := [.ref l0]) hm dX13_wanted_1152 rfl ?_
                                            replace hf := mx_sv_el hf; obtain ⟨v132, e_v132, hf⟩ := hf
                                            refine sx_get hm dX13_wanted_1153 rs_RX13_961 (xgi_el e_v132) ?_
                                            clear e_v132
                                            rcases mx_if_el hf with ⟨c140, hf⟩ | ⟨c140, hf⟩
                                            · refine sb_if_le hm dX13_wanted_1156 (tgt := 1181) rfl (fun _ => ?_) (fun z => absurd c140 z)
                                              refine sx_ic (v := 0) hm dX13_wanted_1181 (by decide) ?_
                                              cases hf
                                              exact sx_ire hm dX13_wanted_1182 rfl (by decide)
                                            · refine sb_if_le hm dX13_wanted_1156 (tgt := 1181) rfl (fun z => absurd z c140) (fun _ => ?_)
                                              refine mx_S.pu (pc2 := 1160) (lv2 := [(3, .int s0), (0, .ref l0), (2, .int l2)]) (st2 := [.ref l0]) hm dX13_wanted_1159 rfl ?_
                                              refine mx_S.pu (pc2 := 1161) (lv2 := [(3, .int s0), (0, .ref l0), (2, .int l2)]) (st2 := [.ref l0, .ref l0]) hm dX13_wanted_1160 rfl ?_
                                              replace hf := mx_sv_el hf; obtain ⟨v133, e_v133, hf⟩ := hf
                                              refine sx_get hm dX13_wanted_1161 rs_RX13_273 (xgr_el e_v133) ?_
                                              clear e_v133
                                              refine mx_S.pu (pc2 := 1165) (lv2 := [(3, .int s0), (0, .ref l0), (2, .int l2)]) (st2 := [.ref l0, .ref v133, .ref l0]) hm dX13_wanted_1164 rfl ?_
                                              replace hf := mx_sv_el hf; obtain ⟨v134, e_v134, hf⟩ := hf
                                              refine sx_get hm dX13_wanted_1165 rs_RX13_961 (xgi_el e_v134) ?_
                                              clear e_v134
                                              refine sx_ic (v := 1) hm dX13_wanted_1168 (by decide) ?_
                                              replace hf := xl_el hf; obtain ⟨v135, e_v135, hf⟩ := hf
                                              refine mx_S.pu (pc2 := 1170) (lv2 := [(3, .int s0), (0, .ref l0), (2, .int l2)]) (st2 := [.int v135, .ref v133, .ref l0]) hm dX13_wanted_1169 (by rw [← e_v135]; rfl) ?_
                                              clear e_v135
                                              replace hf := mx_sv_el hf; obtain ⟨v136, e_v136, hf⟩ := hf
                                              refine sx_ald hm dX13_wanted_1170 e_v136 ?_
                                              clear e_v136
                                              replace hf := mx_gd_el hf; obtain ⟨c137, hf⟩ := hf
                                              replace hf := mx_sv_el hf; obtain ⟨u138, e_u138, hf⟩ := hf
                                              refine sx_cv hm dX13_wanted_1171 rs_RX13_1028 mt_X13_comesBack [.int v136] [] (b := l0) (ci := 13) rfl rfl rfl c137 (Nat.le_of_ble_eq_true rfl) (Nat.le_of_ble_eq_true rfl) (by omega) (by omega) (f_X13_comesBack_ok X (by omega) (by omega) nn l0 v136 h e_u138) ?_
                                              clear e_u138
                                              show mx_S X F L 567 1174 [(3, .int s0), (0, .ref l0), (2, .int l2)] [.int u138.1] u138.2 0 0 (some (.int r.1), r.2, 0, 0)
                                              rcases mx_if_el hf with ⟨c139, hf⟩ | ⟨c139, hf⟩
                                              · refine sb_if_eq hm dX13_wanted_1174 (tgt := 1181) rfl (fun _ => ?_) (fun z => absurd c139 z)
                                                refine sx_ic (v := 0) hm dX13_wanted_1181 (by decide) ?_
                                                cases hf
                                                exact sx_ire hm dX13_wanted_1182 rfl (by decide)
                                              · refine sb_if_eq hm dX13_wanted_1174 (tgt := 1181) rfl (fun z => absurd z c139) (fun _ => ?_)
                                                refine sx_ic (v := 1) hm dX13_wanted_1177 (by decide) ?_
                                                refine mx_S.pu (pc2 := 1182) (lv2 := [(3, .int s0), (0, .ref l0), (2, .int l2)]) (st2 := [.int 1]) hm dX13_wanted_1178 rfl ?_
                                                cases hf
                                                exact sx_ire hm dX13_wanted_1182 rfl (by decide)
                                          · rcases mx_if_el hf with ⟨n_21, hf⟩ | ⟨n_21, hf⟩
                                            · refine sx_tin hm dX13_wanted_27 (by rw [n_21]; decide) (by rw [n_21]; decide) (off := 1156) (by rw [n_21]; rfl) (tgt := 1183) rfl ?_
                                              clear n_0 n_1 n_2 n_3 n_4 n_5 n_6 n_7 n_8 n_9 n_10 n_11 n_12 n_13 n_14 n_15 n_16 n_17 n_18 n_19 n_20 n_21
                                              refine mx_S.ext [(0, .ref l0)] (mx_sub_pos [1] rfl (show ([3, 0, 2] : List Nat).Nodup by decide)) ?_
                                              exact j_X13_wanted_1183_ok X hF hL nn l0 h hf
                                            · rcases mx_if_el hf with ⟨n_22, hf⟩ | ⟨n_22, hf⟩
                                              · refine sx_tin hm dX13_wanted_27 (by rw [n_22]; decide) (by rw [n_22]; decide) (off := 1156) (by rw [n_22]; rfl) (tgt := 1183) rfl ?_
                                                clear n_0 n_1 n_2 n_3 n_4 n_5 n_6 n_7 n_8 n_9 n_10 n_11 n_12 n_13 n_14 n_15 n_16 n_17 n_18 n_19 n_20 n_21 n_22
                                                refine mx_S.ext [(0, .ref l0)] (mx_sub_pos [1] rfl (show ([3, 0, 2] : List Nat).Nodup by decide)) ?_
                                                exact j_X13_wanted_1183_ok X hF hL nn l0 h hf
                                              · rcases mx_if_el hf with ⟨n_23, hf⟩ | ⟨n_23, hf⟩
                                                · refine sx_tin hm dX13_wanted_27 (by rw [n_23]; decide) (by rw [n_23]; decide) (off := 1156) (by rw [n_23]; rfl) (tgt := 1183) rfl ?_
                                                  clear n_0 n_1 n_2 n_3 n_4 n_5 n_6 n_7 n_8 n_9 n_10 n_11 n_12 n_13 n_14 n_15 n_16 n_17 n_18 n_19 n_20 n_21 n_22 n_23
                                                  refine mx_S.ext [(0, .ref l0)] (mx_sub_pos [1] rfl (show ([3, 0, 2] : List Nat).Nodup by decide)) ?_
                                                  exact j_X13_wanted_1183_ok X hF hL nn l0 h hf
                                                · rcases mx_if_el hf with ⟨n_24, hf⟩ | ⟨n_24, hf⟩
                                                  · refine sx_tin hm dX13_wanted_27 (by rw [n_24]; decide) (by rw [n_24]; decide) (off := 1156) (by rw [n_24]; rfl) (tgt := 1183) rfl ?_
                                                    clear n_0 n_1 n_2 n_3 n_4 n_5 n_6 n_7 n_8 n_9 n_10 n_11 n_12 n_13 n_14 n_15 n_16 n_17 n_18 n_19 n_20 n_21 n_22 n_23 n_24
                                                    refine mx_S.ext [(0, .ref l0)] (mx_sub_pos [1] rfl (show ([3, 0, 2] : List Nat).Nodup by decide)) ?_
                                                    exact j_X13_wanted_1183_ok X hF hL nn l0 h hf
                                                  · rcases mx_if_el hf with ⟨n_25, hf⟩ | ⟨n_25, hf⟩
                                                    · refine sx_tin hm dX13_wanted_27 (by rw [n_25]; decide) (by rw [n_25]; decide) (off := 1156) (by rw [n_25]; rfl) (tgt := 1183) rfl ?_
                                                      clear n_0 n_1 n_2 n_3 n_4 n_5 n_6 n_7 n_8 n_9 n_10 n_11 n_12 n_13 n_14 n_15 n_16 n_17 n_18 n_19 n_20 n_21 n_22 n_23 n_24 n_25
                                                      refine mx_S.ext [(0, .ref l0)] (mx_sub_pos [1] rfl (show ([3, 0, 2] : List Nat).Nodup by decide)) ?_
                                                      exact j_X13_wanted_1183_ok X hF hL nn l0 h hf
                                                    · rcases mx_if_el hf with ⟨n_26, hf⟩ | ⟨n_26, hf⟩
                                                      · refine sx_tin hm dX13_wanted_27 (by rw [n_26]; decide) (by rw [n_26]; decide) (off := 1178) (by rw [n_26]; rfl) (tgt := 1205) rfl ?_
                                                        clear n_0 n_1 n_2 n_3 n_4 n_5 n_6 n_7 n_8 n_9 n_10 n_11 n_12 n_13 n_14 n_15 n_16 n_17 n_18 n_19 n_20 n_21 n_22 n_23 n_24 n_25 n_26
                                                        refine mx_S.pu (pc2 := 1206) (lv2 := [(3, .int s0), (0, .ref l0), (2, .int l2)]) (st2 := [.ref l0]) hm dX13_wanted_1205 rfl ?_
                                                        refine sx_ic (v := 1) hm dX13_wanted_1206 (by decide) ?_
                                                        replace hf := mx_gd_el hf; obtain ⟨c141, hf⟩ := hf
                                                        replace hf := mx_sv_el hf; obtain ⟨u142, e_u142, hf⟩ := hf
                                                        refine sx_cv hm dX13_wanted_1207 rs_RX13_1031 mt_X13_pullInts [.int 1] [] (b := l0) (ci := 13) rfl rfl rfl c141 (Nat.le_of_ble_eq_true rfl) (Nat.le_of_ble_eq_true rfl) (by omega) (by omega) (f_X13_pullInts_ok X (by omega) (by omega) nn l0 1 h e_u142) ?_
                                                        clear e_u142
                                                        show mx_S X F L 567 1210 [(3, .int s0), (0, .ref l0), (2, .int l2)] [.int u142.1] u142.2 0 0 (some (.int r.1), r.2, 0, 0)
                                                        rcases mx_if_el hf with ⟨c146, hf⟩ | ⟨c146, hf⟩
                                                        · refine sb_if_eq hm dX13_wanted_1210 (tgt := 1225) rfl (fun _ => ?_) (fun z => absurd c146 z)
                                                          refine sx_ic (v := 0) hm dX13_wanted_1225 (by decide) ?_
                                                          cases hf
                                                          exact sx_ire hm dX13_wanted_1226 rfl (by decide)
                                                        · refine sb_if_eq hm dX13_wanted_1210 (tgt := 1225) rfl (fun z => absurd z c146) (fun _ => ?_)
                                                          refine mx_S.pu (pc2 := 1214) (lv2 := [(3, .int s0), (0, .ref l0), (2, .int l2)]) (st2 := [.ref l0]) hm dX13_wanted_1213 rfl ?_
                                                          refine sx_ic (v := 1) hm dX13_wanted_1214 (by decide) ?_
                                                          replace hf := mx_gd_el hf; obtain ⟨c143, hf⟩ := hf
                                                          replace hf := mx_sv_el hf; obtain ⟨u144, e_u144, hf⟩ := hf
                                                          refine sx_cv hm dX13_wanted_1215 rs_RX13_1028 mt_X13_comesBack [.int 1] [] (b := l0) (ci := 13) rfl rfl rfl c143 (Nat.le_of_ble_eq_true rfl) (Nat.le_of_ble_eq_true rfl) (by omega) (by omega) (f_X13_comesBack_ok X (by omega) (by omega) nn l0 1 u142.2 e_u144) ?_
                                                          clear e_u144
                                                          show mx_S X F L 567 1218 [(3, .int s0), (0, .ref l0), (2, .int l2)] [.int u144.1] u144.2 0 0 (some (.int r.1), r.2, 0, 0)
                                                          rcases mx_if_el hf with ⟨c145, hf⟩ | ⟨c145, hf⟩
                                                          · refine sb_if_eq hm dX13_wanted_1218 (tgt := 1225) rfl (fun _ => ?_) (fun z => absurd c145 z)
                                                            refine sx_ic (v := 0) hm dX13_wanted_1225 (by decide) ?_
                                                            cases hf
                                                            exact sx_ire hm dX13_wanted_1226 rfl (by decide)
                                                          · refine sb_if_eq hm dX13_wanted_1218 (tgt := 1225) rfl (fun z => absurd z c145) (fun _ => ?_)
                                                            refine sx_ic (v := 1) hm dX13_wanted_1221 (by decide) ?_
                                                            refine mx_S.pu (pc2 := 1226) (lv2 := [(3, .int s0), (0, .ref l0), (2, .int l2)]) (st2 := [.int 1]) hm dX13_wanted_1222 rfl ?_
                                                            cases hf
                                                            exact sx_ire hm dX13_wanted_1226 rfl (by decide)
                                                      · rcases mx_if_el hf with ⟨n_27, hf⟩ | ⟨n_27, hf⟩
                                                        · refine sx_tin hm dX13_wanted_27 (by rw [n_27]; decide) (by rw [n_27]; decide) (off := 1156) (by rw [n_27]; rfl) (tgt := 1183) rfl ?_
                                                          clear n_0 n_1 n_2 n_3 n_4 n_5 n_6 n_7 n_8 n_9 n_10 n_11 n_12 n_13 n_14 n_15 n_16 n_17 n_18 n_19 n_20 n_21 n_22 n_23 n_24 n_25 n_26 n_27
                                                          refine mx_S.ext [(0, .ref l0)] (mx_sub_pos [1] rfl (show ([3, 0, 2] : List Nat).Nodup by decide)) ?_
                                                          exact j_X13_wanted_1183_ok X hF hL nn l0 h hf
                                                        · rcases mx_if_el hf with ⟨n_28, hf⟩ | ⟨n_28, hf⟩
                                                          · refine sx_tin hm dX13_wanted_27 (by rw [n_28]; decide) (by rw [n_28]; decide) (off := 1156) (by rw [n_28]; rfl) (tgt := 1183) rfl ?_
                                                            clear n_0 n_1 n_2 n_3 n_4 n_5 n_6 n_7 n_8 n_9 n_10 n_11 n_12 n_13 n_14 n_15 n_16 n_17 n_18 n_19 n_20 n_21 n_22 n_23 n_24 n_25 n_26 n_27 n_28
                                                            refine mx_S.ext [(0, .ref l0)] (mx_sub_pos [1] rfl (show ([3, 0, 2] : List Nat).Nodup by decide)) ?_
                                                            exact j_X13_wanted_1183_ok X hF hL nn l0 h hf
                                                          · rcases mx_if_el hf with ⟨n_29, hf⟩ | ⟨n_29, hf⟩
                                                            · refine sx_tin hm dX13_wanted_27 (by rw [n_29]; decide) (by rw [n_29]; decide) (off := 1156) (by rw [n_29]; rfl) (tgt := 1183) rfl ?_
                                                              clear n_0 n_1 n_2 n_3 n_4 n_5 n_6 n_7 n_8 n_9 n_10 n_11 n_12 n_13 n_14 n_15 n_16 n_17 n_18 n_19 n_20 n_21 n_22 n_23 n_24 n_25 n_26 n_27 n_28 n_29
                                                              refine mx_S.ext [(0, .ref l0)] (mx_sub_pos [1] rfl (show ([3, 0, 2] : List Nat).Nodup by decide)) ?_
                                                              exact j_X13_wanted_1183_ok X hF hL nn l0 h hf
                                                            · rcases mx_if_el hf with ⟨n_30, hf⟩ | ⟨n_30, hf⟩
                                                              · refine sx_tin hm dX13_wanted_27 (by rw [n_30]; decide) (by rw [n_30]; decide) (off := 1156) (by rw [n_30]; rfl) (tgt := 1183) rfl ?_
                                                                clear n_0 n_1 n_2 n_3 n_4 n_5 n_6 n_7 n_8 n_9 n_10 n_11 n_12 n_13 n_14 n_15 n_16 n_17 n_18 n_19 n_20 n_21 n_22 n_23 n_24 n_25 n_26 n_27 n_28 n_29 n_30
                                                                refine mx_S.ext [(0, .ref l0)] (mx_sub_pos [1] rfl (show ([3, 0, 2] : List Nat).Nodup by decide)) ?_
                                                                exact j_X13_wanted_1183_ok X hF hL nn l0 h hf
                                                              · rcases mx_if_el hf with ⟨n_31, hf⟩ | ⟨n_31, hf⟩
                                                                · refine sx_tin hm dX13_wanted_27 (by rw [n_31]; decide) (by rw [n_31]; decide) (off := 1156) (by rw [n_31]; rfl) (tgt := 1183) rfl ?_
                                                                  clear n_0 n_1 n_2 n_3 n_4 n_5 n_6 n_7 n_8 n_9 n_10 n_11 n_12 n_13 n_14 n_15 n_16 n_17 n_18 n_19 n_20 n_21 n_22 n_23 n_24 n_25 n_26 n_27 n_28 n_29 n_30 n_31
                                                                  refine mx_S.ext [(0, .ref l0)] (mx_sub_pos [1] rfl (show ([3, 0, 2] : List Nat).Nodup by decide)) ?_
                                                                  exact j_X13_wanted_1183_ok X hF hL nn l0 h hf
                                                                · rcases mx_if_el hf with ⟨n_32, hf⟩ | ⟨n_32, hf⟩
                                                                  · refine sx_tin hm dX13_wanted_27 (by rw [n_32]; decide) (by rw [n_32]; decide) (off := 1156) (by rw [n_32]; rfl) (tgt := 1183) rfl ?_
                                                                    clear n_0 n_1 n_2 n_3 n_4 n_5 n_6 n_7 n_8 n_9 n_10 n_11 n_12 n_13 n_14 n_15 n_16 n_17 n_18 n_19 n_20 n_21 n_22 n_23 n_24 n_25 n_26 n_27 n_28 n_29 n_30 n_31 n_32
                                                                    refine mx_S.ext [(0, .ref l0)] (mx_sub_pos [1] rfl (show ([3, 0, 2] : List Nat).Nodup by decide)) ?_
                                                                    exact j_X13_wanted_1183_ok X hF hL nn l0 h hf
                                                                  · rcases mx_if_el hf with ⟨n_33, hf⟩ | ⟨n_33, hf⟩
                                                                    · refine sx_tin hm dX13_wanted_27 (by rw [n_33]; decide) (by rw [n_33]; decide) (off := 1200) (by rw [n_33]; rfl) (tgt := 1227) rfl ?_
                                                                      clear n_0 n_1 n_2 n_3 n_4 n_5 n_6 n_7 n_8 n_9 n_10 n_11 n_12 n_13 n_14 n_15 n_16 n_17 n_18 n_19 n_20 n_21 n_22 n_23 n_24 n_25 n_26 n_27 n_28 n_29 n_30 n_31 n_32 n_33
                                                                      refine mx_S.ext [(0, .ref l0)] (mx_sub_pos [1] rfl (show ([3, 0, 2] : List Nat).Nodup by decide)) ?_
                                                                      exact j_X13_wanted_1227_ok X hF hL nn l0 h hf
                                                                    · rcases mx_if_el hf with ⟨n_34, hf⟩ | ⟨n_34, hf⟩
                                                                      · refine sx_tin hm dX13_wanted_27 (by rw [n_34]; decide) (by rw [n_34]; decide) (off := 1200) (by rw [n_34]; rfl) (tgt := 1227) rfl ?_
                                                                        clear n_0 n_1 n_2 n_3 n_4 n_5 n_6 n_7 n_8 n_9 n_10 n_11 n_12 n_13 n_14 n_15 n_16 n_17 n_18 n_19 n_20 n_21 n_22 n_23 n_24 n_25 n_26 n_27 n_28 n_29 n_30 n_31 n_32 n_33 n_34
                                                                        refine mx_S.ext [(0, .ref l0)] (mx_sub_pos [1] rfl (show ([3, 0, 2] : List Nat).Nodup by decide)) ?_
                                                                        exact j_X13_wanted_1227_ok X hF hL nn l0 h hf
                                                                      · rcases mx_if_el hf with ⟨n_35, hf⟩ | ⟨n_35, hf⟩
                                                                        · refine sx_tin hm dX13_wanted_27 (by rw [n_35]; decide) (by rw [n_35]; decide) (off := 1206) (by rw [n_35]; rfl) (tgt := 1233) rfl ?_
                                                                          clear n_0 n_1 n_2 n_3 n_4 n_5 n_6 n_7 n_8 n_9 n_10 n_11 n_12 n_13 n_14 n_15 n_16 n_17 n_18 n_19 n_20 n_21 n_22 n_23 n_24 n_25 n_26 n_27 n_28 n_29 n_30 n_31 n_32 n_33 n_34 n_35
                                                                          refine mx_S.ext [(0, .ref l0)] (mx_sub_pos [1] rfl (show ([3, 0, 2] : List Nat).Nodup by decide)) ?_
                                                                          exact j_X13_wanted_1233_ok X hF hL nn l0 h hf
                                                                        · rcases mx_if_el hf with ⟨n_36, hf⟩ | ⟨n_36, hf⟩
                                                                          · refine sx_tin hm dX13_wanted_27 (by rw [n_36]; decide) (by rw [n_36]; decide) (off := 1206) (by rw [n_36]; rfl) (tgt := 1233) rfl ?_
                                                                            clear n_0 n_1 n_2 n_3 n_4 n_5 n_6 n_7 n_8 n_9 n_10 n_11 n_12 n_13 n_14 n_15 n_16 n_17 n_18 n_19 n_20 n_21 n_22 n_23 n_24 n_25 n_26 n_27 n_28 n_29 n_30 n_31 n_32 n_33 n_34 n_35 n_36
                                                                            refine mx_S.ext [(0, .ref l0)] (mx_sub_pos [1] rfl (show ([3, 0, 2] : List Nat).Nodup by decide)) ?_
                                                                            exact j_X13_wanted_1233_ok X hF hL nn l0 h hf
                                                                          · rcases mx_if_el hf with ⟨n_37, hf⟩ | ⟨n_37, hf⟩
                                                                            · refine sx_tin hm dX13_wanted_27 (by rw [n_37]; decide) (by rw [n_37]; decide) (off := 1206) (by rw [n_37]; rfl) (tgt := 1233) rfl ?_
                                                                              clear n_0 n_1 n_2 n_3 n_4 n_5 n_6 n_7 n_8 n_9 n_10 n_11 n_12 n_13 n_14 n_15 n_16 n_17 n_18 n_19 n_20 n_21 n_22 n_23 n_24 n_25 n_26 n_27 n_28 n_29 n_30 n_31 n_32 n_33 n_34 n_35 n_36 n_37
                                                                              refine mx_S.ext [(0, .ref l0)] (mx_sub_pos [1] rfl (show ([3, 0, 2] : List Nat).Nodup by decide)) ?_
                                                                              exact j_X13_wanted_1233_ok X hF hL nn l0 h hf
                                                                            · rcases mx_if_el hf with ⟨n_38, hf⟩ | ⟨n_38, hf⟩
                                                                              · refine sx_tin hm dX13_wanted_27 (by rw [n_38]; decide) (by rw [n_38]; decide) (off := 1206) (by rw [n_38]; rfl) (tgt := 1233) rfl ?_
                                                                                clear n_0 n_1 n_2 n_3 n_4 n_5 n_6 n_7 n_8 n_9 n_10 n_11 n_12 n_13 n_14 n_15 n_16 n_17 n_18 n_19 n_20 n_21 n_22 n_23 n_24 n_25 n_26 n_27 n_28 n_29 n_30 n_31 n_32 n_33 n_34 n_35 n_36 n_37 n_38
                                                                                refine mx_S.ext [(0, .ref l0)] (mx_sub_pos [1] rfl (show ([3, 0, 2] : List Nat).Nodup by decide)) ?_
                                                                                exact j_X13_wanted_1233_ok X hF hL nn l0 h hf
                                                                              · rcases mx_if_el hf with ⟨n_39, hf⟩ | ⟨n_39, hf⟩
                                                                                · refine sx_tin hm dX13_wanted_27 (by rw [n_39]; decide) (by rw [n_39]; decide) (off := 1206) (by rw [n_39]; rfl) (tgt := 1233) rfl ?_
                                                                                  clear n_0 n_1 n_2 n_3 n_4 n_5 n_6 n_7 n_8 n_9 n_10 n_11 n_12 n_13 n_14 n_15 n_16 n_17 n_18 n_19 n_20 n_21 n_22 n_23 n_24 n_25 n_26 n_27 n_28 n_29 n_30 n_31 n_32 n_33 n_34 n_35 n_36 n_37 n_38 n_39
                                                                                  refine mx_S.ext [(0, .ref l0)] (mx_sub_pos [1] rfl (show ([3, 0, 2] : List Nat).Nodup by decide)) ?_
                                                                                  exact j_X13_wanted_1233_ok X hF hL nn l0 h hf
                                                                                · rcases mx_if_el hf with ⟨n_40, hf⟩ | ⟨n_40, hf⟩
                                                                                  · refine sx_tin hm dX13_wanted_27 (by rw [n_40]; decide) (by rw [n_40]; decide) (off := 1206) (by rw [n_40]; rfl) (tgt := 1233) rfl ?_
                                                                                    clear n_0 n_1 n_2 n_3 n_4 n_5 n_6 n_7 n_8 n_9 n_10 n_11 n_12 n_13 n_14 n_15 n_16 n_17 n_18 n_19 n_20 n_21 n_22 n_23 n_24 n_25 n_26 n_27 n_28 n_29 n_30 n_31 n_32 n_33 n_34 n_35 n_36 n_37 n_38 n_39 n_40
                                                                                    refine mx_S.ext [(0, .ref l0)] (mx_sub_pos [1] rfl (show ([3, 0, 2] : List Nat).Nodup by decide)) ?_
                                                                                    exact j_X13_wanted_1233_ok X hF hL nn l0 h hf
                                                                                  · rcases mx_if_el hf with ⟨n_41, hf⟩ | ⟨n_41, hf⟩
                                                                                    · refine sx_tin hm dX13_wanted_27 (by rw [n_41]; decide) (by rw [n_41]; decide) (off := 1212) (by rw [n_41]; rfl) (tgt := 1239) rfl ?_
                                                                                      clear n_0 n_1 n_2 n_3 n_4 n_5 n_6 n_7 n_8 n_9 n_10 n_11 n_12 n_13 n_14 n_15 n_16 n_17 n_18 n_19 n_20 n_21 n_22 n_23 n_24 n_25 n_26 n_27 n_28 n_29 n_30 n_31 n_32 n_33 n_34 n_35 n_36 n_37 n_38 n_39 n_40 n_41
                                                                                      refine mx_S.ext [(0, .ref l0)] (mx_sub_pos [1] rfl (show ([3, 0, 2] : List Nat).Nodup by decide)) ?_
                                                                                      exact j_X13_wanted_1239_ok X hF hL nn l0 h hf
                                                                                    · rcases mx_if_el hf with ⟨n_42, hf⟩ | ⟨n_42, hf⟩
                                                                                      · refine sx_tin hm dX13_wanted_27 (by rw [n_42]; decide) (by rw [n_42]; decide) (off := 1212) (by rw [n_42]; rfl) (tgt := 1239) rfl ?_
                                                                                        clear n_0 n_1 n_2 n_3 n_4 n_5 n_6 n_7 n_8 n_9 n_10 n_11 n_12 n_13 n_14 n_15 n_16 n_17 n_18 n_19 n_20 n_21 n_22 n_23 n_24 n_25 n_26 n_27 n_28 n_29 n_30 n_31 n_32 n_33 n_34 n_35 n_36 n_37 n_38 n_39 n_40 n_41 n_42
                                                                                        refine mx_S.ext [(0, .ref l0)] (mx_sub_pos [1] rfl (show ([3, 0, 2] : List Nat).Nodup by decide)) ?_
                                                                                        exact j_X13_wanted_1239_ok X hF hL nn l0 h hf
                                                                                      · rcases mx_if_el hf with ⟨n_43, hf⟩ | ⟨n_43, hf⟩
                                                                                        · refine sx_tin hm dX13_wanted_27 (by rw [n_43]; decide) (by rw [n_43]; decide) (off := 785) (by rw [n_43]; rfl) (tgt := 812) rfl ?_
                                                                                          clear n_0 n_1 n_2 n_3 n_4 n_5 n_6 n_7 n_8 n_9 n_10 n_11 n_12 n_13 n_14 n_15 n_16 n_17 n_18 n_19 n_20 n_21 n_22 n_23 n_24 n_25 n_26 n_27 n_28 n_29 n_30 n_31 n_32 n_33 n_34 n_35 n_36 n_37 n_38 n_39 n_40 n_41 n_42 n_43
                                                                                          refine mx_S.ext [] (mx_sub_pos [] rfl (show ([3, 0, 2] : List Nat).Nodup by decide)) ?_
                                                                                          exact j_X13_wanted_812_ok X hF hL nn h hf
                                                                                        · rcases mx_if_el hf with ⟨n_44, hf⟩ | ⟨n_44, hf⟩
                                                                                          · refine sx_tin hm dX13_wanted_27 (by rw [n_44]; decide) (by rw [n_44]; decide) (off := 1232) (by rw [n_44]; rfl) (tgt := 1259) rfl ?_
                                                                                            clear n_0 n_1 n_2 n_3 n_4 n_5 n_6 n_7 n_8 n_9 n_10 n_11 n_12 n_13 n_14 n_15 n_16 n_17 n_18 n_19 n_20 n_21 n_22 n_23 n_24 n_25 n_26 n_27 n_28 n_29 n_30 n_31 n_32 n_33 n_34 n_35 n_36 n_37 n_38 n_39 n_40 n_41 n_42 n_43 n_44
                                                                                            refine mx_S.pu (pc2 := 1260) (lv2 := [(3, .int s0), (0, .ref l0), (2, .int l2)]) (st2 := [.ref l0]) hm dX13_wanted_1259 rfl ?_
                                                                                            replace hf := mx_sv_el hf; obtain ⟨v147, e_v147, hf⟩ := hf
                                                                                            refine sx_get hm dX13_wanted_1260 rs_RX13_209 (xgr_el e_v147) ?_
                                                                                            clear e_v147
                                                                                            refine mx_S.pu (pc2 := 1264) (lv2 := [(3, .int s0), (0, .ref l0), (2, .int l2)]) (st2 := [.ref l0, .ref v147]) hm dX13_wanted_1263 rfl ?_
                                                                                            replace hf := mx_sv_el hf; obtain ⟨v148, e_v148, hf⟩ := hf
                                                                                            refine sx_get hm dX13_wanted_1264 rs_RX13_998 (xgi_el e_v148) ?_
                                                                                            clear e_v148
                                                                                            replace hf := mx_sv_el hf; obtain ⟨v149, e_v149, hf⟩ := hf
                                                                                            refine sx_ald hm dX13_wanted_1267 e_v149 ?_
                                                                                            clear e_v149
                                                                                            refine sx_bi (v := 73) hm dX13_wanted_1268 (by decide) ?_
                                                                                            rcases mx_if_el hf with ⟨c154, hf⟩ | ⟨c154, hf⟩
                                                                                            · refine sb_ic_eq hm dX13_wanted_1270 (tgt := 1287) rfl (fun _ => ?_) (fun z => absurd c154 z)
                                                                                              refine mx_S.ext [(0, .ref l0)] (mx_sub_pos [1] rfl (show ([3, 0, 2] : List Nat).Nodup by decide)) ?_
                                                                                              exact j_X13_wanted_1287_ok X hF hL nn l0 h hf
                                                                                            · refine sb_ic_eq hm dX13_wanted_1270 (tgt := 1287) rfl (fun z => absurd z c154) (fun _ => ?_)
                                                                                              refine mx_S.pu (pc2 := 1274) (lv2 := [(3, .int s0), (0, .ref l0), (2, .int l2)]) (st2 := [.ref l0]) hm dX13_wanted_1273 rfl ?_
                                                                                              replace hf := mx_sv_el hf; obtain ⟨v150, e_v150, hf⟩ := hf
                                                                                              refine sx_get hm dX13_wanted_1274 rs_RX13_209 (xgr_el e_v150) ?_
                                                                                              clear e_v150
                                                                                              refine mx_S.pu (pc2 := 1278) (lv2 := [(3, .int s0), (0, .ref l0), (2, .int l2)]) (st2 := [.ref l0, .ref v150]) hm dX13_wanted_1277 rfl ?_
                                                                                              replace hf := mx_sv_el hf; obtain ⟨v151, e_v151, hf⟩ := hf
                                                                                              refine sx_get hm dX13_wanted_1278 rs_RX13_998 (xgi_el e_v151) ?_
                                                                                              clear e_v151
                                                                                              replace hf := mx_sv_el hf; obtain ⟨v152, e_v152, hf⟩ := hf
                                                                                              refine sx_ald hm dX13_wanted_1281 e_v152 ?_
                                                                                              clear e_v152
                                                                                              refine sx_bi (v := 90) hm dX13_wanted_1282 (by decide) ?_
                                                                                              rcases mx_if_el hf with ⟨c153, hf⟩ | ⟨c153, hf⟩
                                                                                              · refine sb_ic_ne hm dX13_wanted_1284 (tgt := 1299) rfl (fun _ => ?_) (fun z => absurd c153 z)
                                                                                                refine sx_ic (v := 0) hm dX13_wanted_1299 (by decide) ?_
                                                                                                cases hf
                                                                                                exact sx_ire hm dX13_wanted_1300 rfl (by decide)
                                                                                              · refine sb_ic_ne hm dX13_wanted_1284 (tgt := 1299) rfl (fun z => absurd z c153) (fun _ => ?_)
                                                                                                refine mx_S.ext [(0, .ref l0)] (mx_sub_pos [1] rfl (show ([3, 0, 2] : List Nat).Nodup by decide)) ?_
                                                                                                exact j_X13_wanted_1287_ok X hF hL nn l0 h hf
                                                                                          · rcases mx_if_el hf with ⟨n_45, hf⟩ | ⟨n_45, hf⟩
                                                                                            · refine sx_tin hm dX13_wanted_27 (by rw [n_45]; decide) (by rw [n_45]; decide) (off := 1274) (by rw [n_45]; rfl) (tgt := 1301) rfl ?_
                                                                                              clear n_0 n_1 n_2 n_3 n_4 n_5 n_6 n_7 n_8 n_9 n_10 n_11 n_12 n_13 n_14 n_15 n_16 n_17 n_18 n_19 n_20 n_21 n_22 n_23 n_24 n_25 n_26 n_27 n_28 n_29 n_30 n_31 n_32 n_33 n_34 n_35 n_36 n_37 n_38 n_39 n_40 n_41 n_42 n_43 n_44 n_45
                                                                                              refine mx_S.pu (pc2 := 1302) (lv2 := [(3, .int s0), (0, .ref l0), (2, .int l2)]) (st2 := [.ref l0]) hm dX13_wanted_1301 rfl ?_
                                                                                              replace hf := mx_sv_el hf; obtain ⟨v155, e_v155, hf⟩ := hf
                                                                                              refine sx_get hm dX13_wanted_1302 rs_RX13_209 (xgr_el e_v155) ?_
                                                                                              clear e_v155
                                                                                              refine mx_S.pu (pc2 := 1306) (lv2 := [(3, .int s0), (0, .ref l0), (2, .int l2)]) (st2 := [.ref l0, .ref v155]) hm dX13_wanted_1305 rfl ?_
                                                                                              replace hf := mx_sv_el hf; obtain ⟨v156, e_v156, hf⟩ := hf
                                                                                              refine sx_get hm dX13_wanted_1306 rs_RX13_998 (xgi_el e_v156) ?_
                                                                                              clear e_v156
                                                                                              replace hf := mx_sv_el hf; obtain ⟨v157, e_v157, hf⟩ := hf
                                                                                              refine sx_ald hm dX13_wanted_1309 e_v157 ?_
                                                                                              clear e_v157
                                                                                              refine sx_bi (v := 73) hm dX13_wanted_1310 (by decide) ?_
                                                                                              rcases mx_if_el hf with ⟨c172, hf⟩ | ⟨c172, hf⟩
                                                                                              · refine sb_ic_eq hm dX13_wanted_1312 (tgt := 1362) rfl (fun _ => ?_) (fun z => absurd c172 z)
                                                                                                refine sx_ic (v := 0) hm dX13_wanted_1362 (by decide) ?_
                                                                                                cases hf
                                                                                                exact sx_ire hm dX13_wanted_1363 rfl (by decide)
                                                                                              · refine sb_ic_eq hm dX13_wanted_1312 (tgt := 1362) rfl (fun z => absurd z c172) (fun _ => ?_)
                                                                                                refine mx_S.pu (pc2 := 1316) (lv2 := [(3, .int s0), (0, .ref l0), (2, .int l2)]) (st2 := [.ref l0]) hm dX13_wanted_1315 rfl ?_
                                                                                                replace hf := mx_sv_el hf; obtain ⟨v158, e_v158, hf⟩ := hf
                                                                                                refine sx_get hm dX13_wanted_1316 rs_RX13_209 (xgr_el e_v158) ?_
                                                                                                clear e_v158
                                                                                                refine mx_S.pu (pc2 := 1320) (lv2 := [(3, .int s0), (0, .ref l0), (2, .int l2)]) (st2 := [.ref l0, .ref v158]) hm dX13_wanted_1319 rfl ?_
                                                                                                replace hf := mx_sv_el hf; obtain ⟨v159, e_v159, hf⟩ := hf
                                                                                                refine sx_get hm dX13_wanted_1320 rs_RX13_998 (xgi_el e_v159) ?_
                                                                                                clear e_v159
                                                                                                replace hf := mx_sv_el hf; obtain ⟨v160, e_v160, hf⟩ := hf
                                                                                                refine sx_ald hm dX13_wanted_1323 e_v160 ?_
                                                                                                clear e_v160
                                                                                                refine sx_bi (v := 90) hm dX13_wanted_1324 (by decide) ?_
                                                                                                rcases mx_if_el hf with ⟨c171, hf⟩ | ⟨c171, hf⟩
                                                                                                · refine sb_ic_eq hm dX13_wanted_1326 (tgt := 1362) rfl (fun _ => ?_) (fun z => absurd c171 z)
                                                                                                  refine sx_ic (v := 0) hm dX13_wanted_1362 (by decide) ?_
                                                                                                  cases hf
                                                                                                  exact sx_ire hm dX13_wanted_1363 rfl (by decide)
                                                                                                · refine sb_ic_eq hm dX13_wanted_1326 (tgt := 1362) rfl (fun z => absurd z c171) (fun _ => ?_)
                                                                                                  refine mx_S.pu (pc2 := 1330) (lv2 := [(3, .int s0), (0, .ref l0), (2, .int l2)]) (st2 := [.ref l0]) hm dX13_wanted_1329 rfl ?_
                                                                                                  replace hf := mx_sv_el hf; obtain ⟨v161, e_v161, hf⟩ := hf
                                                                                                  refine sx_get hm dX13_wanted_1330 rs_RX13_209 (xgr_el e_v161) ?_
                                                                                                  clear e_v161
                                                                                                  refine mx_S.pu (pc2 := 1334) (lv2 := [(3, .int s0), (0, .ref l0), (2, .int l2)]) (st2 := [.ref l0, .ref v161]) hm dX13_wanted_1333 rfl ?_
                                                                                                  replace hf := mx_sv_el hf; obtain ⟨v162, e_v162, hf⟩ := hf
                                                                                                  refine sx_get hm dX13_wanted_1334 rs_RX13_998 (xgi_el e_v162) ?_
                                                                                                  clear e_v162
                                                                                                  replace hf := mx_sv_el hf; obtain ⟨v163, e_v163, hf⟩ := hf
                                                                                                  refine sx_ald hm dX13_wanted_1337 e_v163 ?_
                                                                                                  clear e_v163
                                                                                                  refine sx_bi (v := 86) hm dX13_wanted_1338 (by decide) ?_
                                                                                                  rcases mx_if_el hf with ⟨c170, hf⟩ | ⟨c170, hf⟩
                                                                                                  · refine sb_ic_eq hm dX13_wanted_1340 (tgt := 1362) rfl (fun _ => ?_) (fun z => absurd c170 z)
                                                                                                    refine sx_ic (v := 0) hm dX13_wanted_1362 (by decide) ?_
                                                                                                    cases hf
                                                                                                    exact sx_ire hm dX13_wanted_1363 rfl (by decide)
                                                                                                  · refine sb_ic_eq hm dX13_wanted_1340 (tgt := 1362) rfl (fun z => absurd z c170) (fun _ => ?_)
                                                                                                    refine mx_S.pu (pc2 := 1344) (lv2 := [(3, .int s0), (0, .ref l0), (2, .int l2)]) (st2 := [.ref l0]) hm dX13_wanted_1343 rfl ?_
                                                                                                    refine mx_S.pu (pc2 := 1345) (lv2 := [(3, .int s0), (0, .ref l0), (2, .int l2)]) (st2 := [.ref l0, .ref l0]) hm dX13_wanted_1344 rfl ?_
                                                                                                    refine mx_S.pu (pc2 := 1346) (lv2 := [(3, .int s0), (0, .ref l0), (2, .int l2)]) (st2 := [.ref l0, .ref l0, .ref l0]) hm dX13_wanted_1345 rfl ?_
                                                                                                    replace hf := mx_sv_el hf; obtain ⟨v164, e_v164, hf⟩ := hf
                                                                                                    refine sx_get hm dX13_wanted_1346 rs_RX13_998 (xgi_el e_v164) ?_
                                                                                                    clear e_v164
                                                                                                    replace hf := mx_gd_el hf; obtain ⟨c165, hf⟩ := hf
                                                                                                    replace hf := mx_sv_el hf; obtain ⟨u166, e_u166, hf⟩ := hf
                                                                                                    refine sx_cv hm dX13_wanted_1349 rs_RX13_885 mt_X13_typeAt [.int v164] [.ref l0] (b := l0) (ci := 13) rfl rfl rfl c165 (Nat.le_of_ble_eq_true rfl) (Nat.le_of_ble_eq_true rfl) (by omega) (by omega) (f_X13_typeAt_ok X (by omega) (by omega) nn l0 v164 h e_u166) ?_
                                                                                                    clear e_u166
                                                                                                    show mx_S X F L 567 1352 [(3, .int s0), (0, .ref l0), (2, .int l2)] [.int u166.1, .ref l0] u166.2 0 0 (some (.int r.1), r.2, 0, 0)
                                                                                                    replace hf := mx_gd_el hf; obtain ⟨c167, hf⟩ := hf
                                                                                                    replace hf := mx_sv_el hf; obtain ⟨u168, e_u168, hf⟩ := hf
                                                                                                    refine sx_cv hm dX13_wanted_1352 rs_RX13_1037 mt_X13_pullFit [.int u166.1] [] (b := l0) (ci := 13) rfl rfl rfl c167 (Nat.le_of_ble_eq_true rfl) (Nat.le_of_ble_eq_true rfl) (by omega) (by omega) (f_X13_pullFit_ok X (by omega) (by omega) nn l0 u166.1 u166.2 e_u168) ?_
                                                                                                    clear e_u168
                                                                                                    show mx_S X F L 567 1355 [(3, .int s0), (0, .ref l0), (2, .int l2)] [.int u168.1] u168.2 0 0 (some (.int r.1), r.2, 0, 0)
                                                                                                    rcases mx_if_el hf with ⟨c169, hf⟩ | ⟨c169, hf⟩
                                                                                                    · refine sb_if_eq hm dX13_wanted_1355 (tgt := 1362) rfl (fun _ => ?_) (fun z => absurd c169 z)
                                                                                                      refine sx_ic (v := 0) hm dX13_wanted_1362 (by decide) ?_
                                                                                                      cases hf
                                                                                                      exact sx_ire hm dX13_wanted_1363 rfl (by decide)
                                                                                                    · refine sb_if_eq hm dX13_wanted_1355 (tgt := 1362) rfl (fun z => absurd z c169) (fun _ => ?_)
                                                                                                      refine sx_ic (v := 1) hm dX13_wanted_1358 (by decide) ?_
                                                                                                      refine mx_S.pu (pc2 := 1363) (lv2 := [(3, .int s0), (0, .ref l0), (2, .int l2)]) (st2 := [.int 1]) hm dX13_wanted_1359 rfl ?_
                                                                                                      cases hf
                                                                                                      exact sx_ire hm dX13_wanted_1363 rfl (by decide)
                                                                                            · rcases mx_if_el hf with ⟨n_46, hf⟩ | ⟨n_46, hf⟩
                                                                                              · refine sx_tin hm dX13_wanted_27 (by rw [n_46]; decide) (by rw [n_46]; decide) (off := 1337) (by rw [n_46]; rfl) (tgt := 1364) rfl ?_
                                                                                                clear n_0 n_1 n_2 n_3 n_4 n_5 n_6 n_7 n_8 n_9 n_10 n_11 n_12 n_13 n_14 n_15 n_16 n_17 n_18 n_19 n_20 n_21 n_22 n_23 n_24 n_25 n_26 n_27 n_28 n_29 n_30 n_31 n_32 n_33 n_34 n_35 n_36 n_37 n_38 n_39 n_40 n_41 n_42 n_43 n_44 n_45 n_46
                                                                                                refine mx_S.pu (pc2 := 1365) (lv2 := [(3, .int s0), (0, .ref l0), (2, .int l2)]) (st2 := [.ref l0]) hm dX13_wanted_1364 rfl ?_
                                                                                                replace hf := mx_sv_el hf; obtain ⟨v173, e_v173, hf⟩ := hf
                                                                                                refine sx_get hm dX13_wanted_1365 rs_RX13_209 (xgr_el e_v173) ?_
                                                                                                clear e_v173
                                                                                                refine mx_S.pu (pc2 := 1369) (lv2 := [(3, .int s0), (0, .ref l0), (2, .int l2)]) (st2 := [.ref l0, .ref v173]) hm dX13_wanted_1368 rfl ?_
                                                                                                replace hf := mx_sv_el hf; obtain ⟨v174, e_v174, hf⟩ := hf
                                                                                                refine sx_get hm dX13_wanted_1369 rs_RX13_998 (xgi_el e_v174) ?_
                                                                                                clear e_v174
                                                                                                replace hf := mx_sv_el hf; obtain ⟨v175, e_v175, hf⟩ := hf
                                                                                                refine sx_ald hm dX13_wanted_1372 e_v175 ?_
                                                                                                clear e_v175
                                                                                                refine sx_bi (v := 86) hm dX13_wanted_1373 (by decide) ?_
                                                                                                rcases mx_if_el hf with ⟨c176, hf⟩ | ⟨c176, hf⟩
                                                                                                · refine sb_ic_ne hm dX13_wanted_1375 (tgt := 1382) rfl (fun _ => ?_) (fun z => absurd c176 z)
                                                                                                  refine sx_ic (v := 0) hm dX13_wanted_1382 (by decide) ?_
                                                                                                  cases hf
                                                                                                  exact sx_ire hm dX13_wanted_1383 rfl (by decide)
                                                                                                · refine sb_ic_ne hm dX13_wanted_1375 (tgt := 1382) rfl (fun z => absurd z c176) (fun _ => ?_)
                                                                                                  refine sx_ic (v := 1) hm dX13_wanted_1378 (by decide) ?_
                                                                                                  refine mx_S.pu (pc2 := 1383) (lv2 := [(3, .int s0), (0, .ref l0), (2, .int l2)]) (st2 := [.int 1]) hm dX13_wanted_1379 rfl ?_
                                                                                                  cases hf
                                                                                                  exact sx_ire hm dX13_wanted_1383 rfl (by decide)
                                                                                              · rcases mx_if_el hf with ⟨n_47, hf⟩ | ⟨n_47, hf⟩
                                                                                                · refine sx_tin hm dX13_wanted_27 (by rw [n_47]; decide) (by rw [n_47]; decide) (off := 1357) (by rw [n_47]; rfl) (tgt := 1384) rfl ?_
                                                                                                  clear n_0 n_1 n_2 n_3 n_4 n_5 n_6 n_7 n_8 n_9 n_10 n_11 n_12 n_13 n_14 n_15 n_16 n_17 n_18 n_19 n_20 n_21 n_22 n_23 n_24 n_25 n_26 n_27 n_28 n_29 n_30 n_31 n_32 n_33 n_34 n_35 n_36 n_37 n_38 n_39 n_40 n_41 n_42 n_43 n_44 n_45 n_46 n_47
                                                                                                  refine mx_S.pu (pc2 := 1385) (lv2 := [(3, .int s0), (0, .ref l0), (2, .int l2)]) (st2 := [.ref l0]) hm dX13_wanted_1384 rfl ?_
                                                                                                  refine mx_S.pu (pc2 := 1386) (lv2 := [(3, .int s0), (0, .ref l0), (2, .int l2)]) (st2 := [.ref l0, .ref l0]) hm dX13_wanted_1385 rfl ?_
                                                                                                  refine mx_S.pu (pc2 := 1387) (lv2 := [(3, .int s0), (0, .ref l0), (2, .int l2)]) (st2 := [.ref l0, .ref l0, .ref l0]) hm dX13_wanted_1386 rfl ?_
                                                                                                  replace hf := mx_sv_el hf; obtain ⟨v177, e_v177, hf⟩ := hf
                                                                                                  refine sx_get hm dX13_wanted_1387 rs_RX13_932 (xgi_el e_v177) ?_
                                                                                                  clear e_v177
                                                                                                  refine mx_S.pu (pc2 := 1391) (lv2 := [(3, .int s0), (0, .ref l0), (2, .int l2)]) (st2 := [.ref l0, .int v177, .ref l0, .ref l0]) hm dX13_wanted_1390 rfl ?_
                                                                                                  refine mx_S.pu (pc2 := 1392) (lv2 := [(3, .int s0), (0, .ref l0), (2, .int l2)]) (st2 := [.int s0, .ref l0, .int v177, .ref l0, .ref l0]) hm dX13_wanted_1391 rfl ?_
                                                                                                  refine sx_ic (v := 0) hm dX13_wanted_1392 (by decide) ?_
                                                                                                  replace hf := mx_gd_el hf; obtain ⟨c178, hf⟩ := hf
                                                                                                  replace hf := mx_sv_el hf; obtain ⟨u179, e_u179, hf⟩ := hf
                                                                                                  refine sx_cv hm dX13_wanted_1393 rs_RX13_1022 mt_X13_partOf [.int s0, .int 0] [.int v177, .ref l0, .ref l0] (b := l0) (ci := 13) rfl rfl rfl c178 (Nat.le_of_ble_eq_true rfl) (Nat.le_of_ble_eq_true rfl) (by omega) (by omega) (f_X13_partOf_ok X (by omega) (by omega) nn l0 s0 0 h e_u179) ?_
                                                                                                  clear e_u179
                                                                                                  show mx_S X F L 567 1396 [(3, .int s0), (0, .ref l0), (2, .int l2)] [.int u179.1, .int v177, .ref l0, .ref l0] u179.2 0 0 (some (.int r.1), r.2, 0, 0)
                                                                                                  replace hf := mx_gd_el hf; obtain ⟨c180, hf⟩ := hf
                                                                                                  replace hf := mx_sv_el hf; obtain ⟨u181, e_u181, hf⟩ := hf
                                                                                                  refine sx_cv hm dX13_wanted_1396 rs_RX13_952 mt_X13_typeOfClass [.int v177, .int u179.1] [.ref l0] (b := l0) (ci := 13) rfl rfl rfl c180 (Nat.le_of_ble_eq_true rfl) (Nat.le_of_ble_eq_true rfl) (by omega) (by omega) (f_X13_typeOfClass_ok X (by omega) (by omega) nn l0 v177 u179.1 u179.2 e_u181) ?_
                                                                                                  clear e_u181
                                                                                                  show mx_S X F L 567 1399 [(3, .int s0), (0, .ref l0), (2, .int l2)] [.int u181.1, .ref l0] u181.2 0 0 (some (.int r.1), r.2, 0, 0)
                                                                                                  replace hf := mx_gd_el hf; obtain ⟨c182, hf⟩ := hf
                                                                                                  replace hf := mx_sv_el hf; obtain ⟨u183, e_u183, hf⟩ := hf
                                                                                                  refine sx_cv hm dX13_wanted_1399 rs_RX13_1037 mt_X13_pullFit [.int u181.1] [] (b := l0) (ci := 13) rfl rfl rfl c182 (Nat.le_of_ble_eq_true rfl) (Nat.le_of_ble_eq_true rfl) (by omega) (by omega) (f_X13_pullFit_ok X (by omega) (by omega) nn l0 u181.1 u181.2 e_u183) ?_
                                                                                                  clear e_u183
                                                                                                  show mx_S X F L 567 1402 [(3, .int s0), (0, .ref l0), (2, .int l2)] [.int u183.1] u183.2 0 0 (some (.int r.1), r.2, 0, 0)
                                                                                                  rcases mx_if_el hf with ⟨c192, hf⟩ | ⟨c192, hf⟩
                                                                                                  · refine sb_if_eq hm dX13_wanted_1402 (tgt := 1430) rfl (fun _ => ?_) (fun z => absurd c192 z)
                                                                                                    refine sx_ic (v := 0) hm dX13_wanted_1430 (by decide) ?_
                                                                                                    cases hf
                                                                                                    exact sx_ire hm dX13_wanted_1431 rfl (by decide)
                                                                                                  · refine sb_if_eq hm dX13_wanted_1402 (tgt := 1430) rfl (fun z => absurd z c192) (fun _ => ?_)
                                                                                                    refine mx_S.pu (pc2 := 1406) (lv2 := [(3, .int s0), (0, .ref l0), (2, .int l2)]) (st2 := [.ref l0]) hm dX13_wanted_1405 rfl ?_
                                                                                                    refine mx_S.pu (pc2 := 1407) (lv2 := [(3, .int s0), (0, .ref l0), (2, .int l2)]) (st2 := [.ref l0, .ref l0]) hm dX13_wanted_1406 rfl ?_
                                                                                                    refine mx_S.pu (pc2 := 1408) (lv2 := [(3, .int s0), (0, .ref l0), (2, .int l2)]) (st2 := [.ref l0, .ref l0, .ref l0]) hm dX13_wanted_1407 rfl ?_
                                                                                                    replace hf := mx_sv_el hf; obtain ⟨v184, e_v184, hf⟩ := hf
                                                                                                    refine sx_get hm dX13_wanted_1408 rs_RX13_932 (xgi_el e_v184) ?_
                                                                                                    clear e_v184
                                                                                                    refine mx_S.pu (pc2 := 1412) (lv2 := [(3, .int s0), (0, .ref l0), (2, .int l2)]) (st2 := [.ref l0, .int v184, .ref l0, .ref l0]) hm dX13_wanted_1411 rfl ?_
                                                                                                    refine mx_S.pu (pc2 := 1413) (lv2 := [(3, .int s0), (0, .ref l0), (2, .int l2)]) (st2 := [.int s0, .ref l0, .int v184, .ref l0, .ref l0]) hm dX13_wanted_1412 rfl ?_
                                                                                                    refine sx_ic (v := 2) hm dX13_wanted_1413 (by decide) ?_
                                                                                                    replace hf := mx_gd_el hf; obtain ⟨c185, hf⟩ := hf
                                                                                                    replace hf := mx_sv_el hf; obtain ⟨u186, e_u186, hf⟩ := hf
                                                                                                    refine sx_cv hm dX13_wanted_1414 rs_RX13_1022 mt_X13_partOf [.int s0, .int 2] [.int v184, .ref l0, .ref l0] (b := l0) (ci := 13) rfl rfl rfl c185 (Nat.le_of_ble_eq_true rfl) (Nat.le_of_ble_eq_true rfl) (by omega) (by omega) (f_X13_partOf_ok X (by omega) (by omega) nn l0 s0 2 u183.2 e_u186) ?_
                                                                                                    clear e_u186
                                                                                                    show mx_S X F L 567 1417 [(3, .int s0), (0, .ref l0), (2, .int l2)] [.int u186.1, .int v184, .ref l0, .ref l0] u186.2 0 0 (some (.int r.1), r.2, 0, 0)
                                                                                                    replace hf := mx_gd_el hf; obtain ⟨c187, hf⟩ := hf
                                                                                                    replace hf := mx_sv_el hf; obtain ⟨u188, e_u188, hf⟩ := hf
                                                                                                    refine sx_cv hm dX13_wanted_1417 rs_RX13_913 mt_X13_kindType [.int v184, .int u186.1] [.ref l0] (b := l0) (ci := 13) rfl rfl rfl c187 (Nat.le_of_ble_eq_true rfl) (Nat.le_of_ble_eq_true rfl) (by omega) (by omega) (f_X13_kindType_ok X (by omega) (by omega) nn l0 v184 u186.1 u186.2 e_u188) ?_
                                                                                                    clear e_u188
                                                                                                    show mx_S X F L 567 1420 [(3, .int s0), (0, .ref l0), (2, .int l2)] [.int u188.1, .ref l0] u188.2 0 0 (some (.int r.1), r.2, 0, 0)
                                                                                                    replace hf := mx_gd_el hf; obtain ⟨c189, hf⟩ := hf
                                                                                                    replace hf := mx_sv_el hf; obtain ⟨u190, e_u190, hf⟩ := hf
                                                                                                    refine sx_cv hm dX13_wanted_1420 rs_RX13_1028 mt_X13_comesBack [.int u188.1] [] (b := l0) (ci := 13) rfl rfl rfl c189 (Nat.le_of_ble_eq_true rfl) (Nat.le_of_ble_eq_true rfl) (by omega) (by omega) (f_X13_comesBack_ok X (by omega) (by omega) nn l0 u188.1 u188.2 e_u190) ?_
                                                                                                    clear e_u190
                                                                                                    show mx_S X F L 567 1423 [(3, .int s0), (0, .ref l0), (2, .int l2)] [.int u190.1] u190.2 0 0 (some (.int r.1), r.2, 0, 0)
                                                                                                    rcases mx_if_el hf with ⟨c191, hf⟩ | ⟨c191, hf⟩
                                                                                                    · refine sb_if_eq hm dX13_wanted_1423 (tgt := 1430) rfl (fun _ => ?_) (fun z => absurd c191 z)
                                                                                                      refine sx_ic (v := 0) hm dX13_wanted_1430 (by decide) ?_
                                                                                                      cases hf
                                                                                                      exact sx_ire hm dX13_wanted_1431 rfl (by decide)
                                                                                                    · refine sb_if_eq hm dX13_wanted_1423 (tgt := 1430) rfl (fun z => absurd z c191) (fun _ => ?_)
                                                                                                      refine sx_ic (v := 1) hm dX13_wanted_1426 (by decide) ?_
                                                                                                      refine mx_S.pu (pc2 := 1431) (lv2 := [(3, .int s0), (0, .ref l0), (2, .int l2)]) (st2 := [.int 1]) hm dX13_wanted_1427 rfl ?_
                                                                                                      cases hf
                                                                                                      exact sx_ire hm dX13_wanted_1431 rfl (by decide)
                                                                                                · rcases mx_if_el hf with ⟨n_48, hf⟩ | ⟨n_48, hf⟩
                                                                                                  · refine sx_tin hm dX13_wanted_27 (by rw [n_48]; decide) (by rw [n_48]; decide) (off := 1405) (by rw [n_48]; rfl) (tgt := 1432) rfl ?_
                                                                                                    clear n_0 n_1 n_2 n_3 n_4 n_5 n_6 n_7 n_8 n_9 n_10 n_11 n_12 n_13 n_14 n_15 n_16 n_17 n_18 n_19 n_20 n_21 n_22 n_23 n_24 n_25 n_26 n_27 n_28 n_29 n_30 n_31 n_32 n_33 n_34 n_35 n_36 n_37 n_38 n_39 n_40 n_41 n_42 n_43 n_44 n_45 n_46 n_47 n_48
                                                                                                    refine mx_S.pu (pc2 := 1433) (lv2 := [(3, .int s0), (0, .ref l0), (2, .int l2)]) (st2 := [.ref l0]) hm dX13_wanted_1432 rfl ?_
                                                                                                    refine mx_S.pu (pc2 := 1434) (lv2 := [(3, .int s0), (0, .ref l0), (2, .int l2)]) (st2 := [.ref l0, .ref l0]) hm dX13_wanted_1433 rfl ?_
                                                                                                    refine mx_S.pu (pc2 := 1435) (lv2 := [(3, .int s0), (0, .ref l0), (2, .int l2)]) (st2 := [.ref l0, .ref l0, .ref l0]) hm dX13_wanted_1434 rfl ?_
                                                                                                    replace hf := mx_sv_el hf; obtain ⟨v193, e_v193, hf⟩ := hf
                                                                                                    refine sx_get hm dX13_wanted_1435 rs_RX13_932 (xgi_el e_v193) ?_
                                                                                                    clear e_v193
                                                                                                    refine mx_S.pu (pc2 := 1439) (lv2 := [(3, .int s0), (0, .ref l0), (2, .int l2)]) (st2 := [.ref l0, .int v193, .ref l0, .ref l0]) hm dX13_wanted_1438 rfl ?_
                                                                                                    refine mx_S.pu (pc2 := 1440) (lv2 := [(3, .int s0), (0, .ref l0), (2, .int l2)]) (st2 := [.int s0, .ref l0, .int v193, .ref l0, .ref l0]) hm dX13_wanted_1439 rfl ?_
                                                                                                    refine sx_ic (v := 2) hm dX13_wanted_1440 (by decide) ?_
                                                                                                    replace hf := mx_gd_el hf; obtain ⟨c194, hf⟩ := hf
                                                                                                    replace hf := mx_sv_el hf; obtain ⟨u195, e_u195, hf⟩ := hf
                                                                                                    refine sx_cv hm dX13_wanted_1441 rs_RX13_1022 mt_X13_partOf [.int s0, .int 2] [.int v193, .ref l0, .ref l0] (b := l0) (ci := 13) rfl rfl rfl c194 (Nat.le_of_ble_eq_true rfl) (Nat.le_of_ble_eq_true rfl) (by omega) (by omega) (f_X13_partOf_ok X (by omega) (by omega) nn l0 s0 2 h e_u195) ?_
                                                                                                    clear e_u195
                                                                                                    show mx_S X F L 567 1444 [(3, .int s0), (0, .ref l0), (2, .int l2)] [.int u195.1, .int v193, .ref l0, .ref l0] u195.2 0 0 (some (.int r.1), r.2, 0, 0)
                                                                                                    replace hf := mx_gd_el hf; obtain ⟨c196, hf⟩ := hf
                                                                                                    replace hf := mx_sv_el hf; obtain ⟨u197, e_u197, hf⟩ := hf
                                                                                                    refine sx_cv hm dX13_wanted_1444 rs_RX13_913 mt_X13_kindType [.int v193, .int u195.1] [.ref l0] (b := l0) (ci := 13) rfl rfl rfl c196 (Nat.le_of_ble_eq_true rfl) (Nat.le_of_ble_eq_true rfl) (by omega) (by omega) (f_X13_kindType_ok X (by omega) (by omega) nn l0 v193 u195.1 u195.2 e_u197) ?_
                                                                                                    clear e_u197
                                                                                                    show mx_S X F L 567 1447 [(3, .int s0), (0, .ref l0), (2, .int l2)] [.int u197.1, .ref l0] u197.2 0 0 (some (.int r.1), r.2, 0, 0)
                                                                                                    replace hf := mx_gd_el hf; obtain ⟨c198, hf⟩ := hf
                                                                                                    replace hf := mx_sv_el hf; obtain ⟨u199, e_u199, hf⟩ := hf
                                                                                                    refine sx_cv hm dX13_wanted_1447 rs_RX13_1037 mt_X13_pullFit [.int u197.1] [] (b := l0) (ci := 13) rfl rfl rfl c198 (Nat.le_of_ble_eq_true rfl) (Nat.le_of_ble_eq_true rfl) (by omega) (by omega) (f_X13_pullFit_ok X (by omega) (by omega) nn l0 u197.1 u197.2 e_u199) ?_
                                                                                                    clear e_u199
                                                                                                    show mx_S X F L 567 1450 [(3, .int s0), (0, .ref l0), (2, .int l2)] [.int u199.1] u199.2 0 0 (some (.int r.1), r.2, 0, 0)
                                                                                                    rcases mx_if_el hf with ⟨c200, hf⟩ | ⟨c200, hf⟩
                                                                                                    · refine sb_if_eq hm dX13_wanted_1450 (tgt := 1478) rfl (fun _ => ?_) (fun z => absurd c200 z)
                                                                                                      refine sx_ic (v := 0) hm dX13_wanted_1478 (by decide) ?_
                                                                                                      cases hf
                                                                                                      exact sx_ire hm dX13_wanted_1479 rfl (by decide)
                                                                                                    · refine sb_if_eq hm dX13_wanted_1450 (tgt := 1478) rfl (fun z => absurd z c200) (fun _ => ?_)
                                                                                                      refine mx_S.ext [(0, .ref l0), (3, .int s0)] (mx_sub_pos [1, 0] rfl (show ([3, 0, 2] : List Nat).Nodup by decide)) ?_
                                                                                                      exact j_X13_wanted_1453_ok X hF hL nn l0 s0 u199.2 hf
                                                                                                  · rcases mx_if_el hf with ⟨n_49, hf⟩ | ⟨n_49, hf⟩
                                                                                                    · refine sx_tin hm dX13_wanted_27 (by rw [n_49]; decide) (by rw [n_49]; decide) (off := 1453) (by rw [n_49]; rfl) (tgt := 1480) rfl ?_
                                                                                                      clear n_0 n_1 n_2 n_3 n_4 n_5 n_6 n_7 n_8 n_9 n_10 n_11 n_12 n_13 n_14 n_15 n_16 n_17 n_18 n_19 n_20 n_21 n_22 n_23 n_24 n_25 n_26 n_27 n_28 n_29 n_30 n_31 n_32 n_33 n_34 n_35 n_36 n_37 n_38 n_39 n_40 n_41 n_42 n_43 n_44 n_45 n_46 n_47 n_48 n_49
                                                                                                      refine mx_S.ext [(0, .ref l0), (2, .int l2), (3, .int s0)] (mx_sub_pos [1, 2, 0] rfl (show ([3, 0, 2] : List Nat).Nodup by decide)) ?_
                                                                                                      exact j_X13_wanted_1480_ok X hF hL nn l0 l2 s0 h hf
                                                                                                    · rcases mx_if_el hf with ⟨n_50, hf⟩ | ⟨n_50, hf⟩
                                                                                                      · refine sx_tin hm dX13_wanted_27 (by rw [n_50]; decide) (by rw [n_50]; decide) (off := 1453) (by rw [n_50]; rfl) (tgt := 1480) rfl ?_
                                                                                                        clear n_0 n_1 n_2 n_3 n_4 n_5 n_6 n_7 n_8 n_9 n_10 n_11 n_12 n_13 n_14 n_15 n_16 n_17 n_18 n_19 n_20 n_21 n_22 n_23 n_24 n_25 n_26 n_27 n_28 n_29 n_30 n_31 n_32 n_33 n_34 n_35 n_36 n_37 n_38 n_39 n_40 n_41 n_42 n_43 n_44 n_45 n_46 n_47 n_48 n_49 n_50
                                                                                                        refine mx_S.ext [(0, .ref l0), (2, .int l2), (3, .int s0)] (mx_sub_pos [1, 2, 0] rfl (show ([3, 0, 2] : List Nat).Nodup by decide)) ?_
                                                                                                        exact j_X13_wanted_1480_ok X hF hL nn l0 l2 s0 h hf
                                                                                                      · rcases mx_if_el hf with ⟨n_51, hf⟩ | ⟨n_51, hf⟩
                                                                                                        · refine sx_tin hm dX13_wanted_27 (by rw [n_51]; decide) (by rw [n_51]; decide) (off := 1200) (by rw [n_51]; rfl) (tgt := 1227) rfl ?_
                                                                                                          clear n_0 n_1 n_2 n_3 n_4 n_5 n_6 n_7 n_8 n_9 n_10 n_11 n_12 n_13 n_14 n_15 n_16 n_17 n_18 n_19 n_20 n_21 n_22 n_23 n_24 n_25 n_26 n_27 n_28 n_29 n_30 n_31 n_32 n_33 n_34 n_35 n_36 n_37 n_38 n_39 n_40 n_41 n_42 n_43 n_44 n_45 n_46 n_47 n_48 n_49 n_50 n_51
                                                                                                          refine mx_S.ext [(0, .ref l0)] (mx_sub_pos [1] rfl (show ([3, 0, 2] : List Nat).Nodup by decide)) ?_
                                                                                                          exact j_X13_wanted_1227_ok X hF hL nn l0 h hf
                                                                                                        · rcases mx_if_el hf with ⟨n_52, hf⟩ | ⟨n_52, hf⟩
                                                                                                          · refine sx_tin hm dX13_wanted_27 (by rw [n_52]; decide) (by rw [n_52]; decide) (off := 1471) (by rw [n_52]; rfl) (tgt := 1498) rfl ?_
                                                                                                            clear n_0 n_1 n_2 n_3 n_4 n_5 n_6 n_7 n_8 n_9 n_10 n_11 n_12 n_13 n_14 n_15 n_16 n_17 n_18 n_19 n_20 n_21 n_22 n_23 n_24 n_25 n_26 n_27 n_28 n_29 n_30 n_31 n_32 n_33 n_34 n_35 n_36 n_37 n_38 n_39 n_40 n_41 n_42 n_43 n_44 n_45 n_46 n_47 n_48 n_49 n_50 n_51 n_52
                                                                                                            refine mx_S.pu (pc2 := 1499) (lv2 := [(3, .int s0), (0, .ref l0), (2, .int l2)]) (st2 := [.ref l0]) hm dX13_wanted_1498 rfl ?_
                                                                                                            refine mx_S.pu (pc2 := 1500) (lv2 := [(3, .int s0), (0, .ref l0), (2, .int l2)]) (st2 := [.ref l0, .ref l0]) hm dX13_wanted_1499 rfl ?_
                                                                                                            refine mx_S.pu (pc2 := 1501) (lv2 := [(3, .int s0), (0, .ref l0), (2, .int l2)]) (st2 := [.ref l0, .ref l0, .ref l0]) hm dX13_wanted_1500 rfl ?_
                                                                                                            replace hf := mx_sv_el hf; obtain ⟨v201, e_v201, hf⟩ := hf
                                                                                                            refine sx_get hm dX13_wanted_1501 rs_RX13_932 (xgi_el e_v201) ?_
                                                                                                            clear e_v201
                                                                                                            refine mx_S.pu (pc2 := 1505) (lv2 := [(3, .int s0), (0, .ref l0), (2, .int l2)]) (st2 := [.int s0, .int v201, .ref l0, .ref l0]) hm dX13_wanted_1504 rfl ?_
                                                                                                            replace hf := mx_gd_el hf; obtain ⟨c202, hf⟩ := hf
                                                                                                            replace hf := mx_sv_el hf; obtain ⟨u203, e_u203, hf⟩ := hf
                                                                                                            refine sx_cv hm dX13_wanted_1505 rs_RX13_952 mt_X13_typeOfClass [.int v201, .int s0] [.ref l0] (b := l0) (ci := 13) rfl rfl rfl c202 (Nat.le_of_ble_eq_true rfl) (Nat.le_of_ble_eq_true rfl) (by omega) (by omega) (f_X13_typeOfClass_ok X (by omega) (by omega) nn l0 v201 s0 h e_u203) ?_
                                                                                                            clear e_u203
                                                                                                            show mx_S X F L 567 1508 [(3, .int s0), (0, .ref l0), (2, .int l2)] [.int u203.1, .ref l0] u203.2 0 0 (some (.int r.1), r.2, 0, 0)
                                                                                                            replace hf := mx_gd_el hf; obtain ⟨c204, hf⟩ := hf
                                                                                                            replace hf := mx_sv_el hf; obtain ⟨u205, e_u205, hf⟩ := hf
                                                                                                            refine sx_cv hm dX13_wanted_1508 rs_RX13_1028 mt_X13_comesBack [.int u203.1] [] (b := l0) (ci := 13) rfl rfl rfl c204 (Nat.le_of_ble_eq_true rfl) (Nat.le_of_ble_eq_true rfl) (by omega) (by omega) (f_X13_comesBack_ok X (by omega) (by omega) nn l0 u203.1 u203.2 e_u205) ?_
                                                                                                            clear e_u205
                                                                                                            show mx_S X F L 567 1511 [(3, .int s0), (0, .ref l0), (2, .int l2)] [.int u205.1] u205.2 0 0 (some (.int r.1), r.2, 0, 0)
                                                                                                            replace hf := mx_gd_el hf; obtain ⟨c206, hf⟩ := hf
                                                                                                            cases hf
                                                                                                            exact sx_ire hm dX13_wanted_1511 rfl (xbq_ok c206).1
                                                                                                          · rcases mx_if_el hf with ⟨n_53, hf⟩ | ⟨n_53, hf⟩
                                                                                                            · refine sx_tin hm dX13_wanted_27 (by rw [n_53]; decide) (by rw [n_53]; decide) (off := 1485) (by rw [n_53]; rfl) (tgt := 1512) rfl ?_
                                                                                                              clear n_0 n_1 n_2 n_3 n_4 n_5 n_6 n_7 n_8 n_9 n_10 n_11 n_12 n_13 n_14 n_15 n_16 n_17 n_18 n_19 n_20 n_21 n_22 n_23 n_24 n_25 n_26 n_27 n_28 n_29 n_30 n_31 n_32 n_33 n_34 n_35 n_36 n_37 n_38 n_39 n_40 n_41 n_42 n_43 n_44 n_45 n_46 n_47 n_48 n_49 n_50 n_51 n_52 n_53
                                                                                                              refine mx_S.pu (pc2 := 1513) (lv2 := [(3, .int s0), (0, .ref l0), (2, .int l2)]) (st2 := [.ref l0]) hm dX13_wanted_1512 rfl ?_
                                                                                                              refine sx_ic (v := 1) hm dX13_wanted_1513 (by decide) ?_
                                                                                                              replace hf := mx_gd_el hf; obtain ⟨c207, hf⟩ := hf
                                                                                                              replace hf := mx_sv_el hf; obtain ⟨u208, e_u208, hf⟩ := hf
                                                                                                              refine sx_cv hm dX13_wanted_1514 rs_RX13_1031 mt_X13_pullInts [.int 1] [] (b := l0) (ci := 13) rfl rfl rfl c207 (Nat.le_of_ble_eq_true rfl) (Nat.le_of_ble_eq_true rfl) (by omega) (by omega) (f_X13_pullInts_ok X (by omega) (by omega) nn l0 1 h e_u208) ?_
                                                                                                              clear e_u208
                                                                                                              show mx_S X F L 567 1517 [(3, .int s0), (0, .ref l0), (2, .int l2)] [.int u208.1] u208.2 0 0 (some (.int r.1), r.2, 0, 0)
                                                                                                              rcases mx_if_el hf with ⟨c212, hf⟩ | ⟨c212, hf⟩
                                                                                                              · refine sb_if_eq hm dX13_wanted_1517 (tgt := 1532) rfl (fun _ => ?_) (fun z => absurd c212 z)
                                                                                                                refine sx_ic (v := 0) hm dX13_wanted_1532 (by decide) ?_
                                                                                                                cases hf
                                                                                                                exact sx_ire hm dX13_wanted_1533 rfl (by decide)
                                                                                                              · refine sb_if_eq hm dX13_wanted_1517 (tgt := 1532) rfl (fun z => absurd z c212) (fun _ => ?_)
                                                                                                                refine mx_S.pu (pc2 := 1521) (lv2 := [(3, .int s0), (0, .ref l0), (2, .int l2)]) (st2 := [.ref l0]) hm dX13_wanted_1520 rfl ?_
                                                                                                                refine sx_ic (v := 3) hm dX13_wanted_1521 (by decide) ?_
                                                                                                                replace hf := mx_gd_el hf; obtain ⟨c209, hf⟩ := hf
                                                                                                                replace hf := mx_sv_el hf; obtain ⟨u210, e_u210, hf⟩ := hf
                                                                                                                refine sx_cv hm dX13_wanted_1522 rs_RX13_1028 mt_X13_comesBack [.int 3] [] (b := l0) (ci := 13) rfl rfl rfl c209 (Nat.le_of_ble_eq_true rfl) (Nat.le_of_ble_eq_true rfl) (by omega) (by omega) (f_X13_comesBack_ok X (by omega) (by omega) nn l0 3 u208.2 e_u210) ?_
                                                                                                                clear e_u210
                                                                                                                show mx_S X F L 567 1525 [(3, .int s0), (0, .ref l0), (2, .int l2)] [.int u210.1] u210.2 0 0 (some (.int r.1), r.2, 0, 0)
                                                                                                                rcases mx_if_el hf with ⟨c211, hf⟩ | ⟨c211, hf⟩
                                                                                                                · refine sb_if_eq hm dX13_wanted_1525 (tgt := 1532) rfl (fun _ => ?_) (fun z => absurd c211 z)
                                                                                                                  refine sx_ic (v := 0) hm dX13_wanted_1532 (by decide) ?_
                                                                                                                  cases hf
                                                                                                                  exact sx_ire hm dX13_wanted_1533 rfl (by decide)
                                                                                                                · refine sb_if_eq hm dX13_wanted_1525 (tgt := 1532) rfl (fun z => absurd z c211) (fun _ => ?_)
                                                                                                                  refine sx_ic (v := 1) hm dX13_wanted_1528 (by decide) ?_
                                                                                                                  refine mx_S.pu (pc2 := 1533) (lv2 := [(3, .int s0), (0, .ref l0), (2, .int l2)]) (st2 := [.int 1]) hm dX13_wanted_1529 rfl ?_
                                                                                                                  cases hf
                                                                                                                  exact sx_ire hm dX13_wanted_1533 rfl (by decide)
                                                                                                            · rcases mx_if_el hf with ⟨n_54, hf⟩ | ⟨n_54, hf⟩
                                                                                                              · refine sx_tin hm dX13_wanted_27 (by rw [n_54]; decide) (by rw [n_54]; decide) (off := 1507) (by rw [n_54]; rfl) (tgt := 1534) rfl ?_
                                                                                                                clear n_0 n_1 n_2 n_3 n_4 n_5 n_6 n_7 n_8 n_9 n_10 n_11 n_12 n_13 n_14 n_15 n_16 n_17 n_18 n_19 n_20 n_21 n_22 n_23 n_24 n_25 n_26 n_27 n_28 n_29 n_30 n_31 n_32 n_33 n_34 n_35 n_36 n_37 n_38 n_39 n_40 n_41 n_42 n_43 n_44 n_45 n_46 n_47 n_48 n_49 n_50 n_51 n_52 n_53 n_54
                                                                                                                refine mx_S.pu (pc2 := 1535) (lv2 := [(3, .int s0), (0, .ref l0), (2, .int l2)]) (st2 := [.ref l0]) hm dX13_wanted_1534 rfl ?_
                                                                                                                refine sx_ic (v := 1) hm dX13_wanted_1535 (by decide) ?_
                                                                                                                replace hf := mx_gd_el hf; obtain ⟨c213, hf⟩ := hf
                                                                                                                replace hf := mx_sv_el hf; obtain ⟨u214, e_u214, hf⟩ := hf
                                                                                                                refine sx_cv hm dX13_wanted_1536 rs_RX13_1031 mt_X13_pullInts [.int 1] [] (b := l0) (ci := 13) rfl rfl rfl c213 (Nat.le_of_ble_eq_true rfl) (Nat.le_of_ble_eq_true rfl) (by omega) (by omega) (f_X13_pullInts_ok X (by omega) (by omega) nn l0 1 h e_u214) ?_
                                                                                                                clear e_u214
                                                                                                                show mx_S X F L 567 1539 [(3, .int s0), (0, .ref l0), (2, .int l2)] [.int u214.1] u214.2 0 0 (some (.int r.1), r.2, 0, 0)
                                                                                                                rcases mx_if_el hf with ⟨c222, hf⟩ | ⟨c222, hf⟩
                                                                                                                · refine sb_if_eq hm dX13_wanted_1539 (tgt := 1564) rfl (fun _ => ?_) (fun z => absurd c222 z)
                                                                                                                  refine sx_ic (v := 0) hm dX13_wanted_1564 (by decide) ?_
                                                                                                                  cases hf
                                                                                                                  exact sx_ire hm dX13_wanted_1565 rfl (by decide)
                                                                                                                · refine sb_if_eq hm dX13_wanted_1539 (tgt := 1564) rfl (fun z => absurd z c222) (fun _ => ?_)
                                                                                                                  refine mx_S.pu (pc2 := 1543) (lv2 := [(3, .int s0), (0, .ref l0), (2, .int l2)]) (st2 := [.ref l0]) hm dX13_wanted_1542 rfl ?_
                                                                                                                  refine mx_S.pu (pc2 := 1544) (lv2 := [(3, .int s0), (0, .ref l0), (2, .int l2)]) (st2 := [.ref l0, .ref l0]) hm dX13_wanted_1543 rfl ?_
                                                                                                                  refine mx_S.pu (pc2 := 1545) (lv2 := [(3, .int s0), (0, .ref l0), (2, .int l2)]) (st2 := [.ref l0, .ref l0, .ref l0]) hm dX13_wanted_1544 rfl ?_
                                                                                                                  replace hf := mx_sv_el hf; obtain ⟨v215, e_v215, hf⟩ := hf
                                                                                                                  refine sx_get hm dX13_wanted_1545 rs_RX13_932 (xgi_el e_v215) ?_
                                                                                                                  clear e_v215
                                                                                                                  refine mx_S.pu (pc2 := 1549) (lv2 := [(3, .int s0), (0, .ref l0), (2, .int l2)]) (st2 := [.int s0, .int v215, .ref l0, .ref l0]) hm dX13_wanted_1548 rfl ?_
                                                                                                                  replace hf := mx_gd_el hf; obtain ⟨c216, hf⟩ := hf
                                                                                                                  replace hf := mx_sv_el hf; obtain ⟨u217, e_u217, hf⟩ := hf
                                                                                                                  refine sx_cv hm dX13_wanted_1549 rs_RX13_952 mt_X13_typeOfClass [.int v215, .int s0] [.ref l0] (b := l0) (ci := 13) rfl rfl rfl c216 (Nat.le_of_ble_eq_true rfl) (Nat.le_of_ble_eq_true rfl) (by omega) (by omega) (f_X13_typeOfClass_ok X (by omega) (by omega) nn l0 v215 s0 u214.2 e_u217) ?_
                                                                                                                  clear e_u217
                                                                                                                  show mx_S X F L 567 1552 [(3, .int s0), (0, .ref l0), (2, .int l2)] [.int u217.1, .ref l0] u217.2 0 0 (some (.int r.1), r.2, 0, 0)
                                                                                                                  refine sx_ic (v := 1) hm dX13_wanted_1552 (by decide) ?_
                                                                                                                  replace hf := xl_el hf; obtain ⟨v218, e_v218, hf⟩ := hf
                                                                                                                  refine mx_S.pu (pc2 := 1554) (lv2 := [(3, .int s0), (0, .ref l0), (2, .int l2)]) (st2 := [.int v218, .ref l0]) hm dX13_wanted_1553 (by rw [← e_v218]; rfl) ?_
                                                                                                                  clear e_v218
                                                                                                                  replace hf := mx_gd_el hf; obtain ⟨c219, hf⟩ := hf
                                                                                                                  replace hf := mx_sv_el hf; obtain ⟨u220, e_u220, hf⟩ := hf
                                                                                                                  refine sx_cv hm dX13_wanted_1554 rs_RX13_1028 mt_X13_comesBack [.int v218] [] (b := l0) (ci := 13) rfl rfl rfl c219 (Nat.le_of_ble_eq_true rfl) (Nat.le_of_ble_eq_true rfl) (by omega) (by omega) (f_X13_comesBack_ok X (by omega) (by omega) nn l0 v218 u217.2 e_u220) ?_
                                                                                                                  clear e_u220
                                                                                                                  show mx_S X F L 567 1557 [(3, .int s0), (0, .ref l0), (2, .int l2)] [.int u220.1] u220.2 0 0 (some (.int r.1), r.2, 0, 0)
                                                                                                                  rcases mx_if_el hf with ⟨c221, hf⟩ | ⟨c221, hf⟩
                                                                                                                  · refine sb_if_eq hm dX13_wanted_1557 (tgt := 1564) rfl (fun _ => ?_) (fun z => absurd c221 z)
                                                                                                                    refine sx_ic (v := 0) hm dX13_wanted_1564 (by decide) ?_
                                                                                                                    cases hf
                                                                                                                    exact sx_ire hm dX13_wanted_1565 rfl (by decide)
                                                                                                                  · refine sb_if_eq hm dX13_wanted_1557 (tgt := 1564) rfl (fun z => absurd z c221) (fun _ => ?_)
                                                                                                                    refine sx_ic (v := 1) hm dX13_wanted_1560 (by decide) ?_
                                                                                                                    refine mx_S.pu (pc2 := 1565) (lv2 := [(3, .int s0), (0, .ref l0), (2, .int l2)]) (st2 := [.int 1]) hm dX13_wanted_1561 rfl ?_
                                                                                                                    cases hf
                                                                                                                    exact sx_ire hm dX13_wanted_1565 rfl (by decide)
                                                                                                              · rcases mx_if_el hf with ⟨n_55, hf⟩ | ⟨n_55, hf⟩
                                                                                                                · refine sx_tin hm dX13_wanted_27 (by rw [n_55]; decide) (by rw [n_55]; decide) (off := 1539) (by rw [n_55]; rfl) (tgt := 1566) rfl ?_
                                                                                                                  clear n_0 n_1 n_2 n_3 n_4 n_5 n_6 n_7 n_8 n_9 n_10 n_11 n_12 n_13 n_14 n_15 n_16 n_17 n_18 n_19 n_20 n_21 n_22 n_23 n_24 n_25 n_26 n_27 n_28 n_29 n_30 n_31 n_32 n_33 n_34 n_35 n_36 n_37 n_38 n_39 n_40 n_41 n_42 n_43 n_44 n_45 n_46 n_47 n_48 n_49 n_50 n_51 n_52 n_53 n_54 n_55
                                                                                                                  refine mx_S.pu (pc2 := 1567) (lv2 := [(3, .int s0), (0, .ref l0), (2, .int l2)]) (st2 := [.ref l0]) hm dX13_wanted_1566 rfl ?_
                                                                                                                  replace hf := mx_gd_el hf; obtain ⟨c223, hf⟩ := hf
                                                                                                                  replace hf := mx_sv_el hf; obtain ⟨u224, e_u224, hf⟩ := hf
                                                                                                                  refine sx_cv hm dX13_wanted_1567 rs_RX13_1025 mt_X13_pull [] [] (b := l0) (ci := 13) rfl rfl rfl c223 (Nat.le_of_ble_eq_true rfl) (Nat.le_of_ble_eq_true rfl) (by omega) (by omega) (f_X13_pull_ok X (by omega) (by omega) nn l0 h e_u224) ?_
                                                                                                                  clear e_u224
                                                                                                                  show mx_S X F L 567 1570 [(3, .int s0), (0, .ref l0), (2, .int l2)] [.int u224.1] u224.2 0 0 (some (.int r.1), r.2, 0, 0)
                                                                                                                  refine mx_S.pu (pc2 := 1572) (lv2 := [(4, .int u224.1), (3, .int s0), (0, .ref l0), (2, .int l2)]) (st2 := []) hm dX13_wanted_1570 rfl ?_
                                                                                                                  refine mx_S.pu (pc2 := 1574) (lv2 := [(4, .int u224.1), (3, .int s0), (0, .ref l0), (2, .int l2)]) (st2 := [.int u224.1]) hm dX13_wanted_1572 rfl ?_
                                                                                                                  refine sx_ic (v := 2) hm dX13_wanted_1574 (by decide) ?_
                                                                                                                  rcases mx_if_el hf with ⟨c228, hf⟩ | ⟨c228, hf⟩
                                                                                                                  · refine sb_ic_eq hm dX13_wanted_1575 (tgt := 1592) rfl (fun _ => ?_) (fun z => absurd c228 z)
                                                                                                                    refine mx_S.ext [(0, .ref l0)] (mx_sub_pos [2] rfl (show ([4, 3, 0, 2] : List Nat).Nodup by decide)) ?_
                                                                                                                    exact j_X13_wanted_1592_ok X hF hL nn l0 u224.2 hf
                                                                                                                  · refine sb_ic_eq hm dX13_wanted_1575 (tgt := 1592) rfl (fun z => absurd z c228) (fun _ => ?_)
                                                                                                                    refine mx_S.pu (pc2 := 1580) (lv2 := [(4, .int u224.1), (3, .int s0), (0, .ref l0), (2, .int l2)]) (st2 := [.int u224.1]) hm dX13_wanted_1578 rfl ?_
                                                                                                                    refine sx_ic (v := (-1)) hm dX13_wanted_1580 (by decide) ?_
                                                                                                                    rcases mx_if_el hf with ⟨c227, hf⟩ | ⟨c227, hf⟩
                                                                                                                    · refine sb_ic_eq hm dX13_wanted_1581 (tgt := 1604) rfl (fun _ => ?_) (fun z => absurd c227 z)
                                                                                                                      refine sx_ic (v := 0) hm dX13_wanted_1604 (by decide) ?_
                                                                                                                      cases hf
                                                                                                                      exact sx_ire hm dX13_wanted_1605 rfl (by decide)
                                                                                                                    · refine sb_ic_eq hm dX13_wanted_1581 (tgt := 1604) rfl (fun z => absurd z c227) (fun _ => ?_)
                                                                                                                      refine mx_S.pu (pc2 := 1586) (lv2 := [(4, .int u224.1), (3, .int s0), (0, .ref l0), (2, .int l2)]) (st2 := [.int u224.1]) hm dX13_wanted_1584 rfl ?_
                                                                                                                      replace hf := mx_sv_el hf; obtain ⟨u225, e_u225, hf⟩ := hf
                                                                                                                      refine sx_cs hm dX13_wanted_1586 rs_RX13_888 mt_X13_isRow [.int u224.1] [] rfl rfl (Nat.le_of_ble_eq_true rfl) (Nat.le_of_ble_eq_true rfl) (by omega) (by omega) (f_X13_isRow_ok X (by omega) (by omega) nn u224.1 u224.2 e_u225) ?_
                                                                                                                      clear e_u225
                                                                                                                      show mx_S X F L 567 1589 [(4, .int u224.1), (3, .int s0), (0, .ref l0), (2, .int l2)] [.int u225.1] u225.2 0 0 (some (.int r.1), r.2, 0, 0)
                                                                                                                      rcases mx_if_el hf with ⟨c226, hf⟩ | ⟨c226, hf⟩
                                                                                                                      · refine sb_if_eq hm dX13_wanted_1589 (tgt := 1604) rfl (fun _ => ?_) (fun z => absurd c226 z)
                                                                                                                        refine sx_ic (v := 0) hm dX13_wanted_1604 (by decide) ?_
                                                                                                                        cases hf
                                                                                                                        exact sx_ire hm dX13_wanted_1605 rfl (by decide)
                                                                                                                      · refine sb_if_eq hm dX13_wanted_1589 (tgt := 1604) rfl (fun z => absurd z c226) (fun _ => ?_)
                                                                                                                        refine mx_S.ext [(0, .ref l0)] (mx_sub_pos [2] rfl (show ([4, 3, 0, 2] : List Nat).Nodup by decide)) ?_
                                                                                                                        exact j_X13_wanted_1592_ok X hF hL nn l0 u225.2 hf
                                                                                                                · rcases mx_if_el hf with ⟨n_56, hf⟩ | ⟨n_56, hf⟩
                                                                                                                  · refine sx_tin hm dX13_wanted_27 (by rw [n_56]; decide) (by rw [n_56]; decide) (off := 1579) (by rw [n_56]; rfl) (tgt := 1606) rfl ?_
                                                                                                                    clear n_0 n_1 n_2 n_3 n_4 n_5 n_6 n_7 n_8 n_9 n_10 n_11 n_12 n_13 n_14 n_15 n_16 n_17 n_18 n_19 n_20 n_21 n_22 n_23 n_24 n_25 n_26 n_27 n_28 n_29 n_30 n_31 n_32 n_33 n_34 n_35 n_36 n_37 n_38 n_39 n_40 n_41 n_42 n_43 n_44 n_45 n_46 n_47 n_48 n_49 n_50 n_51 n_52 n_53 n_54 n_55 n_56
                                                                                                                    refine mx_S.pu (pc2 := 1607) (lv2 := [(3, .int s0), (0, .ref l0), (2, .int l2)]) (st2 := [.ref l0]) hm dX13_wanted_1606 rfl ?_
                                                                                                                    refine sx_bi (v := 6) hm dX13_wanted_1607 (by decide) ?_
                                                                                                                    replace hf := mx_gd_el hf; obtain ⟨c229, hf⟩ := hf
                                                                                                                    replace hf := mx_sv_el hf; obtain ⟨u230, e_u230, hf⟩ := hf
                                                                                                                    refine sx_cv hm dX13_wanted_1609 rs_RX13_1037 mt_X13_pullFit [.int 6] [] (b := l0) (ci := 13) rfl rfl rfl c229 (Nat.le_of_ble_eq_true rfl) (Nat.le_of_ble_eq_true rfl) (by omega) (by omega) (f_X13_pullFit_ok X (by omega) (by omega) nn l0 6 h e_u230) ?_
                                                                                                                    clear e_u230
                                                                                                                    show mx_S X F L 567 1612 [(3, .int s0), (0, .ref l0), (2, .int l2)] [.int u230.1] u230.2 0 0 (some (.int r.1), r.2, 0, 0)
                                                                                                                    replace hf := mx_gd_el hf; obtain ⟨c231, hf⟩ := hf
                                                                                                                    cases hf
                                                                                                                    exact sx_ire hm dX13_wanted_1612 rfl (xbq_ok c231).1
                                                                                                                  · rcases mx_if_el hf with ⟨n_57, hf⟩ | ⟨n_57, hf⟩
                                                                                                                    · refine sx_tin hm dX13_wanted_27 (by rw [n_57]; decide) (by rw [n_57]; decide) (off := 1586) (by rw [n_57]; rfl) (tgt := 1613) rfl ?_
                                                                                                                      clear n_0 n_1 n_2 n_3 n_4 n_5 n_6 n_7 n_8 n_9 n_10 n_11 n_12 n_13 n_14 n_15 n_16 n_17 n_18 n_19 n_20 n_21 n_22 n_23 n_24 n_25 n_26 n_27 n_28 n_29 n_30 n_31 n_32 n_33 n_34 n_35 n_36 n_37 n_38 n_39 n_40 n_41 n_42 n_43 n_44 n_45 n_46 n_47 n_48 n_49 n_50 n_51 n_52 n_53 n_54 n_55 n_56 n_57
                                                                                                                      refine mx_S.pu (pc2 := 1614) (lv2 := [(3, .int s0), (0, .ref l0), (2, .int l2)]) (st2 := [.ref l0]) hm dX13_wanted_1613 rfl ?_
                                                                                                                      replace hf := mx_gd_el hf; obtain ⟨c232, hf⟩ := hf
                                                                                                                      replace hf := mx_sv_el hf; obtain ⟨u233, e_u233, hf⟩ := hf
                                                                                                                      refine sx_cv hm dX13_wanted_1614 rs_RX13_1034 mt_X13_pullThing [] [] (b := l0) (ci := 13) rfl rfl rfl c232 (Nat.le_of_ble_eq_true rfl) (Nat.le_of_ble_eq_true rfl) (by omega) (by omega) (f_X13_pullThing_ok X (by omega) (by omega) nn l0 h e_u233) ?_
                                                                                                                      clear e_u233
                                                                                                                      show mx_S X F L 567 1617 [(3, .int s0), (0, .ref l0), (2, .int l2)] [.int u233.1] u233.2 0 0 (some (.int r.1), r.2, 0, 0)
                                                                                                                      rcases mx_if_el hf with ⟨c240, hf⟩ | ⟨c240, hf⟩
                                                                                                                      · refine sb_if_eq hm dX13_wanted_1617 (tgt := 1640) rfl (fun _ => ?_) (fun z => absurd c240 z)
                                                                                                                        refine sx_ic (v := 0) hm dX13_wanted_1640 (by decide) ?_
                                                                                                                        cases hf
                                                                                                                        exact sx_ire hm dX13_wanted_1641 rfl (by decide)
                                                                                                                      · refine sb_if_eq hm dX13_wanted_1617 (tgt := 1640) rfl (fun z => absurd z c240) (fun _ => ?_)
                                                                                                                        refine mx_S.pu (pc2 := 1621) (lv2 := [(3, .int s0), (0, .ref l0), (2, .int l2)]) (st2 := [.ref l0]) hm dX13_wanted_1620 rfl ?_
                                                                                                                        refine mx_S.pu (pc2 := 1622) (lv2 := [(3, .int s0), (0, .ref l0), (2, .int l2)]) (st2 := [.ref l0, .ref l0]) hm dX13_wanted_1621 rfl ?_
                                                                                                                        refine mx_S.pu (pc2 := 1623) (lv2 := [(3, .int s0), (0, .ref l0), (2, .int l2)]) (st2 := [.ref l0, .ref l0, .ref l0]) hm dX13_wanted_1622 rfl ?_
                                                                                                                        replace hf := mx_sv_el hf; obtain ⟨v234, e_v234, hf⟩ := hf
                                                                                                                        refine sx_get hm dX13_wanted_1623 rs_RX13_932 (xgi_el e_v234) ?_
                                                                                                                        clear e_v234
                                                                                                                        refine mx_S.pu (pc2 := 1627) (lv2 := [(3, .int s0), (0, .ref l0), (2, .int l2)]) (st2 := [.int s0, .int v234, .ref l0, .ref l0]) hm dX13_wanted_1626 rfl ?_
                                                                                                                        replace hf := mx_gd_el hf; obtain ⟨c235, hf⟩ := hf
                                                                                                                        replace hf := mx_sv_el hf; obtain ⟨u236, e_u236, hf⟩ := hf
                                                                                                                        refine sx_cv hm dX13_wanted_1627 rs_RX13_952 mt_X13_typeOfClass [.int v234, .int s0] [.ref l0] (b := l0) (ci := 13) rfl rfl rfl c235 (Nat.le_of_ble_eq_true rfl) (Nat.le_of_ble_eq_true rfl) (by omega) (by omega) (f_X13_typeOfClass_ok X (by omega) (by omega) nn l0 v234 s0 u233.2 e_u236) ?_
                                                                                                                        clear e_u236
                                                                                                                        show mx_S X F L 567 1630 [(3, .int s0), (0, .ref l0), (2, .int l2)] [.int u236.1, .ref l0] u236.2 0 0 (some (.int r.1), r.2, 0, 0)
                                                                                                                        replace hf := mx_gd_el hf; obtain ⟨c237, hf⟩ := hf
                                                                                                                        replace hf := mx_sv_el hf; obtain ⟨u238, e_u238, hf⟩ := hf
                                                                                                                        refine sx_cv hm dX13_wanted_1630 rs_RX13_1028 mt_X13_comesBack [.int u236.1] [] (b := l0) (ci := 13) rfl rfl rfl c237 (Nat.le_of_ble_eq_true rfl) (Nat.le_of_ble_eq_true rfl) (by omega) (by omega) (f_X13_comesBack_ok X (by omega) (by omega) nn l0 u236.1 u236.2 e_u238) ?_
                                                                                                                        clear e_u238
                                                                                                                        show mx_S X F L 567 1633 [(3, .int s0), (0, .ref l0), (2, .int l2)] [.int u238.1] u238.2 0 0 (some (.int r.1), r.2, 0, 0)
                                                                                                                        rcases mx_if_el hf with ⟨c239, hf⟩ | ⟨c239, hf⟩
                                                                                                                        · refine sb_if_eq hm dX13_wanted_1633 (tgt := 1640) rfl (fun _ => ?_) (fun z => absurd c239 z)
                                                                                                                          refine sx_ic (v := 0) hm dX13_wanted_1640 (by decide) ?_
                                                                                                                          cases hf
                                                                                                                          exact sx_ire hm dX13_wanted_1641 rfl (by decide)
                                                                                                                        · refine sb_if_eq hm dX13_wanted_1633 (tgt := 1640) rfl (fun z => absurd z c239) (fun _ => ?_)
                                                                                                                          refine sx_ic (v := 1) hm dX13_wanted_1636 (by decide) ?_
                                                                                                                          refine mx_S.pu (pc2 := 1641) (lv2 := [(3, .int s0), (0, .ref l0), (2, .int l2)]) (st2 := [.int 1]) hm dX13_wanted_1637 rfl ?_
                                                                                                                          cases hf
                                                                                                                          exact sx_ire hm dX13_wanted_1641 rfl (by decide)
                                                                                                                    · rcases (show (l2.toInt < 0 ∨ 192 < l2.toInt) ∨ l2.toInt = 0 ∨ l2.toInt = 1 ∨ l2.toInt = 2 ∨ l2.toInt = 3 ∨ l2.toInt = 4 ∨ l2.toInt = 5 ∨ l2.toInt = 6 ∨ l2.toInt = 7 ∨ l2.toInt = 8 ∨ l2.toInt = 9 ∨ l2.toInt = 10 ∨ l2.toInt = 11 ∨ l2.toInt = 12 ∨ l2.toInt = 13 ∨ l2.toInt = 14 ∨ l2.toInt = 15 ∨ l2.toInt = 16 ∨ l2.toInt = 17 ∨ l2.toInt = 18 ∨ l2.toInt = 19 ∨ l2.toInt = 20 ∨ l2.toInt = 21 ∨ l2.toInt = 22 ∨ l2.toInt = 23 ∨ l2.toInt = 24 ∨ l2.toInt = 25 ∨ l2.toInt = 26 ∨ l2.toInt = 27 ∨ l2.toInt = 28 ∨ l2.toInt = 29 ∨ l2.toInt = 30 ∨ l2.toInt = 31 ∨ l2.toInt = 32 ∨ l2.toInt = 33 ∨ l2.toInt = 34 ∨ l2.toInt = 35 ∨ l2.toInt = 36 ∨ l2.toInt = 37 ∨ l2.toInt = 38 ∨ l2.toInt = 39 ∨ l2.toInt = 40 ∨ l2.toInt = 41 ∨ l2.toInt = 42 ∨ l2.toInt = 43 ∨ l2.toInt = 44 ∨ l2.toInt = 45 ∨ l2.toInt = 46 ∨ l2.toInt = 47 ∨ l2.toInt = 48 ∨ l2.toInt = 49 ∨ l2.toInt = 50 ∨ l2.toInt = 51 ∨ l2.toInt = 52 ∨ l2.toInt = 53 ∨ l2.toInt = 54 ∨ l2.toInt = 55 ∨ l2.toInt = 56 ∨ l2.toInt = 57 ∨ l2.toInt = 58 ∨ l2.toInt = 59 ∨ l2.toInt = 60 ∨ l2.toInt = 61 ∨ l2.toInt = 62 ∨ l2.toInt = 63 ∨ l2.toInt = 64 ∨ l2.toInt = 65 ∨ l2.toInt = 66 ∨ l2.toInt = 67 ∨ l2.toInt = 68 ∨ l2.toInt = 69 ∨ l2.toInt = 70 ∨ l2.toInt = 71 ∨ l2.toInt = 72 ∨ l2.toInt = 73 ∨ l2.toInt = 74 ∨ l2.toInt = 75 ∨ l2.toInt = 76 ∨ l2.toInt = 77 ∨ l2.toInt = 78 ∨ l2.toInt = 79 ∨ l2.toInt = 80 ∨ l2.toInt = 81 ∨ l2.toInt = 82 ∨ l2.toInt = 83 ∨ l2.toInt = 84 ∨ l2.toInt = 85 ∨ l2.toInt = 86 ∨ l2.toInt = 87 ∨ l2.toInt = 88 ∨ l2.toInt = 89 ∨ l2.toInt = 90 ∨ l2.toInt = 91 ∨ l2.toInt = 92 ∨ l2.toInt = 93 ∨ l2.toInt = 94 ∨ l2.toInt = 95 ∨ l2.toInt = 96 ∨ l2.toInt = 97 ∨ l2.toInt = 98 ∨ l2.toInt = 99 ∨ l2.toInt = 100 ∨ l2.toInt = 101 ∨ l2.toInt = 102 ∨ l2.toInt = 103 ∨ l2.toInt = 104 ∨ l2.toInt = 105 ∨ l2.toInt = 106 ∨ l2.toInt = 107 ∨ l2.toInt = 108 ∨ l2.toInt = 109 ∨ l2.toInt = 110 ∨ l2.toInt = 111 ∨ l2.toInt = 112 ∨ l2.toInt = 113 ∨ l2.toInt = 114 ∨ l2.toInt = 115 ∨ l2.toInt = 116 ∨ l2.toInt = 117 ∨ l2.toInt = 118 ∨ l2.toInt = 119 ∨ l2.toInt = 120 ∨ l2.toInt = 121 ∨ l2.toInt = 122 ∨ l2.toInt = 123 ∨ l2.toInt = 124 ∨ l2.toInt = 125 ∨ l2.toInt = 126 ∨ l2.toInt = 127 ∨ l2.toInt = 128 ∨ l2.toInt = 129 ∨ l2.toInt = 130 ∨ l2.toInt = 131 ∨ l2.toInt = 132 ∨ l2.toInt = 133 ∨ l2.toInt = 134 ∨ l2.toInt = 135 ∨ l2.toInt = 136 ∨ l2.toInt = 137 ∨ l2.toInt = 138 ∨ l2.toInt = 139 ∨ l2.toInt = 140 ∨ l2.toInt = 141 ∨ l2.toInt = 142 ∨ l2.toInt = 143 ∨ l2.toInt = 144 ∨ l2.toInt = 145 ∨ l2.toInt = 146 ∨ l2.toInt = 147 ∨ l2.toInt = 148 ∨ l2.toInt = 149 ∨ l2.toInt = 150 ∨ l2.toInt = 151 ∨ l2.toInt = 152 ∨ l2.toInt = 153 ∨ l2.toInt = 154 ∨ l2.toInt = 155 ∨ l2.toInt = 156 ∨ l2.toInt = 157 ∨ l2.toInt = 158 ∨ l2.toInt = 159 ∨ l2.toInt = 160 ∨ l2.toInt = 161 ∨ l2.toInt = 162 ∨ l2.toInt = 163 ∨ l2.toInt = 164 ∨ l2.toInt = 165 ∨ l2.toInt = 166 ∨ l2.toInt = 167 ∨ l2.toInt = 168 ∨ l2.toInt = 169 ∨ l2.toInt = 170 ∨ l2.toInt = 171 ∨ l2.toInt = 172 ∨ l2.toInt = 173 ∨ l2.toInt = 174 ∨ l2.toInt = 175 ∨ l2.toInt = 176 ∨ l2.toInt = 177 ∨ l2.toInt = 178 ∨ l2.toInt = 179 ∨ l2.toInt = 180 ∨ l2.toInt = 181 ∨ l2.toInt = 182 ∨ l2.toInt = 183 ∨ l2.toInt = 184 ∨ l2.toInt = 185 ∨ l2.toInt = 186 ∨ l2.toInt = 187 ∨ l2.toInt = 188 ∨ l2.toInt = 189 ∨ l2.toInt = 190 ∨ l2.toInt = 191 ∨ l2.toInt = 192 by omega) with z0 | z0 | z0 | z0 | z0 | z0 | z0 | z0 | z0 | z0 | z0 | z0 | z0 | z0 | z0 | z0 | z0 | z0 | z0 | z0 | z0 | z0 | z0 | z0 | z0 | z0 | z0 | z0 | z0 | z0 | z0 | z0 | z0 | z0 | z0 | z0 | z0 | z0 | z0 | z0 | z0 | z0 | z0 | z0 | z0 | z0 | z0 | z0 | z0 | z0 | z0 | z0 | z0 | z0 | z0 | z0 | z0 | z0 | z0 | z0 | z0 | z0 | z0 | z0 | z0 | z0 | z0 | z0 | z0 | z0 | z0 | z0 | z0 | z0 | z0 | z0 | z0 | z0 | z0 | z0 | z0 | z0 | z0 | z0 | z0 | z0 | z0 | z0 | z0 | z0 | z0 | z0 | z0 | z0 | z0 | z0 | z0 | z0 | z0 | z0 | z0 | z0 | z0 | z0 | z0 | z0 | z0 | z0 | z0 | z0 | z0 | z0 | z0 | z0 | z0 | z0 | z0 | z0 | z0 | z0 | z0 | z0 | z0 | z0 | z0 | z0 | z0 | z0 | z0 | z0 | z0 | z0 | z0 | z0 | z0 | z0 | z0 | z0 | z0 | z0 | z0 | z0 | z0 | z0 | z0 | z0 | z0 | z0 | z0 | z0 | z0 | z0 | z0 | z0 | z0 | z0 | z0 | z0 | z0 | z0 | z0 | z0 | z0 | z0 | z0 | z0 | z0 | z0 | z0 | z0 | z0 | z0 | z0 | z0 | z0 | z0 | z0 | z0 | z0 | z0 | z0 | z0 | z0 | z0 | z0 | z0 | z0 | z0 | z0 | z0 | z0 | z0 | z0 | z0
                                                                                                                      · refine sx_tout hm dX13_wanted_27 z0 (tgt := 1642) rfl ?_
                                                                                                                        refine mx_S.ext [(0, .ref l0)] (mx_sub_pos [1] rfl (show ([3, 0, 2] : List Nat).Nodup by decide)) ?_
                                                                                                                        exact j_X13_wanted_1642_ok X hF hL nn l0 h hf
                                                                                                                      · exact absurd (Int32.toInt_inj.mp (z0.trans (by decide : (0 : Int) = (0 : Int32).toInt))) n_0
                                                                                                                      · exact absurd (Int32.toInt_inj.mp (z0.trans (by decide : (1 : Int) = (1 : Int32).toInt))) n_1
                                                                                                                      · exact absurd (Int32.toInt_inj.mp (z0.trans (by decide : (2 : Int) = (2 : Int32).toInt))) n_2
                                                                                                                      · exact absurd (Int32.toInt_inj.mp (z0.trans (by decide : (3 : Int) = (3 : Int32).toInt))) n_3
                                                                                                                      · exact absurd (Int32.toInt_inj.mp (z0.trans (by decide : (4 : Int) = (4 : Int32).toInt))) n_4
                                                                                                                      · exact absurd (Int32.toInt_inj.mp (z0.trans (by decide : (5 : Int) = (5 : Int32).toInt))) n_5
                                                                                                                      · exact absurd (Int32.toInt_inj.mp (z0.trans (by decide : (6 : Int) = (6 : Int32).toInt))) n_6
                                                                                                                      · exact absurd (Int32.toInt_inj.mp (z0.trans (by decide : (7 : Int) = (7 : Int32).toInt))) n_7
                                                                                                                      · exact absurd (Int32.toInt_inj.mp (z0.trans (by decide : (8 : Int) = (8 : Int32).toInt))) n_8
                                                                                                                      · refine sx_tin hm dX13_wanted_27 (by omega) (by omega) (off := 1615) (by rw [z0]; rfl) (tgt := 1642) rfl ?_
                                                                                                                        refine mx_S.ext [(0, .ref l0)] (mx_sub_pos [1] rfl (show ([3, 0, 2] : List Nat).Nodup by decide)) ?_
                                                                                                                        exact j_X13_wanted_1642_ok X hF hL nn l0 h hf
                                                                                                                      · refine sx_tin hm dX13_wanted_27 (by omega) (by omega) (off := 1615) (by rw [z0]; rfl) (tgt := 1642) rfl ?_
                                                                                                                        refine mx_S.ext [(0, .ref l0)] (mx_sub_pos [1] rfl (show ([3, 0, 2] : List Nat).Nodup by decide)) ?_
                                                                                                                        exact j_X13_wanted_1642_ok X hF hL nn l0 h hf
                                                                                                                      · refine sx_tin hm dX13_wanted_27 (by omega) (by omega) (off := 1615) (by rw [z0]; rfl) (tgt := 1642) rfl ?_
                                                                                                                        refine mx_S.ext [(0, .ref l0)] (mx_sub_pos [1] rfl (show ([3, 0, 2] : List Nat).Nodup by decide)) ?_
                                                                                                                        exact j_X13_wanted_1642_ok X hF hL nn l0 h hf
                                                                                                                      · refine sx_tin hm dX13_wanted_27 (by omega) (by omega) (off := 1615) (by rw [z0]; rfl) (tgt := 1642) rfl ?_
                                                                                                                        refine mx_S.ext [(0, .ref l0)] (mx_sub_pos [1] rfl (show ([3, 0, 2] : List Nat).Nodup by decide)) ?_
                                                                                                                        exact j_X13_wanted_1642_ok X hF hL nn l0 h hf
                                                                                                                      · refine sx_tin hm dX13_wanted_27 (by omega) (by omega) (off := 1615) (by rw [z0]; rfl) (tgt := 1642) rfl ?_
                                                                                                                        refine mx_S.ext [(0, .ref l0)] (mx_sub_pos [1] rfl (show ([3, 0, 2] : List Nat).Nodup by decide)) ?_
                                                                                                                        exact j_X13_wanted_1642_ok X hF hL nn l0 h hf
                                                                                                                      · refine sx_tin hm dX13_wanted_27 (by omega) (by omega) (off := 1615) (by rw [z0]; rfl) (tgt := 1642) rfl ?_
                                                                                                                        refine mx_S.ext [(0, .ref l0)] (mx_sub_pos [1] rfl (show ([3, 0, 2] : List Nat).Nodup by decide)) ?_
                                                                                                                        exact j_X13_wanted_1642_ok X hF hL nn l0 h hf
                                                                                                                      · refine sx_tin hm dX13_wanted_27 (by omega) (by omega) (off := 1615) (by rw [z0]; rfl) (tgt := 1642) rfl ?_
                                                                                                                        refine mx_S.ext [(0, .ref l0)] (mx_sub_pos [1] rfl (show ([3, 0, 2] : List Nat).Nodup by decide)) ?_
                                                                                                                        exact j_X13_wanted_1642_ok X hF hL nn l0 h hf
                                                                                                                      · exact absurd (Int32.toInt_inj.mp (z0.trans (by decide : (16 : Int) = (16 : Int32).toInt))) n_9
                                                                                                                      · refine sx_tin hm dX13_wanted_27 (by omega) (by omega) (off := 1615) (by rw [z0]; rfl) (tgt := 1642) rfl ?_
                                                                                                                        refine mx_S.ext [(0, .ref l0)] (mx_sub_pos [1] rfl (show ([3, 0, 2] : List Nat).Nodup by decide)) ?_
                                                                                                                        exact j_X13_wanted_1642_ok X hF hL nn l0 h hf
                                                                                                                      · exact absurd (Int32.toInt_inj.mp (z0.trans (by decide : (18 : Int) = (18 : Int32).toInt))) n_10
                                                                                                                      · refine sx_tin hm dX13_wanted_27 (by omega) (by omega) (off := 1615) (by rw [z0]; rfl) (tgt := 1642) rfl ?_
                                                                                                                        refine mx_S.ext [(0, .ref l0)] (mx_sub_pos [1] rfl (show ([3, 0, 2] : List Nat).Nodup by decide)) ?_
                                                                                                                        exact j_X13_wanted_1642_ok X hF hL nn l0 h hf
                                                                                                                      · refine sx_tin hm dX13_wanted_27 (by omega) (by omega) (off := 1615) (by rw [z0]; rfl) (tgt := 1642) rfl ?_
                                                                                                                        refine mx_S.ext [(0, .ref l0)] (mx_sub_pos [1] rfl (show ([3, 0, 2] : List Nat).Nodup by decide)) ?_
                                                                                                                        exact j_X13_wanted_1642_ok X hF hL nn l0 h hf
                                                                                                                      · exact absurd (Int32.toInt_inj.mp (z0.trans (by decide : (21 : Int) = (21 : Int32).toInt))) n_11
                                                                                                                      · refine sx_tin hm dX13_wanted_27 (by omega) (by omega) (off := 1615) (by rw [z0]; rfl) (tgt := 1642) rfl ?_
                                                                                                                        refine mx_S.ext [(0, .ref l0)] (mx_sub_pos [1] rfl (show ([3, 0, 2] : List Nat).Nodup by decide)) ?_
                                                                                                                        exact j_X13_wanted_1642_ok X hF hL nn l0 h hf
                                                                                                                      · refine sx_tin hm dX13_wanted_27 (by omega) (by omega) (off := 1615) (by rw [z0]; rfl) (tgt := 1642) rfl ?_
                                                                                                                        refine mx_S.ext [(0, .ref l0)] (mx_sub_pos [1] rfl (show ([3, 0, 2] : List Nat).Nodup by decide)) ?_
                                                                                                                        exact j_X13_wanted_1642_ok X hF hL nn l0 h hf
                                                                                                                      · refine sx_tin hm dX13_wanted_27 (by omega) (by omega) (off := 1615) (by rw [z0]; rfl) (tgt := 1642) rfl ?_
                                                                                                                        refine mx_S.ext [(0, .ref l0)] (mx_sub_pos [1] rfl (show ([3, 0, 2] : List Nat).Nodup by decide)) ?_
                                                                                                                        exact j_X13_wanted_1642_ok X hF hL nn l0 h hf
                                                                                                                      · exact absurd (Int32.toInt_inj.mp (z0.trans (by decide : (25 : Int) = (25 : Int32).toInt))) n_12
                                                                                                                      · refine sx_tin hm dX13_wanted_27 (by omega) (by omega) (off := 1615) (by rw [z0]; rfl) (tgt := 1642) rfl ?_
                                                                                                                        refine mx_S.ext [(0, .ref l0)] (mx_sub_pos [1] rfl (show ([3, 0, 2] : List Nat).Nodup by decide)) ?_
                                                                                                                        exact j_X13_wanted_1642_ok X hF hL nn l0 h hf
                                                                                                                      · refine sx_tin hm dX13_wanted_27 (by omega) (by omega) (off := 1615) (by rw [z0]; rfl) (tgt := 1642) rfl ?_
                                                                                                                        refine mx_S.ext [(0, .ref l0)] (mx_sub_pos [1] rfl (show ([3, 0, 2] : List Nat).Nodup by decide)) ?_
                                                                                                                        exact j_X13_wanted_1642_ok X hF hL nn l0 h hf
                                                                                                                      · refine sx_tin hm dX13_wanted_27 (by omega) (by omega) (off := 1615) (by rw [z0]; rfl) (tgt := 1642) rfl ?_
                                                                                                                        refine mx_S.ext [(0, .ref l0)] (mx_sub_pos [1] rfl (show ([3, 0, 2] : List Nat).Nodup by decide)) ?_
                                                                                                                        exact j_X13_wanted_1642_ok X hF hL nn l0 h hf
                                                                                                                      · refine sx_tin hm dX13_wanted_27 (by omega) (by omega) (off := 1615) (by rw [z0]; rfl) (tgt := 1642) rfl ?_
                                                                                                                        refine mx_S.ext [(0, .ref l0)] (mx_sub_pos [1] rfl (show ([3, 0, 2] : List Nat).Nodup by decide)) ?_
                                                                                                                        exact j_X13_wanted_1642_ok X hF hL nn l0 h hf
                                                                                                                      · refine sx_tin hm dX13_wanted_27 (by omega) (by omega) (off := 1615) (by rw [z0]; rfl) (tgt := 1642) rfl ?_
                                                                                                                        refine mx_S.ext [(0, .ref l0)] (mx_sub_pos [1] rfl (show ([3, 0, 2] : List Nat).Nodup by decide)) ?_
                                                                                                                        exact j_X13_wanted_1642_ok X hF hL nn l0 h hf
                                                                                                                      · refine sx_tin hm dX13_wanted_27 (by omega) (by omega) (off := 1615) (by rw [z0]; rfl) (tgt := 1642) rfl ?_
                                                                                                                        refine mx_S.ext [(0, .ref l0)] (mx_sub_pos [1] rfl (show ([3, 0, 2] : List Nat).Nodup by decide)) ?_
                                                                                                                        exact j_X13_wanted_1642_ok X hF hL nn l0 h hf
                                                                                                                      · refine sx_tin hm dX13_wanted_27 (by omega) (by omega) (off := 1615) (by rw [z0]; rfl) (tgt := 1642) rfl ?_
                                                                                                                        refine mx_S.ext [(0, .ref l0)] (mx_sub_pos [1] rfl (show ([3, 0, 2] : List Nat).Nodup by decide)) ?_
                                                                                                                        exact j_X13_wanted_1642_ok X hF hL nn l0 h hf
                                                                                                                      · refine sx_tin hm dX13_wanted_27 (by omega) (by omega) (off := 1615) (by rw [z0]; rfl) (tgt := 1642) rfl ?_
                                                                                                                        refine mx_S.ext [(0, .ref l0)] (mx_sub_pos [1] rfl (show ([3, 0, 2] : List Nat).Nodup by decide)) ?_
                                                                                                                        exact j_X13_wanted_1642_ok X hF hL nn l0 h hf
                                                                                                                      · refine sx_tin hm dX13_wanted_27 (by omega) (by omega) (off := 1615) (by rw [z0]; rfl) (tgt := 1642) rfl ?_
                                                                                                                        refine mx_S.ext [(0, .ref l0)] (mx_sub_pos [1] rfl (show ([3, 0, 2] : List Nat).Nodup by decide)) ?_
                                                                                                                        exact j_X13_wanted_1642_ok X hF hL nn l0 h hf
                                                                                                                      · refine sx_tin hm dX13_wanted_27 (by omega) (by omega) (off := 1615) (by rw [z0]; rfl) (tgt := 1642) rfl ?_
                                                                                                                        refine mx_S.ext [(0, .ref l0)] (mx_sub_pos [1] rfl (show ([3, 0, 2] : List Nat).Nodup by decide)) ?_
                                                                                                                        exact j_X13_wanted_1642_ok X hF hL nn l0 h hf
                                                                                                                      · refine sx_tin hm dX13_wanted_27 (by omega) (by omega) (off := 1615) (by rw [z0]; rfl) (tgt := 1642) rfl ?_
                                                                                                                        refine mx_S.ext [(0, .ref l0)] (mx_sub_pos [1] rfl (show ([3, 0, 2] : List Nat).Nodup by decide)) ?_
                                                                                                                        exact j_X13_wanted_1642_ok X hF hL nn l0 h hf
                                                                                                                      · refine sx_tin hm dX13_wanted_27 (by omega) (by omega) (off := 1615) (by rw [z0]; rfl) (tgt := 1642) rfl ?_
                                                                                                                        refine mx_S.ext [(0, .ref l0)] (mx_sub_pos [1] rfl (show ([3, 0, 2] : List Nat).Nodup by decide)) ?_
                                                                                                                        exact j_X13_wanted_1642_ok X hF hL nn l0 h hf
                                                                                                                      · refine sx_tin hm dX13_wanted_27 (by omega) (by omega) (off := 1615) (by rw [z0]; rfl) (tgt := 1642) rfl ?_
                                                                                                                        refine mx_S.ext [(0, .ref l0)] (mx_sub_pos [1] rfl (show ([3, 0, 2] : List Nat).Nodup by decide)) ?_
                                                                                                                        exact j_X13_wanted_1642_ok X hF hL nn l0 h hf
                                                                                                                      · refine sx_tin hm dX13_wanted_27 (by omega) (by omega) (off := 1615) (by rw [z0]; rfl) (tgt := 1642) rfl ?_
                                                                                                                        refine mx_S.ext [(0, .ref l0)] (mx_sub_pos [1] rfl (show ([3, 0, 2] : List Nat).Nodup by decide)) ?_
                                                                                                                        exact j_X13_wanted_1642_ok X hF hL nn l0 h hf
                                                                                                                      · refine sx_tin hm dX13_wanted_27 (by omega) (by omega) (off := 1615) (by rw [z0]; rfl) (tgt := 1642) rfl ?_
                                                                                                                        refine mx_S.ext [(0, .ref l0)] (mx_sub_pos [1] rfl (show ([3, 0, 2] : List Nat).Nodup by decide)) ?_
                                                                                                                        exact j_X13_wanted_1642_ok X hF hL nn l0 h hf
                                                                                                                      · refine sx_tin hm dX13_wanted_27 (by omega) (by omega) (off := 1615) (by rw [z0]; rfl) (tgt := 1642) rfl ?_
                                                                                                                        refine mx_S.ext [(0, .ref l0)] (mx_sub_pos [1] rfl (show ([3, 0, 2] : List Nat).Nodup by decide)) ?_
                                                                                                                        exact j_X13_wanted_1642_ok X hF hL nn l0 h hf
                                                                                                                      · refine sx_tin hm dX13_wanted_27 (by omega) (by omega) (off := 1615) (by rw [z0]; rfl) (tgt := 1642) rfl ?_
                                                                                                                        refine mx_S.ext [(0, .ref l0)] (mx_sub_pos [1] rfl (show ([3, 0, 2] : List Nat).Nodup by decide)) ?_
                                                                                                                        exact j_X13_wanted_1642_ok X hF hL nn l0 h hf
                                                                                                                      · refine sx_tin hm dX13_wanted_27 (by omega) (by omega) (off := 1615) (by rw [z0]; rfl) (tgt := 1642) rfl ?_
                                                                                                                        refine mx_S.ext [(0, .ref l0)] (mx_sub_pos [1] rfl (show ([3, 0, 2] : List Nat).Nodup by decide)) ?_
                                                                                                                        exact j_X13_wanted_1642_ok X hF hL nn l0 h hf
                                                                                                                      · refine sx_tin hm dX13_wanted_27 (by omega) (by omega) (off := 1615) (by rw [z0]; rfl) (tgt := 1642) rfl ?_
                                                                                                                        refine mx_S.ext [(0, .ref l0)] (mx_sub_pos [1] rfl (show ([3, 0, 2] : List Nat).Nodup by decide)) ?_
                                                                                                                        exact j_X13_wanted_1642_ok X hF hL nn l0 h hf
                                                                                                                      · refine sx_tin hm dX13_wanted_27 (by omega) (by omega) (off := 1615) (by rw [z0]; rfl) (tgt := 1642) rfl ?_
                                                                                                                        refine mx_S.ext [(0, .ref l0)] (mx_sub_pos [1] rfl (show ([3, 0, 2] : List Nat).Nodup by decide)) ?_
                                                                                                                        exact j_X13_wanted_1642_ok X hF hL nn l0 h hf
                                                                                                                      · exact absurd (Int32.toInt_inj.mp (z0.trans (by decide : (46 : Int) = (46 : Int32).toInt))) n_13
                                                                                                                      · refine sx_tin hm dX13_wanted_27 (by omega) (by omega) (off := 1615) (by rw [z0]; rfl) (tgt := 1642) rfl ?_
                                                                                                                        refine mx_S.ext [(0, .ref l0)] (mx_sub_pos [1] rfl (show ([3, 0, 2] : List Nat).Nodup by decide)) ?_
                                                                                                                        exact j_X13_wanted_1642_ok X hF hL nn l0 h hf
                                                                                                                      · refine sx_tin hm dX13_wanted_27 (by omega) (by omega) (off := 1615) (by rw [z0]; rfl) (tgt := 1642) rfl ?_
                                                                                                                        refine mx_S.ext [(0, .ref l0)] (mx_sub_pos [1] rfl (show ([3, 0, 2] : List Nat).Nodup by decide)) ?_
                                                                                                                        exact j_X13_wanted_1642_ok X hF hL nn l0 h hf
                                                                                                                      · refine sx_tin hm dX13_wanted_27 (by omega) (by omega) (off := 1615) (by rw [z0]; rfl) (tgt := 1642) rfl ?_
                                                                                                                        refine mx_S.ext [(0, .ref l0)] (mx_sub_pos [1] rfl (show ([3, 0, 2] : List Nat).Nodup by decide)) ?_
                                                                                                                        exact j_X13_wanted_1642_ok X hF hL nn l0 h hf
                                                                                                                      · exact absurd (Int32.toInt_inj.mp (z0.trans (by decide : (50 : Int) = (50 : Int32).toInt))) n_14
                                                                                                                      · refine sx_tin hm dX13_wanted_27 (by omega) (by omega) (off := 1615) (by rw [z0]; rfl) (tgt := 1642) rfl ?_
                                                                                                                        refine mx_S.ext [(0, .ref l0)] (mx_sub_pos [1] rfl (show ([3, 0, 2] : List Nat).Nodup by decide)) ?_
                                                                                                                        exact j_X13_wanted_1642_ok X hF hL nn l0 h hf
                                                                                                                      · refine sx_tin hm dX13_wanted_27 (by omega) (by omega) (off := 1615) (by rw [z0]; rfl) (tgt := 1642) rfl ?_
                                                                                                                        refine mx_S.ext [(0, .ref l0)] (mx_sub_pos [1] rfl (show ([3, 0, 2] : List Nat).Nodup by decide)) ?_
                                                                                                                        exact j_X13_wanted_1642_ok X hF hL nn l0 h hf
                                                                                                                      · refine sx_tin hm dX13_wanted_27 (by omega) (by omega) (off := 1615) (by rw [z0]; rfl) (tgt := 1642) rfl ?_
                                                                                                                        refine mx_S.ext [(0, .ref l0)] (mx_sub_pos [1] rfl (show ([3, 0, 2] : List Nat).Nodup by decide)) ?_
                                                                                                                        exact j_X13_wanted_1642_ok X hF hL nn l0 h hf
                                                                                                                      · exact absurd (Int32.toInt_inj.mp (z0.trans (by decide : (54 : Int) = (54 : Int32).toInt))) n_15
                                                                                                                      · refine sx_tin hm dX13_wanted_27 (by omega) (by omega) (off := 1615) (by rw [z0]; rfl) (tgt := 1642) rfl ?_
                                                                                                                        refine mx_S.ext [(0, .ref l0)] (mx_sub_pos [1] rfl (show ([3, 0, 2] : List Nat).Nodup by decide)) ?_
                                                                                                                        exact j_X13_wanted_1642_ok X hF hL nn l0 h hf
                                                                                                                      · refine sx_tin hm dX13_wanted_27 (by omega) (by omega) (off := 1615) (by rw [z0]; rfl) (tgt := 1642) rfl ?_
                                                                                                                        refine mx_S.ext [(0, .ref l0)] (mx_sub_pos [1] rfl (show ([3, 0, 2] : List Nat).Nodup by decide)) ?_
                                                                                                                        exact j_X13_wanted_1642_ok X hF hL nn l0 h hf
                                                                                                                      · refine sx_tin hm dX13_wanted_27 (by omega) (by omega) (off := 1615) (by rw [z0]; rfl) (tgt := 1642) rfl ?_
                                                                                                                        refine mx_S.ext [(0, .ref l0)] (mx_sub_pos [1] rfl (show ([3, 0, 2] : List Nat).Nodup by decide)) ?_
                                                                                                                        exact j_X13_wanted_1642_ok X hF hL nn l0 h hf
                                                                                                                      · exact absurd (Int32.toInt_inj.mp (z0.trans (by decide : (58 : Int) = (58 : Int32).toInt))) n_16
                                                                                                                      · refine sx_tin hm dX13_wanted_27 (by omega) (by omega) (off := 1615) (by rw [z0]; rfl) (tgt := 1642) rfl ?_
                                                                                                                        refine mx_S.ext [(0, .ref l0)] (mx_sub_pos [1] rfl (show ([3, 0, 2] : List Nat).Nodup by decide)) ?_
                                                                                                                        exact j_X13_wanted_1642_ok X hF hL nn l0 h hf
                                                                                                                      · refine sx_tin hm dX13_wanted_27 (by omega) (by omega) (off := 1615) (by rw [z0]; rfl) (tgt := 1642) rfl ?_
                                                                                                                        refine mx_S.ext [(0, .ref l0)] (mx_sub_pos [1] rfl (show ([3, 0, 2] : List Nat).Nodup by decide)) ?_
                                                                                                                        exact j_X13_wanted_1642_ok X hF hL nn l0 h hf
                                                                                                                      · refine sx_tin hm dX13_wanted_27 (by omega) (by omega) (off := 1615) (by rw [z0]; rfl) (tgt := 1642) rfl ?_
                                                                                                                        refine mx_S.ext [(0, .ref l0)] (mx_sub_pos [1] rfl (show ([3, 0, 2] : List Nat).Nodup by decide)) ?_
                                                                                                                        exact j_X13_wanted_1642_ok X hF hL nn l0 h hf
                                                                                                                      · refine sx_tin hm dX13_wanted_27 (by omega) (by omega) (off := 1615) (by rw [z0]; rfl) (tgt := 1642) rfl ?_
                                                                                                                        refine mx_S.ext [(0, .ref l0)] (mx_sub_pos [1] rfl (show ([3, 0, 2] : List Nat).Nodup by decide)) ?_
                                                                                                                        exact j_X13_wanted_1642_ok X hF hL nn l0 h hf
                                                                                                                      · refine sx_tin hm dX13_wanted_27 (by omega) (by omega) (off := 1615) (by rw [z0]; rfl) (tgt := 1642) rfl ?_
                                                                                                                        refine mx_S.ext [(0, .ref l0)] (mx_sub_pos [1] rfl (show ([3, 0, 2] : List Nat).Nodup by decide)) ?_
                                                                                                                        exact j_X13_wanted_1642_ok X hF hL nn l0 h hf
                                                                                                                      · refine sx_tin hm dX13_wanted_27 (by omega) (by omega) (off := 1615) (by rw [z0]; rfl) (tgt := 1642) rfl ?_
                                                                                                                        refine mx_S.ext [(0, .ref l0)] (mx_sub_pos [1] rfl (show ([3, 0, 2] : List Nat).Nodup by decide)) ?_
                                                                                                                        exact j_X13_wanted_1642_ok X hF hL nn l0 h hf
                                                                                                                      · refine sx_tin hm dX13_wanted_27 (by omega) (by omega) (off := 1615) (by rw [z0]; rfl) (tgt := 1642) rfl ?_
                                                                                                                        refine mx_S.ext [(0, .ref l0)] (mx_sub_pos [1] rfl (show ([3, 0, 2] : List Nat).Nodup by decide)) ?_
                                                                                                                        exact j_X13_wanted_1642_ok X hF hL nn l0 h hf
                                                                                                                      · refine sx_tin hm dX13_wanted_27 (by omega) (by omega) (off := 1615) (by rw [z0]; rfl) (tgt := 1642) rfl ?_
                                                                                                                        refine mx_S.ext [(0, .ref l0)] (mx_sub_pos [1] rfl (show ([3, 0, 2] : List Nat).Nodup by decide)) ?_
                                                                                                                        exact j_X13_wanted_1642_ok X hF hL nn l0 h hf
                                                                                                                      · refine sx_tin hm dX13_wanted_27 (by omega) (by omega) (off := 1615) (by rw [z0]; rfl) (tgt := 1642) rfl ?_
                                                                                                                        refine mx_S.ext [(0, .ref l0)] (mx_sub_pos [1] rfl (show ([3, 0, 2] : List Nat).Nodup by decide)) ?_
                                                                                                                        exact j_X13_wanted_1642_ok X hF hL nn l0 h hf
                                                                                                                      · refine sx_tin hm dX13_wanted_27 (by omega) (by omega) (off := 1615) (by rw [z0]; rfl) (tgt := 1642) rfl ?_
                                                                                                                        refine mx_S.ext [(0, .ref l0)] (mx_sub_pos [1] rfl (show ([3, 0, 2] : List Nat).Nodup by decide)) ?_
                                                                                                                        exact j_X13_wanted_1642_ok X hF hL nn l0 h hf
                                                                                                                      · refine sx_tin hm dX13_wanted_27 (by omega) (by omega) (off := 1615) (by rw [z0]; rfl) (tgt := 1642) rfl ?_
                                                                                                                        refine mx_S.ext [(0, .ref l0)] (mx_sub_pos [1] rfl (show ([3, 0, 2] : List Nat).Nodup by decide)) ?_
                                                                                                                        exact j_X13_wanted_1642_ok X hF hL nn l0 h hf
                                                                                                                      · refine sx_tin hm dX13_wanted_27 (by omega) (by omega) (off := 1615) (by rw [z0]; rfl) (tgt := 1642) rfl ?_
                                                                                                                        refine mx_S.ext [(0, .ref l0)] (mx_sub_pos [1] rfl (show ([3, 0, 2] : List Nat).Nodup by decide)) ?_
                                                                                                                        exact j_X13_wanted_1642_ok X hF hL nn l0 h hf
                                                                                                                      · refine sx_tin hm dX13_wanted_27 (by omega) (by omega) (off := 1615) (by rw [z0]; rfl) (tgt := 1642) rfl ?_
                                                                                                                        refine mx_S.ext [(0, .ref l0)] (mx_sub_pos [1] rfl (show ([3, 0, 2] : List Nat).Nodup by decide)) ?_
                                                                                                                        exact j_X13_wanted_1642_ok X hF hL nn l0 h hf
                                                                                                                      · refine sx_tin hm dX13_wanted_27 (by omega) (by omega) (off := 1615) (by rw [z0]; rfl) (tgt := 1642) rfl ?_
                                                                                                                        refine mx_S.ext [(0, .ref l0)] (mx_sub_pos [1] rfl (show ([3, 0, 2] : List Nat).Nodup by decide)) ?_
                                                                                                                        exact j_X13_wanted_1642_ok X hF hL nn l0 h hf
                                                                                                                      · refine sx_tin hm dX13_wanted_27 (by omega) (by omega) (off := 1615) (by rw [z0]; rfl) (tgt := 1642) rfl ?_
                                                                                                                        refine mx_S.ext [(0, .ref l0)] (mx_sub_pos [1] rfl (show ([3, 0, 2] : List Nat).Nodup by decide)) ?_
                                                                                                                        exact j_X13_wanted_1642_ok X hF hL nn l0 h hf
                                                                                                                      · refine sx_tin hm dX13_wanted_27 (by omega) (by omega) (off := 1615) (by rw [z0]; rfl) (tgt := 1642) rfl ?_
                                                                                                                        refine mx_S.ext [(0, .ref l0)] (mx_sub_pos [1] rfl (show ([3, 0, 2] : List Nat).Nodup by decide)) ?_
                                                                                                                        exact j_X13_wanted_1642_ok X hF hL nn l0 h hf
                                                                                                                      · refine sx_tin hm dX13_wanted_27 (by omega) (by omega) (off := 1615) (by rw [z0]; rfl) (tgt := 1642) rfl ?_
                                                                                                                        refine mx_S.ext [(0, .ref l0)] (mx_sub_pos [1] rfl (show ([3, 0, 2] : List Nat).Nodup by decide)) ?_
                                                                                                                        exact j_X13_wanted_1642_ok X hF hL nn l0 h hf
                                                                                                                      · refine sx_tin hm dX13_wanted_27 (by omega) (by omega) (off := 1615) (by rw [z0]; rfl) (tgt := 1642) rfl ?_
                                                                                                                        refine mx_S.ext [(0, .ref l0)] (mx_sub_pos [1] rfl (show ([3, 0, 2] : List Nat).Nodup by decide)) ?_
                                                                                                                        exact j_X13_wanted_1642_ok X hF hL nn l0 h hf
                                                                                                                      · refine sx_tin hm dX13_wanted_27 (by omega) (by omega) (off := 1615) (by rw [z0]; rfl) (tgt := 1642) rfl ?_
                                                                                                                        refine mx_S.ext [(0, .ref l0)] (mx_sub_pos [1] rfl (show ([3, 0, 2] : List Nat).Nodup by decide)) ?_
                                                                                                                        exact j_X13_wanted_1642_ok X hF hL nn l0 h hf
                                                                                                                      · refine sx_tin hm dX13_wanted_27 (by omega) (by omega) (off := 1615) (by rw [z0]; rfl) (tgt := 1642) rfl ?_
                                                                                                                        refine mx_S.ext [(0, .ref l0)] (mx_sub_pos [1] rfl (show ([3, 0, 2] : List Nat).Nodup by decide)) ?_
                                                                                                                        exact j_X13_wanted_1642_ok X hF hL nn l0 h hf
                                                                                                                      · exact absurd (Int32.toInt_inj.mp (z0.trans (by decide : (79 : Int) = (79 : Int32).toInt))) n_17
                                                                                                                      · refine sx_tin hm dX13_wanted_27 (by omega) (by omega) (off := 1615) (by rw [z0]; rfl) (tgt := 1642) rfl ?_
                                                                                                                        refine mx_S.ext [(0, .ref l0)] (mx_sub_pos [1] rfl (show ([3, 0, 2] : List Nat).Nodup by decide)) ?_
                                                                                                                        exact j_X13_wanted_1642_ok X hF hL nn l0 h hf
                                                                                                                      · refine sx_tin hm dX13_wanted_27 (by omega) (by omega) (off := 1615) (by rw [z0]; rfl) (tgt := 1642) rfl ?_
                                                                                                                        refine mx_S.ext [(0, .ref l0)] (mx_sub_pos [1] rfl (show ([3, 0, 2] : List Nat).Nodup by decide)) ?_
                                                                                                                        exact j_X13_wanted_1642_ok X hF hL nn l0 h hf
                                                                                                                      · refine sx_tin hm dX13_wanted_27 (by omega) (by omega) (off := 1615) (by rw [z0]; rfl) (tgt := 1642) rfl ?_
                                                                                                                        refine mx_S.ext [(0, .ref l0)] (mx_sub_pos [1] rfl (show ([3, 0, 2] : List Nat).Nodup by decide)) ?_
                                                                                                                        exact j_X13_wanted_1642_ok X hF hL nn l0 h hf
                                                                                                                      · exact absurd (Int32.toInt_inj.mp (z0.trans (by decide : (83 : Int) = (83 : Int32).toInt))) n_18
                                                                                                                      · refine sx_tin hm dX13_wanted_27 (by omega) (by omega) (off := 1615) (by rw [z0]; rfl) (tgt := 1642) rfl ?_
                                                                                                                        refine mx_S.ext [(0, .ref l0)] (mx_sub_pos [1] rfl (show ([3, 0, 2] : List Nat).Nodup by decide)) ?_
                                                                                                                        exact j_X13_wanted_1642_ok X hF hL nn l0 h hf
                                                                                                                      · refine sx_tin hm dX13_wanted_27 (by omega) (by omega) (off := 1615) (by rw [z0]; rfl) (tgt := 1642) rfl ?_
                                                                                                                        refine mx_S.ext [(0, .ref l0)] (mx_sub_pos [1] rfl (show ([3, 0, 2] : List Nat).Nodup by decide)) ?_
                                                                                                                        exact j_X13_wanted_1642_ok X hF hL nn l0 h hf
                                                                                                                      · refine sx_tin hm dX13_wanted_27 (by omega) (by omega) (off := 1615) (by rw [z0]; rfl) (tgt := 1642) rfl ?_
                                                                                                                        refine mx_S.ext [(0, .ref l0)] (mx_sub_pos [1] rfl (show ([3, 0, 2] : List Nat).Nodup by decide)) ?_
                                                                                                                        exact j_X13_wanted_1642_ok X hF hL nn l0 h hf
                                                                                                                      · exact absurd (Int32.toInt_inj.mp (z0.trans (by decide : (87 : Int) = (87 : Int32).toInt))) n_19
                                                                                                                      · refine sx_tin hm dX13_wanted_27 (by omega) (by omega) (off := 1615) (by rw [z0]; rfl) (tgt := 1642) rfl ?_
                                                                                                                        refine mx_S.ext [(0, .ref l0)] (mx_sub_pos [1] rfl (show ([3, 0, 2] : List Nat).Nodup by decide)) ?_
                                                                                                                        exact j_X13_wanted_1642_ok X hF hL nn l0 h hf
                                                                                                                      · exact absurd (Int32.toInt_inj.mp (z0.trans (by decide : (89 : Int) = (89 : Int32).toInt))) n_20
                                                                                                                      · refine sx_tin hm dX13_wanted_27 (by omega) (by omega) (off := 1615) (by rw [z0]; rfl) (tgt := 1642) rfl ?_
                                                                                                                        refine mx_S.ext [(0, .ref l0)] (mx_sub_pos [1] rfl (show ([3, 0, 2] : List Nat).Nodup by decide)) ?_
                                                                                                                        exact j_X13_wanted_1642_ok X hF hL nn l0 h hf
                                                                                                                      · refine sx_tin hm dX13_wanted_27 (by omega) (by omega) (off := 1615) (by rw [z0]; rfl) (tgt := 1642) rfl ?_
                                                                                                                        refine mx_S.ext [(0, .ref l0)] (mx_sub_pos [1] rfl (show ([3, 0, 2] : List Nat).Nodup by decide)) ?_
                                                                                                                        exact j_X13_wanted_1642_ok X hF hL nn l0 h hf
                                                                                                                      · refine sx_tin hm dX13_wanted_27 (by omega) (by omega) (off := 1615) (by rw [z0]; rfl) (tgt := 1642) rfl ?_
                                                                                                                        refine mx_S.ext [(0, .ref l0)] (mx_sub_pos [1] rfl (show ([3, 0, 2] : List Nat).Nodup by decide)) ?_
                                                                                                                        exact j_X13_wanted_1642_ok X hF hL nn l0 h hf
                                                                                                                      · refine sx_tin hm dX13_wanted_27 (by omega) (by omega) (off := 1615) (by rw [z0]; rfl) (tgt := 1642) rfl ?_
                                                                                                                        refine mx_S.ext [(0, .ref l0)] (mx_sub_pos [1] rfl (show ([3, 0, 2] : List Nat).Nodup by decide)) ?_
                                                                                                                        exact j_X13_wanted_1642_ok X hF hL nn l0 h hf
                                                                                                                      · refine sx_tin hm dX13_wanted_27 (by omega) (by omega) (off := 1615) (by rw [z0]; rfl) (tgt := 1642) rfl ?_
                                                                                                                        refine mx_S.ext [(0, .ref l0)] (mx_sub_pos [1] rfl (show ([3, 0, 2] : List Nat).Nodup by decide)) ?_
                                                                                                                        exact j_X13_wanted_1642_ok X hF hL nn l0 h hf
                                                                                                                      · refine sx_tin hm dX13_wanted_27 (by omega) (by omega) (off := 1615) (by rw [z0]; rfl) (tgt := 1642) rfl ?_
                                                                                                                        refine mx_S.ext [(0, .ref l0)] (mx_sub_pos [1] rfl (show ([3, 0, 2] : List Nat).Nodup by decide)) ?_
                                                                                                                        exact j_X13_wanted_1642_ok X hF hL nn l0 h hf
                                                                                                                      · exact absurd (Int32.toInt_inj.mp (z0.trans (by decide : (96 : Int) = (96 : Int32).toInt))) n_21
                                                                                                                      · refine sx_tin hm dX13_wanted_27 (by omega) (by omega) (off := 1615) (by rw [z0]; rfl) (tgt := 1642) rfl ?_
                                                                                                                        refine mx_S.ext [(0, .ref l0)] (mx_sub_pos [1] rfl (show ([3, 0, 2] : List Nat).Nodup by decide)) ?_
                                                                                                                        exact j_X13_wanted_1642_ok X hF hL nn l0 h hf
                                                                                                                      · refine sx_tin hm dX13_wanted_27 (by omega) (by omega) (off := 1615) (by rw [z0]; rfl) (tgt := 1642) rfl ?_
                                                                                                                        refine mx_S.ext [(0, .ref l0)] (mx_sub_pos [1] rfl (show ([3, 0, 2] : List Nat).Nodup by decide)) ?_
                                                                                                                        exact j_X13_wanted_1642_ok X hF hL nn l0 h hf
                                                                                                                      · refine sx_tin hm dX13_wanted_27 (by omega) (by omega) (off := 1615) (by rw [z0]; rfl) (tgt := 1642) rfl ?_
                                                                                                                        refine mx_S.ext [(0, .ref l0)] (mx_sub_pos [1] rfl (show ([3, 0, 2] : List Nat).Nodup by decide)) ?_
                                                                                                                        exact j_X13_wanted_1642_ok X hF hL nn l0 h hf
                                                                                                                      · exact absurd (Int32.toInt_inj.mp (z0.trans (by decide : (100 : Int) = (100 : Int32).toInt))) n_22
                                                                                                                      · refine sx_tin hm dX13_wanted_27 (by omega) (by omega) (off := 1615) (by rw [z0]; rfl) (tgt := 1642) rfl ?_
                                                                                                                        refine mx_S.ext [(0, .ref l0)] (mx_sub_pos [1] rfl (show ([3, 0, 2] : List Nat).Nodup by decide)) ?_
                                                                                                                        exact j_X13_wanted_1642_ok X hF hL nn l0 h hf
                                                                                                                      · refine sx_tin hm dX13_wanted_27 (by omega) (by omega) (off := 1615) (by rw [z0]; rfl) (tgt := 1642) rfl ?_
                                                                                                                        refine mx_S.ext [(0, .ref l0)] (mx_sub_pos [1] rfl (show ([3, 0, 2] : List Nat).Nodup by decide)) ?_
                                                                                                                        exact j_X13_wanted_1642_ok X hF hL nn l0 h hf
                                                                                                                      · refine sx_tin hm dX13_wanted_27 (by omega) (by omega) (off := 1615) (by rw [z0]; rfl) (tgt := 1642) rfl ?_
                                                                                                                        refine mx_S.ext [(0, .ref l0)] (mx_sub_pos [1] rfl (show ([3, 0, 2] : List Nat).Nodup by decide)) ?_
                                                                                                                        exact j_X13_wanted_1642_ok X hF hL nn l0 h hf
                                                                                                                      · exact absurd (Int32.toInt_inj.mp (z0.trans (by decide : (104 : Int) = (104 : Int32).toInt))) n_23
                                                                                                                      · refine sx_tin hm dX13_wanted_27 (by omega) (by omega) (off := 1615) (by rw [z0]; rfl) (tgt := 1642) rfl ?_
                                                                                                                        refine mx_S.ext [(0, .ref l0)] (mx_sub_pos [1] rfl (show ([3, 0, 2] : List Nat).Nodup by decide)) ?_
                                                                                                                        exact j_X13_wanted_1642_ok X hF hL nn l0 h hf
                                                                                                                      · refine sx_tin hm dX13_wanted_27 (by omega) (by omega) (off := 1615) (by rw [z0]; rfl) (tgt := 1642) rfl ?_
                                                                                                                        refine mx_S.ext [(0, .ref l0)] (mx_sub_pos [1] rfl (show ([3, 0, 2] : List Nat).Nodup by decide)) ?_
                                                                                                                        exact j_X13_wanted_1642_ok X hF hL nn l0 h hf
                                                                                                                      · refine sx_tin hm dX13_wanted_27 (by omega) (by omega) (off := 1615) (by rw [z0]; rfl) (tgt := 1642) rfl ?_
                                                                                                                        refine mx_S.ext [(0, .ref l0)] (mx_sub_pos [1] rfl (show ([3, 0, 2] : List Nat).Nodup by decide)) ?_
                                                                                                                        exact j_X13_wanted_1642_ok X hF hL nn l0 h hf
                                                                                                                      · exact absurd (Int32.toInt_inj.mp (z0.trans (by decide : (108 : Int) = (108 : Int32).toInt))) n_24
                                                                                                                      · refine sx_tin hm dX13_wanted_27 (by omega) (by omega) (off := 1615) (by rw [z0]; rfl) (tgt := 1642) rfl ?_
                                                                                                                        refine mx_S.ext [(0, .ref l0)] (mx_sub_pos [1] rfl (show ([3, 0, 2] : List Nat).Nodup by decide)) ?_
                                                                                                                        exact j_X13_wanted_1642_ok X hF hL nn l0 h hf
                                                                                                                      · refine sx_tin hm dX13_wanted_27 (by omega) (by omega) (off := 1615) (by rw [z0]; rfl) (tgt := 1642) rfl ?_
                                                                                                                        refine mx_S.ext [(0, .ref l0)] (mx_sub_pos [1] rfl (show ([3, 0, 2] : List Nat).Nodup by decide)) ?_
                                                                                                                        exact j_X13_wanted_1642_ok X hF hL nn l0 h hf
                                                                                                                      · refine sx_tin hm dX13_wanted_27 (by omega) (by omega) (off := 1615) (by rw [z0]; rfl) (tgt := 1642) rfl ?_
                                                                                                                        refine mx_S.ext [(0, .ref l0)] (mx_sub_pos [1] rfl (show ([3, 0, 2] : List Nat).Nodup by decide)) ?_
                                                                                                                        exact j_X13_wanted_1642_ok X hF hL nn l0 h hf
                                                                                                                      · exact absurd (Int32.toInt_inj.mp (z0.trans (by decide : (112 : Int) = (112 : Int32).toInt))) n_25
                                                                                                                      · refine sx_tin hm dX13_wanted_27 (by omega) (by omega) (off := 1615) (by rw [z0]; rfl) (tgt := 1642) rfl ?_
                                                                                                                        refine mx_S.ext [(0, .ref l0)] (mx_sub_pos [1] rfl (show ([3, 0, 2] : List Nat).Nodup by decide)) ?_
                                                                                                                        exact j_X13_wanted_1642_ok X hF hL nn l0 h hf
                                                                                                                      · refine sx_tin hm dX13_wanted_27 (by omega) (by omega) (off := 1615) (by rw [z0]; rfl) (tgt := 1642) rfl ?_
                                                                                                                        refine mx_S.ext [(0, .ref l0)] (mx_sub_pos [1] rfl (show ([3, 0, 2] : List Nat).Nodup by decide)) ?_
                                                                                                                        exact j_X13_wanted_1642_ok X hF hL nn l0 h hf
                                                                                                                      · refine sx_tin hm dX13_wanted_27 (by omega) (by omega) (off := 1615) (by rw [z0]; rfl) (tgt := 1642) rfl ?_
                                                                                                                        refine mx_S.ext [(0, .ref l0)] (mx_sub_pos [1] rfl (show ([3, 0, 2] : List Nat).Nodup by decide)) ?_
                                                                                                                        exact j_X13_wanted_1642_ok X hF hL nn l0 h hf
                                                                                                                      · exact absurd (Int32.toInt_inj.mp (z0.trans (by decide : (116 : Int) = (116 : Int32).toInt))) n_26
                                                                                                                      · refine sx_tin hm dX13_wanted_27 (by omega) (by omega) (off := 1615) (by rw [z0]; rfl) (tgt := 1642) rfl ?_
                                                                                                                        refine mx_S.ext [(0, .ref l0)] (mx_sub_pos [1] rfl (show ([3, 0, 2] : List Nat).Nodup by decide)) ?_
                                                                                                                        exact j_X13_wanted_1642_ok X hF hL nn l0 h hf
                                                                                                                      · refine sx_tin hm dX13_wanted_27 (by omega) (by omega) (off := 1615) (by rw [z0]; rfl) (tgt := 1642) rfl ?_
                                                                                                                        refine mx_S.ext [(0, .ref l0)] (mx_sub_pos [1] rfl (show ([3, 0, 2] : List Nat).Nodup by decide)) ?_
                                                                                                                        exact j_X13_wanted_1642_ok X hF hL nn l0 h hf
                                                                                                                      · refine sx_tin hm dX13_wanted_27 (by omega) (by omega) (off := 1615) (by rw [z0]; rfl) (tgt := 1642) rfl ?_
                                                                                                                        refine mx_S.ext [(0, .ref l0)] (mx_sub_pos [1] rfl (show ([3, 0, 2] : List Nat).Nodup by decide)) ?_
                                                                                                                        exact j_X13_wanted_1642_ok X hF hL nn l0 h hf
                                                                                                                      · exact absurd (Int32.toInt_inj.mp (z0.trans (by decide : (120 : Int) = (120 : Int32).toInt))) n_27
                                                                                                                      · refine sx_tin hm dX13_wanted_27 (by omega) (by omega) (off := 1615) (by rw [z0]; rfl) (tgt := 1642) rfl ?_
                                                                                                                        refine mx_S.ext [(0, .ref l0)] (mx_sub_pos [1] rfl (show ([3, 0, 2] : List Nat).Nodup by decide)) ?_
                                                                                                                        exact j_X13_wanted_1642_ok X hF hL nn l0 h hf
                                                                                                                      · exact absurd (Int32.toInt_inj.mp (z0.trans (by decide : (122 : Int) = (122 : Int32).toInt))) n_28
                                                                                                                      · refine sx_tin hm dX13_wanted_27 (by omega) (by omega) (off := 1615) (by rw [z0]; rfl) (tgt := 1642) rfl ?_
                                                                                                                        refine mx_S.ext [(0, .ref l0)] (mx_sub_pos [1] rfl (show ([3, 0, 2] : List Nat).Nodup by decide)) ?_
                                                                                                                        exact j_X13_wanted_1642_ok X hF hL nn l0 h hf
                                                                                                                      · exact absurd (Int32.toInt_inj.mp (z0.trans (by decide : (124 : Int) = (124 : Int32).toInt))) n_29
                                                                                                                      · refine sx_tin hm dX13_wanted_27 (by omega) (by omega) (off := 1615) (by rw [z0]; rfl) (tgt := 1642) rfl ?_
                                                                                                                        refine mx_S.ext [(0, .ref l0)] (mx_sub_pos [1] rfl (show ([3, 0, 2] : List Nat).Nodup by decide)) ?_
                                                                                                                        exact j_X13_wanted_1642_ok X hF hL nn l0 h hf
                                                                                                                      · exact absurd (Int32.toInt_inj.mp (z0.trans (by decide : (126 : Int) = (126 : Int32).toInt))) n_30
                                                                                                                      · refine sx_tin hm dX13_wanted_27 (by omega) (by omega) (off := 1615) (by rw [z0]; rfl) (tgt := 1642) rfl ?_
                                                                                                                        refine mx_S.ext [(0, .ref l0)] (mx_sub_pos [1] rfl (show ([3, 0, 2] : List Nat).Nodup by decide)) ?_
                                                                                                                        exact j_X13_wanted_1642_ok X hF hL nn l0 h hf
                                                                                                                      · exact absurd (Int32.toInt_inj.mp (z0.trans (by decide : (128 : Int) = (128 : Int32).toInt))) n_31
                                                                                                                      · refine sx_tin hm dX13_wanted_27 (by omega) (by omega) (off := 1615) (by rw [z0]; rfl) (tgt := 1642) rfl ?_
                                                                                                                        refine mx_S.ext [(0, .ref l0)] (mx_sub_pos [1] rfl (show ([3, 0, 2] : List Nat).Nodup by decide)) ?_
                                                                                                                        exact j_X13_wanted_1642_ok X hF hL nn l0 h hf
                                                                                                                      · exact absurd (Int32.toInt_inj.mp (z0.trans (by decide : (130 : Int) = (130 : Int32).toInt))) n_32
                                                                                                                      · refine sx_tin hm dX13_wanted_27 (by omega) (by omega) (off := 1615) (by rw [z0]; rfl) (tgt := 1642) rfl ?_
                                                                                                                        refine mx_S.ext [(0, .ref l0)] (mx_sub_pos [1] rfl (show ([3, 0, 2] : List Nat).Nodup by decide)) ?_
                                                                                                                        exact j_X13_wanted_1642_ok X hF hL nn l0 h hf
                                                                                                                      · refine sx_tin hm dX13_wanted_27 (by omega) (by omega) (off := 1615) (by rw [z0]; rfl) (tgt := 1642) rfl ?_
                                                                                                                        refine mx_S.ext [(0, .ref l0)] (mx_sub_pos [1] rfl (show ([3, 0, 2] : List Nat).Nodup by decide)) ?_
                                                                                                                        exact j_X13_wanted_1642_ok X hF hL nn l0 h hf
                                                                                                                      · refine sx_tin hm dX13_wanted_27 (by omega) (by omega) (off := 1615) (by rw [z0]; rfl) (tgt := 1642) rfl ?_
                                                                                                                        refine mx_S.ext [(0, .ref l0)] (mx_sub_pos [1] rfl (show ([3, 0, 2] : List Nat).Nodup by decide)) ?_
                                                                                                                        exact j_X13_wanted_1642_ok X hF hL nn l0 h hf
                                                                                                                      · refine sx_tin hm dX13_wanted_27 (by omega) (by omega) (off := 1615) (by rw [z0]; rfl) (tgt := 1642) rfl ?_
                                                                                                                        refine mx_S.ext [(0, .ref l0)] (mx_sub_pos [1] rfl (show ([3, 0, 2] : List Nat).Nodup by decide)) ?_
                                                                                                                        exact j_X13_wanted_1642_ok X hF hL nn l0 h hf
                                                                                                                      · refine sx_tin hm dX13_wanted_27 (by omega) (by omega) (off := 1615) (by rw [z0]; rfl) (tgt := 1642) rfl ?_
                                                                                                                        refine mx_S.ext [(0, .ref l0)] (mx_sub_pos [1] rfl (show ([3, 0, 2] : List Nat).Nodup by decide)) ?_
                                                                                                                        exact j_X13_wanted_1642_ok X hF hL nn l0 h hf
                                                                                                                      · refine sx_tin hm dX13_wanted_27 (by omega) (by omega) (off := 1615) (by rw [z0]; rfl) (tgt := 1642) rfl ?_
                                                                                                                        refine mx_S.ext [(0, .ref l0)] (mx_sub_pos [1] rfl (show ([3, 0, 2] : List Nat).Nodup by decide)) ?_
                                                                                                                        exact j_X13_wanted_1642_ok X hF hL nn l0 h hf
                                                                                                                      · refine sx_tin hm dX13_wanted_27 (by omega) (by omega) (off := 1615) (by rw [z0]; rfl) (tgt := 1642) rfl ?_
                                                                                                                        refine mx_S.ext [(0, .ref l0)] (mx_sub_pos [1] rfl (show ([3, 0, 2] : List Nat).Nodup by decide)) ?_
                                                                                                                        exact j_X13_wanted_1642_ok X hF hL nn l0 h hf
                                                                                                                      · refine sx_tin hm dX13_wanted_27 (by omega) (by omega) (off := 1615) (by rw [z0]; rfl) (tgt := 1642) rfl ?_
                                                                                                                        refine mx_S.ext [(0, .ref l0)] (mx_sub_pos [1] rfl (show ([3, 0, 2] : List Nat).Nodup by decide)) ?_
                                                                                                                        exact j_X13_wanted_1642_ok X hF hL nn l0 h hf
                                                                                                                      · refine sx_tin hm dX13_wanted_27 (by omega) (by omega) (off := 1615) (by rw [z0]; rfl) (tgt := 1642) rfl ?_
                                                                                                                        refine mx_S.ext [(0, .ref l0)] (mx_sub_pos [1] rfl (show ([3, 0, 2] : List Nat).Nodup by decide)) ?_
                                                                                                                        exact j_X13_wanted_1642_ok X hF hL nn l0 h hf
                                                                                                                      · refine sx_tin hm dX13_wanted_27 (by omega) (by omega) (off := 1615) (by rw [z0]; rfl) (tgt := 1642) rfl ?_
                                                                                                                        refine mx_S.ext [(0, .ref l0)] (mx_sub_pos [1] rfl (show ([3, 0, 2] : List Nat).Nodup by decide)) ?_
                                                                                                                        exact j_X13_wanted_1642_ok X hF hL nn l0 h hf
                                                                                                                      · refine sx_tin hm dX13_wanted_27 (by omega) (by omega) (off := 1615) (by rw [z0]; rfl) (tgt := 1642) rfl ?_
                                                                                                                        refine mx_S.ext [(0, .ref l0)] (mx_sub_pos [1] rfl (show ([3, 0, 2] : List Nat).Nodup by decide)) ?_
                                                                                                                        exact j_X13_wanted_1642_ok X hF hL nn l0 h hf
                                                                                                                      · refine sx_tin hm dX13_wanted_27 (by omega) (by omega) (off := 1615) (by rw [z0]; rfl) (tgt := 1642) rfl ?_
                                                                                                                        refine mx_S.ext [(0, .ref l0)] (mx_sub_pos [1] rfl (show ([3, 0, 2] : List Nat).Nodup by decide)) ?_
                                                                                                                        exact j_X13_wanted_1642_ok X hF hL nn l0 h hf
                                                                                                                      · refine sx_tin hm dX13_wanted_27 (by omega) (by omega) (off := 1615) (by rw [z0]; rfl) (tgt := 1642) rfl ?_
                                                                                                                        refine mx_S.ext [(0, .ref l0)] (mx_sub_pos [1] rfl (show ([3, 0, 2] : List Nat).Nodup by decide)) ?_
                                                                                                                        exact j_X13_wanted_1642_ok X hF hL nn l0 h hf
                                                                                                                      · refine sx_tin hm dX13_wanted_27 (by omega) (by omega) (off := 1615) (by rw [z0]; rfl) (tgt := 1642) rfl ?_
                                                                                                                        refine mx_S.ext [(0, .ref l0)] (mx_sub_pos [1] rfl (show ([3, 0, 2] : List Nat).Nodup by decide)) ?_
                                                                                                                        exact j_X13_wanted_1642_ok X hF hL nn l0 h hf
                                                                                                                      · refine sx_tin hm dX13_wanted_27 (by omega) (by omega) (off := 1615) (by rw [z0]; rfl) (tgt := 1642) rfl ?_
                                                                                                                        refine mx_S.ext [(0, .ref l0)] (mx_sub_pos [1] rfl (show ([3, 0, 2] : List Nat).Nodup by decide)) ?_
                                                                                                                        exact j_X13_wanted_1642_ok X hF hL nn l0 h hf
                                                                                                                      · refine sx_tin hm dX13_wanted_27 (by omega) (by omega) (off := 1615) (by rw [z0]; rfl) (tgt := 1642) rfl ?_
                                                                                                                        refine mx_S.ext [(0, .ref l0)] (mx_sub_pos [1] rfl (show ([3, 0, 2] : List Nat).Nodup by decide)) ?_
                                                                                                                        exact j_X13_wanted_1642_ok X hF hL nn l0 h hf
                                                                                                                      · refine sx_tin hm dX13_wanted_27 (by omega) (by omega) (off := 1615) (by rw [z0]; rfl) (tgt := 1642) rfl ?_
                                                                                                                        refine mx_S.ext [(0, .ref l0)] (mx_sub_pos [1] rfl (show ([3, 0, 2] : List Nat).Nodup by decide)) ?_
                                                                                                                        exact j_X13_wanted_1642_ok X hF hL nn l0 h hf
                                                                                                                      · refine sx_tin hm dX13_wanted_27 (by omega) (by omega) (off := 1615) (by rw [z0]; rfl) (tgt := 1642) rfl ?_
                                                                                                                        refine mx_S.ext [(0, .ref l0)] (mx_sub_pos [1] rfl (show ([3, 0, 2] : List Nat).Nodup by decide)) ?_
                                                                                                                        exact j_X13_wanted_1642_ok X hF hL nn l0 h hf
                                                                                                                      · refine sx_tin hm dX13_wanted_27 (by omega) (by omega) (off := 1615) (by rw [z0]; rfl) (tgt := 1642) rfl ?_
                                                                                                                        refine mx_S.ext [(0, .ref l0)] (mx_sub_pos [1] rfl (show ([3, 0, 2] : List Nat).Nodup by decide)) ?_
                                                                                                                        exact j_X13_wanted_1642_ok X hF hL nn l0 h hf
                                                                                                                      · refine sx_tin hm dX13_wanted_27 (by omega) (by omega) (off := 1615) (by rw [z0]; rfl) (tgt := 1642) rfl ?_
                                                                                                                        refine mx_S.ext [(0, .ref l0)] (mx_sub_pos [1] rfl (show ([3, 0, 2] : List Nat).Nodup by decide)) ?_
                                                                                                                        exact j_X13_wanted_1642_ok X hF hL nn l0 h hf
                                                                                                                      · refine sx_tin hm dX13_wanted_27 (by omega) (by omega) (off := 1615) (by rw [z0]; rfl) (tgt := 1642) rfl ?_
                                                                                                                        refine mx_S.ext [(0, .ref l0)] (mx_sub_pos [1] rfl (show ([3, 0, 2] : List Nat).Nodup by decide)) ?_
                                                                                                                        exact j_X13_wanted_1642_ok X hF hL nn l0 h hf
                                                                                                                      · refine sx_tin hm dX13_wanted_27 (by omega) (by omega) (off := 1615) (by rw [z0]; rfl) (tgt := 1642) rfl ?_
                                                                                                                        refine mx_S.ext [(0, .ref l0)] (mx_sub_pos [1] rfl (show ([3, 0, 2] : List Nat).Nodup by decide)) ?_
                                                                                                                        exact j_X13_wanted_1642_ok X hF hL nn l0 h hf
                                                                                                                      · exact absurd (Int32.toInt_inj.mp (z0.trans (by decide : (153 : Int) = (153 : Int32).toInt))) n_33
                                                                                                                      · exact absurd (Int32.toInt_inj.mp (z0.trans (by decide : (154 : Int) = (154 : Int32).toInt))) n_34
                                                                                                                      · refine sx_tin hm dX13_wanted_27 (by omega) (by omega) (off := 1615) (by rw [z0]; rfl) (tgt := 1642) rfl ?_
                                                                                                                        refine mx_S.ext [(0, .ref l0)] (mx_sub_pos [1] rfl (show ([3, 0, 2] : List Nat).Nodup by decide)) ?_
                                                                                                                        exact j_X13_wanted_1642_ok X hF hL nn l0 h hf
                                                                                                                      · refine sx_tin hm dX13_wanted_27 (by omega) (by omega) (off := 1615) (by rw [z0]; rfl) (tgt := 1642) rfl ?_
                                                                                                                        refine mx_S.ext [(0, .ref l0)] (mx_sub_pos [1] rfl (show ([3, 0, 2] : List Nat).Nodup by decide)) ?_
                                                                                                                        exact j_X13_wanted_1642_ok X hF hL nn l0 h hf
                                                                                                                      · refine sx_tin hm dX13_wanted_27 (by omega) (by omega) (off := 1615) (by rw [z0]; rfl) (tgt := 1642) rfl ?_
                                                                                                                        refine mx_S.ext [(0, .ref l0)] (mx_sub_pos [1] rfl (show ([3, 0, 2] : List Nat).Nodup by decide)) ?_
                                                                                                                        exact j_X13_wanted_1642_ok X hF hL nn l0 h hf
                                                                                                                      · refine sx_tin hm dX13_wanted_27 (by omega) (by omega) (off := 1615) (by rw [z0]; rfl) (tgt := 1642) rfl ?_
                                                                                                                        refine mx_S.ext [(0, .ref l0)] (mx_sub_pos [1] rfl (show ([3, 0, 2] : List Nat).Nodup by decide)) ?_
                                                                                                                        exact j_X13_wanted_1642_ok X hF hL nn l0 h hf
                                                                                                                      · exact absurd (Int32.toInt_inj.mp (z0.trans (by decide : (159 : Int) = (159 : Int32).toInt))) n_35
                                                                                                                      · exact absurd (Int32.toInt_inj.mp (z0.trans (by decide : (160 : Int) = (160 : Int32).toInt))) n_36
                                                                                                                      · exact absurd (Int32.toInt_inj.mp (z0.trans (by decide : (161 : Int) = (161 : Int32).toInt))) n_37
                                                                                                                      · exact absurd (Int32.toInt_inj.mp (z0.trans (by decide : (162 : Int) = (162 : Int32).toInt))) n_38
                                                                                                                      · exact absurd (Int32.toInt_inj.mp (z0.trans (by decide : (163 : Int) = (163 : Int32).toInt))) n_39
                                                                                                                      · exact absurd (Int32.toInt_inj.mp (z0.trans (by decide : (164 : Int) = (164 : Int32).toInt))) n_40
                                                                                                                      · exact absurd (Int32.toInt_inj.mp (z0.trans (by decide : (165 : Int) = (165 : Int32).toInt))) n_41
                                                                                                                      · exact absurd (Int32.toInt_inj.mp (z0.trans (by decide : (166 : Int) = (166 : Int32).toInt))) n_42
                                                                                                                      · exact absurd (Int32.toInt_inj.mp (z0.trans (by decide : (167 : Int) = (167 : Int32).toInt))) n_43
                                                                                                                      · refine sx_tin hm dX13_wanted_27 (by omega) (by omega) (off := 1615) (by rw [z0]; rfl) (tgt := 1642) rfl ?_
                                                                                                                        refine mx_S.ext [(0, .ref l0)] (mx_sub_pos [1] rfl (show ([3, 0, 2] : List Nat).Nodup by decide)) ?_
                                                                                                                        exact j_X13_wanted_1642_ok X hF hL nn l0 h hf
                                                                                                                      · refine sx_tin hm dX13_wanted_27 (by omega) (by omega) (off := 1615) (by rw [z0]; rfl) (tgt := 1642) rfl ?_
                                                                                                                        refine mx_S.ext [(0, .ref l0)] (mx_sub_pos [1] rfl (show ([3, 0, 2] : List Nat).Nodup by decide)) ?_
                                                                                                                        exact j_X13_wanted_1642_ok X hF hL nn l0 h hf
                                                                                                                      · refine sx_tin hm dX13_wanted_27 (by omega) (by omega) (off := 1615) (by rw [z0]; rfl) (tgt := 1642) rfl ?_
                                                                                                                        refine mx_S.ext [(0, .ref l0)] (mx_sub_pos [1] rfl (show ([3, 0, 2] : List Nat).Nodup by decide)) ?_
                                                                                                                        exact j_X13_wanted_1642_ok X hF hL nn l0 h hf
                                                                                                                      · refine sx_tin hm dX13_wanted_27 (by omega) (by omega) (off := 1615) (by rw [z0]; rfl) (tgt := 1642) rfl ?_
                                                                                                                        refine mx_S.ext [(0, .ref l0)] (mx_sub_pos [1] rfl (show ([3, 0, 2] : List Nat).Nodup by decide)) ?_
                                                                                                                        exact j_X13_wanted_1642_ok X hF hL nn l0 h hf
                                                                                                                      · exact absurd (Int32.toInt_inj.mp (z0.trans (by decide : (172 : Int) = (172 : Int32).toInt))) n_44
                                                                                                                      · refine sx_tin hm dX13_wanted_27 (by omega) (by omega) (off := 1615) (by rw [z0]; rfl) (tgt := 1642) rfl ?_
                                                                                                                        refine mx_S.ext [(0, .ref l0)] (mx_sub_pos [1] rfl (show ([3, 0, 2] : List Nat).Nodup by decide)) ?_
                                                                                                                        exact j_X13_wanted_1642_ok X hF hL nn l0 h hf
                                                                                                                      · refine sx_tin hm dX13_wanted_27 (by omega) (by omega) (off := 1615) (by rw [z0]; rfl) (tgt := 1642) rfl ?_
                                                                                                                        refine mx_S.ext [(0, .ref l0)] (mx_sub_pos [1] rfl (show ([3, 0, 2] : List Nat).Nodup by decide)) ?_
                                                                                                                        exact j_X13_wanted_1642_ok X hF hL nn l0 h hf
                                                                                                                      · refine sx_tin hm dX13_wanted_27 (by omega) (by omega) (off := 1615) (by rw [z0]; rfl) (tgt := 1642) rfl ?_
                                                                                                                        refine mx_S.ext [(0, .ref l0)] (mx_sub_pos [1] rfl (show ([3, 0, 2] : List Nat).Nodup by decide)) ?_
                                                                                                                        exact j_X13_wanted_1642_ok X hF hL nn l0 h hf
                                                                                                                      · exact absurd (Int32.toInt_inj.mp (z0.trans (by decide : (176 : Int) = (176 : Int32).toInt))) n_45
                                                                                                                      · exact absurd (Int32.toInt_inj.mp (z0.trans (by decide : (177 : Int) = (177 : Int32).toInt))) n_46
                                                                                                                      · refine sx_tin hm dX13_wanted_27 (by omega) (by omega) (off := 1615) (by rw [z0]; rfl) (tgt := 1642) rfl ?_
                                                                                                                        refine mx_S.ext [(0, .ref l0)] (mx_sub_pos [1] rfl (show ([3, 0, 2] : List Nat).Nodup by decide)) ?_
                                                                                                                        exact j_X13_wanted_1642_ok X hF hL nn l0 h hf
                                                                                                                      · refine sx_tin hm dX13_wanted_27 (by omega) (by omega) (off := 1615) (by rw [z0]; rfl) (tgt := 1642) rfl ?_
                                                                                                                        refine mx_S.ext [(0, .ref l0)] (mx_sub_pos [1] rfl (show ([3, 0, 2] : List Nat).Nodup by decide)) ?_
                                                                                                                        exact j_X13_wanted_1642_ok X hF hL nn l0 h hf
                                                                                                                      · exact absurd (Int32.toInt_inj.mp (z0.trans (by decide : (180 : Int) = (180 : Int32).toInt))) n_47
                                                                                                                      · exact absurd (Int32.toInt_inj.mp (z0.trans (by decide : (181 : Int) = (181 : Int32).toInt))) n_48
                                                                                                                      · exact absurd (Int32.toInt_inj.mp (z0.trans (by decide : (182 : Int) = (182 : Int32).toInt))) n_49
                                                                                                                      · refine sx_tin hm dX13_wanted_27 (by omega) (by omega) (off := 1615) (by rw [z0]; rfl) (tgt := 1642) rfl ?_
                                                                                                                        refine mx_S.ext [(0, .ref l0)] (mx_sub_pos [1] rfl (show ([3, 0, 2] : List Nat).Nodup by decide)) ?_
                                                                                                                        exact j_X13_wanted_1642_ok X hF hL nn l0 h hf
                                                                                                                      · exact absurd (Int32.toInt_inj.mp (z0.trans (by decide : (184 : Int) = (184 : Int32).toInt))) n_50
                                                                                                                      · refine sx_tin hm dX13_wanted_27 (by omega) (by omega) (off := 1615) (by rw [z0]; rfl) (tgt := 1642) rfl ?_
                                                                                                                        refine mx_S.ext [(0, .ref l0)] (mx_sub_pos [1] rfl (show ([3, 0, 2] : List Nat).Nodup by decide)) ?_
                                                                                                                        exact j_X13_wanted_1642_ok X hF hL nn l0 h hf
                                                                                                                      · exact absurd (Int32.toInt_inj.mp (z0.trans (by decide : (186 : Int) = (186 : Int32).toInt))) n_51
                                                                                                                      · exact absurd (Int32.toInt_inj.mp (z0.trans (by decide : (187 : Int) = (187 : Int32).toInt))) n_52
                                                                                                                      · exact absurd (Int32.toInt_inj.mp (z0.trans (by decide : (188 : Int) = (188 : Int32).toInt))) n_53
                                                                                                                      · exact absurd (Int32.toInt_inj.mp (z0.trans (by decide : (189 : Int) = (189 : Int32).toInt))) n_54
                                                                                                                      · exact absurd (Int32.toInt_inj.mp (z0.trans (by decide : (190 : Int) = (190 : Int32).toInt))) n_55
                                                                                                                      · exact absurd (Int32.toInt_inj.mp (z0.trans (by decide : (191 : Int) = (191 : Int32).toInt))) n_56
                                                                                                                      · exact absurd (Int32.toInt_inj.mp (z0.trans (by decide : (192 : Int) = (192 : Int32).toInt))) n_57
